/-! decode rows of the helpers -/
theorem dL_move_3 : decode cL_move 3 = .ok (.aload_n 0, 1) := by decide +kernel
theorem dL_move_4 : decode cL_move 4 = .ok (.iload_n 1, 1) := by decide +kernel
theorem dL_move_5 : decode cL_move 5 = .ok (.iload_n 2, 1) := by decide +kernel
theorem dL_move_6 : decode cL_move 6 = .ok (.iload_n 3, 1) := by decide +kernel
theorem dL_move_7 : decode cL_move 7 = .ok (.invokevirtual 32, 3) := by decide +kernel
theorem dL_move_10 : decode cL_move 10 = .ok (.i2l, 1) := by decide +kernel
theorem dL_move_11 : decode cL_move 11 = .ok (.lastore, 1) := by decide +kernel
theorem dL_move_12 : decode cL_move 12 = .ok (.goto 11, 3) := by decide +kernel
theorem dL_move_15 : decode cL_move 15 = .ok (.astore 5, 2) := by decide +kernel
theorem dL_move_17 : decode cL_move 17 = .ok (.iconst 1, 1) := by decide +kernel
theorem dL_move_18 : decode cL_move 18 = .ok (.ireturn, 1) := by decide +kernel
theorem dL_move_19 : decode cL_move 19 = .ok (.astore 5, 2) := by decide +kernel
theorem dL_move_21 : decode cL_move 21 = .ok (.iconst 2, 1) := by decide +kernel
theorem dL_move_22 : decode cL_move 22 = .ok (.ireturn, 1) := by decide +kernel
theorem dL_move_23 : decode cL_move 23 = .ok (.iconst 0, 1) := by decide +kernel
theorem dL_move_24 : decode cL_move 24 = .ok (.ireturn, 1) := by decide +kernel
theorem dL_stain_0 : decode cL_stain 0 = .ok (.aload_n 3, 1) := by decide +kernel
theorem dL_stain_1 : decode cL_stain 1 = .ok (.iconst 0, 1) := by decide +kernel
theorem dL_stain_2 : decode cL_stain 2 = .ok (.aload_n 0, 1) := by decide +kernel
theorem dL_stain_3 : decode cL_stain 3 = .ok (.iload_n 1, 1) := by decide +kernel
theorem dL_stain_4 : decode cL_stain 4 = .ok (.iload_n 2, 1) := by decide +kernel
theorem dL_stain_5 : decode cL_stain 5 = .ok (.invokevirtual 36, 3) := by decide +kernel
theorem dL_stain_8 : decode cL_stain 8 = .ok (.i2l, 1) := by decide +kernel
theorem dL_stain_9 : decode cL_stain 9 = .ok (.lastore, 1) := by decide +kernel
theorem dL_stain_10 : decode cL_stain 10 = .ok (.goto 15, 3) := by decide +kernel
theorem dL_stain_13 : decode cL_stain 13 = .ok (.astore 4, 2) := by decide +kernel
theorem dL_stain_15 : decode cL_stain 15 = .ok (.iconst 1, 1) := by decide +kernel
theorem dL_stain_16 : decode cL_stain 16 = .ok (.ireturn, 1) := by decide +kernel
theorem dL_stain_17 : decode cL_stain 17 = .ok (.astore 4, 2) := by decide +kernel
theorem dL_stain_19 : decode cL_stain 19 = .ok (.iconst 2, 1) := by decide +kernel
theorem dL_stain_20 : decode cL_stain 20 = .ok (.ireturn, 1) := by decide +kernel
theorem dL_stain_21 : decode cL_stain 21 = .ok (.astore 4, 2) := by decide +kernel
theorem dL_stain_23 : decode cL_stain 23 = .ok (.iconst 3, 1) := by decide +kernel
theorem dL_stain_24 : decode cL_stain 24 = .ok (.ireturn, 1) := by decide +kernel
theorem dL_stain_25 : decode cL_stain 25 = .ok (.iconst 0, 1) := by decide +kernel
theorem dL_stain_26 : decode cL_stain 26 = .ok (.ireturn, 1) := by decide +kernel
theorem dL_wash_0 : decode cL_wash 0 = .ok (.aload_n 2, 1) := by decide +kernel
theorem dL_wash_1 : decode cL_wash 1 = .ok (.iconst 0, 1) := by decide +kernel
theorem dL_wash_2 : decode cL_wash 2 = .ok (.aload_n 0, 1) := by decide +kernel
theorem dL_wash_3 : decode cL_wash 3 = .ok (.iload_n 1, 1) := by decide +kernel
theorem dL_wash_4 : decode cL_wash 4 = .ok (.invokevirtual 39, 3) := by decide +kernel
theorem dL_wash_7 : decode cL_wash 7 = .ok (.i2l, 1) := by decide +kernel
theorem dL_wash_8 : decode cL_wash 8 = .ok (.lastore, 1) := by decide +kernel
theorem dL_wash_9 : decode cL_wash 9 = .ok (.goto 9, 3) := by decide +kernel
theorem dL_wash_12 : decode cL_wash 12 = .ok (.astore_n 3, 1) := by decide +kernel
theorem dL_wash_13 : decode cL_wash 13 = .ok (.iconst 1, 1) := by decide +kernel
theorem dL_wash_14 : decode cL_wash 14 = .ok (.ireturn, 1) := by decide +kernel
theorem dL_wash_15 : decode cL_wash 15 = .ok (.astore_n 3, 1) := by decide +kernel
theorem dL_wash_16 : decode cL_wash 16 = .ok (.iconst 2, 1) := by decide +kernel
theorem dL_wash_17 : decode cL_wash 17 = .ok (.ireturn, 1) := by decide +kernel
theorem dL_wash_18 : decode cL_wash 18 = .ok (.iconst 0, 1) := by decide +kernel
theorem dL_wash_19 : decode cL_wash 19 = .ok (.ireturn, 1) := by decide +kernel
theorem dL_host_0 : decode cL_host 0 = .ok (.aload_n 2, 1) := by decide +kernel
theorem dL_host_1 : decode cL_host 1 = .ok (.iconst 0, 1) := by decide +kernel
theorem dL_host_2 : decode cL_host 2 = .ok (.aload_n 0, 1) := by decide +kernel
theorem dL_host_3 : decode cL_host 3 = .ok (.iload_n 1, 1) := by decide +kernel
theorem dL_host_4 : decode cL_host 4 = .ok (.invokevirtual 42, 3) := by decide +kernel
theorem dL_host_7 : decode cL_host 7 = .ok (.i2l, 1) := by decide +kernel
theorem dL_host_8 : decode cL_host 8 = .ok (.lastore, 1) := by decide +kernel
theorem dL_host_9 : decode cL_host 9 = .ok (.goto 9, 3) := by decide +kernel
theorem dL_host_12 : decode cL_host 12 = .ok (.astore_n 3, 1) := by decide +kernel
theorem dL_host_13 : decode cL_host 13 = .ok (.iconst 1, 1) := by decide +kernel
theorem dL_host_14 : decode cL_host 14 = .ok (.ireturn, 1) := by decide +kernel
theorem dL_host_15 : decode cL_host 15 = .ok (.astore_n 3, 1) := by decide +kernel
theorem dL_host_16 : decode cL_host 16 = .ok (.iconst 2, 1) := by decide +kernel
theorem dL_host_17 : decode cL_host 17 = .ok (.ireturn, 1) := by decide +kernel
theorem dL_host_18 : decode cL_host 18 = .ok (.iconst 0, 1) := by decide +kernel
theorem dL_host_19 : decode cL_host 19 = .ok (.ireturn, 1) := by decide +kernel
theorem dL_napkinOf_0 : decode cL_napkinOf 0 = .ok (.aload_n 3, 1) := by decide +kernel
theorem dL_napkinOf_1 : decode cL_napkinOf 1 = .ok (.iconst 0, 1) := by decide +kernel
theorem dL_napkinOf_2 : decode cL_napkinOf 2 = .ok (.aload_n 0, 1) := by decide +kernel
theorem dL_napkinOf_3 : decode cL_napkinOf 3 = .ok (.iload_n 1, 1) := by decide +kernel
theorem dL_napkinOf_4 : decode cL_napkinOf 4 = .ok (.iload_n 2, 1) := by decide +kernel
theorem dL_napkinOf_5 : decode cL_napkinOf 5 = .ok (.invokevirtual 45, 3) := by decide +kernel
theorem dL_napkinOf_8 : decode cL_napkinOf 8 = .ok (.i2l, 1) := by decide +kernel
theorem dL_napkinOf_9 : decode cL_napkinOf 9 = .ok (.lastore, 1) := by decide +kernel
theorem dL_napkinOf_10 : decode cL_napkinOf 10 = .ok (.goto 11, 3) := by decide +kernel
theorem dL_napkinOf_13 : decode cL_napkinOf 13 = .ok (.astore 4, 2) := by decide +kernel
theorem dL_napkinOf_15 : decode cL_napkinOf 15 = .ok (.iconst 1, 1) := by decide +kernel
theorem dL_napkinOf_16 : decode cL_napkinOf 16 = .ok (.ireturn, 1) := by decide +kernel
theorem dL_napkinOf_17 : decode cL_napkinOf 17 = .ok (.astore 4, 2) := by decide +kernel
theorem dL_napkinOf_19 : decode cL_napkinOf 19 = .ok (.iconst 2, 1) := by decide +kernel
theorem dL_napkinOf_20 : decode cL_napkinOf 20 = .ok (.ireturn, 1) := by decide +kernel
theorem dL_napkinOf_21 : decode cL_napkinOf 21 = .ok (.iconst 0, 1) := by decide +kernel
theorem dL_napkinOf_22 : decode cL_napkinOf 22 = .ok (.ireturn, 1) := by decide +kernel
theorem dL_tableOf_0 : decode cL_tableOf 0 = .ok (.aload_n 3, 1) := by decide +kernel
theorem dL_tableOf_1 : decode cL_tableOf 1 = .ok (.iconst 0, 1) := by decide +kernel
theorem dL_tableOf_2 : decode cL_tableOf 2 = .ok (.aload_n 0, 1) := by decide +kernel
theorem dL_tableOf_3 : decode cL_tableOf 3 = .ok (.iload_n 1, 1) := by decide +kernel
theorem dL_tableOf_4 : decode cL_tableOf 4 = .ok (.iload_n 2, 1) := by decide +kernel
theorem dL_tableOf_5 : decode cL_tableOf 5 = .ok (.invokevirtual 48, 3) := by decide +kernel
theorem dL_tableOf_8 : decode cL_tableOf 8 = .ok (.i2l, 1) := by decide +kernel
theorem dL_tableOf_9 : decode cL_tableOf 9 = .ok (.lastore, 1) := by decide +kernel
theorem dL_tableOf_10 : decode cL_tableOf 10 = .ok (.goto 11, 3) := by decide +kernel
theorem dL_tableOf_13 : decode cL_tableOf 13 = .ok (.astore 4, 2) := by decide +kernel
theorem dL_tableOf_15 : decode cL_tableOf 15 = .ok (.iconst 1, 1) := by decide +kernel
theorem dL_tableOf_16 : decode cL_tableOf 16 = .ok (.ireturn, 1) := by decide +kernel
theorem dL_tableOf_17 : decode cL_tableOf 17 = .ok (.astore 4, 2) := by decide +kernel
theorem dL_tableOf_19 : decode cL_tableOf 19 = .ok (.iconst 2, 1) := by decide +kernel
theorem dL_tableOf_20 : decode cL_tableOf 20 = .ok (.ireturn, 1) := by decide +kernel
theorem dL_tableOf_21 : decode cL_tableOf 21 = .ok (.iconst 0, 1) := by decide +kernel
theorem dL_tableOf_22 : decode cL_tableOf 22 = .ok (.ireturn, 1) := by decide +kernel
theorem dL_seat_0 : decode cL_seat 0 = .ok (.aload_n 3, 1) := by decide +kernel
theorem dL_seat_1 : decode cL_seat 1 = .ok (.iconst 0, 1) := by decide +kernel
theorem dL_seat_2 : decode cL_seat 2 = .ok (.aload_n 0, 1) := by decide +kernel
theorem dL_seat_3 : decode cL_seat 3 = .ok (.iload_n 1, 1) := by decide +kernel
theorem dL_seat_4 : decode cL_seat 4 = .ok (.iload_n 2, 1) := by decide +kernel
theorem dL_seat_5 : decode cL_seat 5 = .ok (.invokevirtual 51, 3) := by decide +kernel
theorem dL_seat_8 : decode cL_seat 8 = .ok (.i2l, 1) := by decide +kernel
theorem dL_seat_9 : decode cL_seat 9 = .ok (.lastore, 1) := by decide +kernel
theorem dL_seat_10 : decode cL_seat 10 = .ok (.goto 11, 3) := by decide +kernel
theorem dL_seat_13 : decode cL_seat 13 = .ok (.astore 4, 2) := by decide +kernel
theorem dL_seat_15 : decode cL_seat 15 = .ok (.iconst 1, 1) := by decide +kernel
theorem dL_seat_16 : decode cL_seat 16 = .ok (.ireturn, 1) := by decide +kernel
theorem dL_seat_17 : decode cL_seat 17 = .ok (.astore 4, 2) := by decide +kernel
theorem dL_seat_19 : decode cL_seat 19 = .ok (.iconst 2, 1) := by decide +kernel
theorem dL_seat_20 : decode cL_seat 20 = .ok (.ireturn, 1) := by decide +kernel
theorem dL_seat_21 : decode cL_seat 21 = .ok (.iconst 0, 1) := by decide +kernel
theorem dL_seat_22 : decode cL_seat 22 = .ok (.ireturn, 1) := by decide +kernel
theorem dL_said_0 : decode cL_said 0 = .ok (.aload_n 3, 1) := by decide +kernel
theorem dL_said_1 : decode cL_said 1 = .ok (.iconst 0, 1) := by decide +kernel
theorem dL_said_2 : decode cL_said 2 = .ok (.aload_n 0, 1) := by decide +kernel
theorem dL_said_3 : decode cL_said 3 = .ok (.iload_n 1, 1) := by decide +kernel
theorem dL_said_4 : decode cL_said 4 = .ok (.iload_n 2, 1) := by decide +kernel
theorem dL_said_5 : decode cL_said 5 = .ok (.invokevirtual 56, 3) := by decide +kernel
theorem dL_said_8 : decode cL_said 8 = .ok (.i2l, 1) := by decide +kernel
theorem dL_said_9 : decode cL_said 9 = .ok (.lastore, 1) := by decide +kernel
theorem dL_said_10 : decode cL_said 10 = .ok (.goto 11, 3) := by decide +kernel
theorem dL_said_13 : decode cL_said 13 = .ok (.astore 4, 2) := by decide +kernel
theorem dL_said_15 : decode cL_said 15 = .ok (.iconst 1, 1) := by decide +kernel
theorem dL_said_16 : decode cL_said 16 = .ok (.ireturn, 1) := by decide +kernel
theorem dL_said_17 : decode cL_said 17 = .ok (.astore 4, 2) := by decide +kernel
theorem dL_said_19 : decode cL_said 19 = .ok (.iconst 2, 1) := by decide +kernel
theorem dL_said_20 : decode cL_said 20 = .ok (.ireturn, 1) := by decide +kernel
theorem dL_said_21 : decode cL_said 21 = .ok (.iconst 0, 1) := by decide +kernel
theorem dL_said_22 : decode cL_said 22 = .ok (.ireturn, 1) := by decide +kernel
theorem dL_wrong_0 : decode cL_wrong 0 = .ok (.aload_n 2, 1) := by decide +kernel
theorem dL_wrong_1 : decode cL_wrong 1 = .ok (.iconst 0, 1) := by decide +kernel
theorem dL_wrong_2 : decode cL_wrong 2 = .ok (.aload_n 0, 1) := by decide +kernel
theorem dL_wrong_3 : decode cL_wrong 3 = .ok (.iload_n 1, 1) := by decide +kernel
theorem dL_wrong_4 : decode cL_wrong 4 = .ok (.invokevirtual 59, 3) := by decide +kernel
theorem dL_wrong_7 : decode cL_wrong 7 = .ok (.i2l, 1) := by decide +kernel
theorem dL_wrong_8 : decode cL_wrong 8 = .ok (.lastore, 1) := by decide +kernel
theorem dL_wrong_9 : decode cL_wrong 9 = .ok (.goto 6, 3) := by decide +kernel
theorem dL_wrong_12 : decode cL_wrong 12 = .ok (.astore_n 3, 1) := by decide +kernel
theorem dL_wrong_13 : decode cL_wrong 13 = .ok (.iconst 1, 1) := by decide +kernel
theorem dL_wrong_14 : decode cL_wrong 14 = .ok (.ireturn, 1) := by decide +kernel
theorem dL_wrong_15 : decode cL_wrong 15 = .ok (.iconst 0, 1) := by decide +kernel
theorem dL_wrong_16 : decode cL_wrong 16 = .ok (.ireturn, 1) := by decide +kernel
theorem dL_wrongAgain_0 : decode cL_wrongAgain 0 = .ok (.aload_n 2, 1) := by decide +kernel
theorem dL_wrongAgain_1 : decode cL_wrongAgain 1 = .ok (.iconst 0, 1) := by decide +kernel
theorem dL_wrongAgain_2 : decode cL_wrongAgain 2 = .ok (.aload_n 0, 1) := by decide +kernel
theorem dL_wrongAgain_3 : decode cL_wrongAgain 3 = .ok (.iload_n 1, 1) := by decide +kernel
theorem dL_wrongAgain_4 : decode cL_wrongAgain 4 = .ok (.invokevirtual 62, 3) := by decide +kernel
theorem dL_wrongAgain_7 : decode cL_wrongAgain 7 = .ok (.i2l, 1) := by decide +kernel
theorem dL_wrongAgain_8 : decode cL_wrongAgain 8 = .ok (.lastore, 1) := by decide +kernel
theorem dL_wrongAgain_9 : decode cL_wrongAgain 9 = .ok (.goto 6, 3) := by decide +kernel
theorem dL_wrongAgain_12 : decode cL_wrongAgain 12 = .ok (.astore_n 3, 1) := by decide +kernel
theorem dL_wrongAgain_13 : decode cL_wrongAgain 13 = .ok (.iconst 1, 1) := by decide +kernel
theorem dL_wrongAgain_14 : decode cL_wrongAgain 14 = .ok (.ireturn, 1) := by decide +kernel
theorem dL_wrongAgain_15 : decode cL_wrongAgain 15 = .ok (.iconst 0, 1) := by decide +kernel
theorem dL_wrongAgain_16 : decode cL_wrongAgain 16 = .ok (.ireturn, 1) := by decide +kernel
theorem dL_isRight_0 : decode cL_isRight 0 = .ok (.aload_n 2, 1) := by decide +kernel
theorem dL_isRight_1 : decode cL_isRight 1 = .ok (.iconst 0, 1) := by decide +kernel
theorem dL_isRight_2 : decode cL_isRight 2 = .ok (.aload_n 0, 1) := by decide +kernel
theorem dL_isRight_3 : decode cL_isRight 3 = .ok (.iload_n 1, 1) := by decide +kernel
theorem dL_isRight_4 : decode cL_isRight 4 = .ok (.invokevirtual 65, 3) := by decide +kernel
theorem dL_isRight_7 : decode cL_isRight 7 = .ok (.ifCond .eq 7, 3) := by decide +kernel
theorem dL_isRight_10 : decode cL_isRight 10 = .ok (.lconst 1, 1) := by decide +kernel
theorem dL_isRight_11 : decode cL_isRight 11 = .ok (.goto 4, 3) := by decide +kernel
theorem dL_isRight_14 : decode cL_isRight 14 = .ok (.lconst 0, 1) := by decide +kernel
theorem dL_isRight_15 : decode cL_isRight 15 = .ok (.lastore, 1) := by decide +kernel
theorem dL_isRight_16 : decode cL_isRight 16 = .ok (.goto 6, 3) := by decide +kernel
theorem dL_isRight_19 : decode cL_isRight 19 = .ok (.astore_n 3, 1) := by decide +kernel
theorem dL_isRight_20 : decode cL_isRight 20 = .ok (.iconst 1, 1) := by decide +kernel
theorem dL_isRight_21 : decode cL_isRight 21 = .ok (.ireturn, 1) := by decide +kernel
theorem dL_isRight_22 : decode cL_isRight 22 = .ok (.iconst 0, 1) := by decide +kernel
theorem dL_isRight_23 : decode cL_isRight 23 = .ok (.ireturn, 1) := by decide +kernel
theorem dL_phrases_0 : decode cL_phrases 0 = .ok (.aload_n 2, 1) := by decide +kernel
theorem dL_phrases_1 : decode cL_phrases 1 = .ok (.iconst 0, 1) := by decide +kernel
theorem dL_phrases_2 : decode cL_phrases 2 = .ok (.aload_n 0, 1) := by decide +kernel
theorem dL_phrases_3 : decode cL_phrases 3 = .ok (.iload_n 1, 1) := by decide +kernel
theorem dL_phrases_4 : decode cL_phrases 4 = .ok (.invokevirtual 69, 3) := by decide +kernel
theorem dL_phrases_7 : decode cL_phrases 7 = .ok (.i2l, 1) := by decide +kernel
theorem dL_phrases_8 : decode cL_phrases 8 = .ok (.lastore, 1) := by decide +kernel
theorem dL_phrases_9 : decode cL_phrases 9 = .ok (.goto 6, 3) := by decide +kernel
theorem dL_phrases_12 : decode cL_phrases 12 = .ok (.astore_n 3, 1) := by decide +kernel
theorem dL_phrases_13 : decode cL_phrases 13 = .ok (.iconst 1, 1) := by decide +kernel
theorem dL_phrases_14 : decode cL_phrases 14 = .ok (.ireturn, 1) := by decide +kernel
theorem dL_phrases_15 : decode cL_phrases 15 = .ok (.iconst 0, 1) := by decide +kernel
theorem dL_phrases_16 : decode cL_phrases 16 = .ok (.ireturn, 1) := by decide +kernel
theorem dL_phraseOf_0 : decode cL_phraseOf 0 = .ok (.aload 4, 2) := by decide +kernel
theorem dL_phraseOf_2 : decode cL_phraseOf 2 = .ok (.iconst 0, 1) := by decide +kernel
theorem dL_phraseOf_3 : decode cL_phraseOf 3 = .ok (.aload_n 0, 1) := by decide +kernel
theorem dL_phraseOf_4 : decode cL_phraseOf 4 = .ok (.iload_n 1, 1) := by decide +kernel
theorem dL_phraseOf_5 : decode cL_phraseOf 5 = .ok (.iload_n 2, 1) := by decide +kernel
theorem dL_phraseOf_6 : decode cL_phraseOf 6 = .ok (.iload_n 3, 1) := by decide +kernel
theorem dL_phraseOf_7 : decode cL_phraseOf 7 = .ok (.invokevirtual 72, 3) := by decide +kernel
theorem dL_phraseOf_10 : decode cL_phraseOf 10 = .ok (.i2l, 1) := by decide +kernel
theorem dL_phraseOf_11 : decode cL_phraseOf 11 = .ok (.lastore, 1) := by decide +kernel
theorem dL_phraseOf_12 : decode cL_phraseOf 12 = .ok (.goto 15, 3) := by decide +kernel
theorem dL_phraseOf_15 : decode cL_phraseOf 15 = .ok (.astore 5, 2) := by decide +kernel
theorem dL_phraseOf_17 : decode cL_phraseOf 17 = .ok (.iconst 1, 1) := by decide +kernel
theorem dL_phraseOf_18 : decode cL_phraseOf 18 = .ok (.ireturn, 1) := by decide +kernel
theorem dL_phraseOf_19 : decode cL_phraseOf 19 = .ok (.astore 5, 2) := by decide +kernel
theorem dL_phraseOf_21 : decode cL_phraseOf 21 = .ok (.iconst 2, 1) := by decide +kernel
theorem dL_phraseOf_22 : decode cL_phraseOf 22 = .ok (.ireturn, 1) := by decide +kernel
theorem dL_phraseOf_23 : decode cL_phraseOf 23 = .ok (.astore 5, 2) := by decide +kernel
theorem dL_phraseOf_25 : decode cL_phraseOf 25 = .ok (.iconst 3, 1) := by decide +kernel
theorem dL_phraseOf_26 : decode cL_phraseOf 26 = .ok (.ireturn, 1) := by decide +kernel
theorem dL_phraseOf_27 : decode cL_phraseOf 27 = .ok (.iconst 0, 1) := by decide +kernel
theorem dL_phraseOf_28 : decode cL_phraseOf 28 = .ok (.ireturn, 1) := by decide +kernel
theorem dL_next_0 : decode cL_next 0 = .ok (.aload_n 2, 1) := by decide +kernel
theorem dL_next_1 : decode cL_next 1 = .ok (.iconst 0, 1) := by decide +kernel
theorem dL_next_2 : decode cL_next 2 = .ok (.aload_n 0, 1) := by decide +kernel
theorem dL_next_3 : decode cL_next 3 = .ok (.iload_n 1, 1) := by decide +kernel
theorem dL_next_4 : decode cL_next 4 = .ok (.invokevirtual 75, 3) := by decide +kernel
theorem dL_next_7 : decode cL_next 7 = .ok (.i2l, 1) := by decide +kernel
theorem dL_next_8 : decode cL_next 8 = .ok (.lastore, 1) := by decide +kernel
theorem dL_next_9 : decode cL_next 9 = .ok (.goto 6, 3) := by decide +kernel
theorem dL_next_12 : decode cL_next 12 = .ok (.astore_n 3, 1) := by decide +kernel
theorem dL_next_13 : decode cL_next 13 = .ok (.iconst 1, 1) := by decide +kernel
theorem dL_next_14 : decode cL_next 14 = .ok (.ireturn, 1) := by decide +kernel
theorem dL_next_15 : decode cL_next 15 = .ok (.iconst 0, 1) := by decide +kernel
theorem dL_next_16 : decode cL_next 16 = .ok (.ireturn, 1) := by decide +kernel
theorem dL_fewest_0 : decode cL_fewest 0 = .ok (.aload_n 2, 1) := by decide +kernel
theorem dL_fewest_1 : decode cL_fewest 1 = .ok (.iconst 0, 1) := by decide +kernel
theorem dL_fewest_2 : decode cL_fewest 2 = .ok (.aload_n 0, 1) := by decide +kernel
theorem dL_fewest_3 : decode cL_fewest 3 = .ok (.iload_n 1, 1) := by decide +kernel
theorem dL_fewest_4 : decode cL_fewest 4 = .ok (.invokevirtual 78, 3) := by decide +kernel
theorem dL_fewest_7 : decode cL_fewest 7 = .ok (.i2l, 1) := by decide +kernel
theorem dL_fewest_8 : decode cL_fewest 8 = .ok (.lastore, 1) := by decide +kernel
theorem dL_fewest_9 : decode cL_fewest 9 = .ok (.goto 9, 3) := by decide +kernel
theorem dL_fewest_12 : decode cL_fewest 12 = .ok (.astore_n 3, 1) := by decide +kernel
theorem dL_fewest_13 : decode cL_fewest 13 = .ok (.iconst 1, 1) := by decide +kernel
theorem dL_fewest_14 : decode cL_fewest 14 = .ok (.ireturn, 1) := by decide +kernel
theorem dL_fewest_15 : decode cL_fewest 15 = .ok (.astore_n 3, 1) := by decide +kernel
theorem dL_fewest_16 : decode cL_fewest 16 = .ok (.iconst 2, 1) := by decide +kernel
theorem dL_fewest_17 : decode cL_fewest 17 = .ok (.ireturn, 1) := by decide +kernel
theorem dL_fewest_18 : decode cL_fewest 18 = .ok (.iconst 0, 1) := by decide +kernel
theorem dL_fewest_19 : decode cL_fewest 19 = .ok (.ireturn, 1) := by decide +kernel
theorem dL_fewestAgain_0 : decode cL_fewestAgain 0 = .ok (.aload_n 2, 1) := by decide +kernel
theorem dL_fewestAgain_1 : decode cL_fewestAgain 1 = .ok (.iconst 0, 1) := by decide +kernel
theorem dL_fewestAgain_2 : decode cL_fewestAgain 2 = .ok (.aload_n 0, 1) := by decide +kernel
theorem dL_fewestAgain_3 : decode cL_fewestAgain 3 = .ok (.iload_n 1, 1) := by decide +kernel
theorem dL_fewestAgain_4 : decode cL_fewestAgain 4 = .ok (.invokevirtual 81, 3) := by decide +kernel
theorem dL_fewestAgain_7 : decode cL_fewestAgain 7 = .ok (.i2l, 1) := by decide +kernel
theorem dL_fewestAgain_8 : decode cL_fewestAgain 8 = .ok (.lastore, 1) := by decide +kernel
theorem dL_fewestAgain_9 : decode cL_fewestAgain 9 = .ok (.goto 9, 3) := by decide +kernel
theorem dL_fewestAgain_12 : decode cL_fewestAgain 12 = .ok (.astore_n 3, 1) := by decide +kernel
theorem dL_fewestAgain_13 : decode cL_fewestAgain 13 = .ok (.iconst 1, 1) := by decide +kernel
theorem dL_fewestAgain_14 : decode cL_fewestAgain 14 = .ok (.ireturn, 1) := by decide +kernel
theorem dL_fewestAgain_15 : decode cL_fewestAgain 15 = .ok (.astore_n 3, 1) := by decide +kernel
theorem dL_fewestAgain_16 : decode cL_fewestAgain 16 = .ok (.iconst 2, 1) := by decide +kernel
theorem dL_fewestAgain_17 : decode cL_fewestAgain 17 = .ok (.ireturn, 1) := by decide +kernel
theorem dL_fewestAgain_18 : decode cL_fewestAgain 18 = .ok (.iconst 0, 1) := by decide +kernel
theorem dL_fewestAgain_19 : decode cL_fewestAgain 19 = .ok (.ireturn, 1) := by decide +kernel
theorem dL_doubt_0 : decode cL_doubt 0 = .ok (.aload_n 2, 1) := by decide +kernel
theorem dL_doubt_1 : decode cL_doubt 1 = .ok (.iconst 0, 1) := by decide +kernel
theorem dL_doubt_2 : decode cL_doubt 2 = .ok (.aload_n 0, 1) := by decide +kernel
theorem dL_doubt_3 : decode cL_doubt 3 = .ok (.iload_n 1, 1) := by decide +kernel
theorem dL_doubt_4 : decode cL_doubt 4 = .ok (.invokevirtual 84, 3) := by decide +kernel
theorem dL_doubt_7 : decode cL_doubt 7 = .ok (.i2l, 1) := by decide +kernel
theorem dL_doubt_8 : decode cL_doubt 8 = .ok (.lastore, 1) := by decide +kernel
theorem dL_doubt_9 : decode cL_doubt 9 = .ok (.goto 6, 3) := by decide +kernel
theorem dL_doubt_12 : decode cL_doubt 12 = .ok (.astore_n 3, 1) := by decide +kernel
theorem dL_doubt_13 : decode cL_doubt 13 = .ok (.iconst 1, 1) := by decide +kernel
theorem dL_doubt_14 : decode cL_doubt 14 = .ok (.ireturn, 1) := by decide +kernel
theorem dL_doubt_15 : decode cL_doubt 15 = .ok (.iconst 0, 1) := by decide +kernel
theorem dL_doubt_16 : decode cL_doubt 16 = .ok (.ireturn, 1) := by decide +kernel
theorem dL_doubtAgain_0 : decode cL_doubtAgain 0 = .ok (.aload_n 2, 1) := by decide +kernel
theorem dL_doubtAgain_1 : decode cL_doubtAgain 1 = .ok (.iconst 0, 1) := by decide +kernel
theorem dL_doubtAgain_2 : decode cL_doubtAgain 2 = .ok (.aload_n 0, 1) := by decide +kernel
theorem dL_doubtAgain_3 : decode cL_doubtAgain 3 = .ok (.iload_n 1, 1) := by decide +kernel
theorem dL_doubtAgain_4 : decode cL_doubtAgain 4 = .ok (.invokevirtual 87, 3) := by decide +kernel
theorem dL_doubtAgain_7 : decode cL_doubtAgain 7 = .ok (.i2l, 1) := by decide +kernel
theorem dL_doubtAgain_8 : decode cL_doubtAgain 8 = .ok (.lastore, 1) := by decide +kernel
theorem dL_doubtAgain_9 : decode cL_doubtAgain 9 = .ok (.goto 6, 3) := by decide +kernel
theorem dL_doubtAgain_12 : decode cL_doubtAgain 12 = .ok (.astore_n 3, 1) := by decide +kernel
theorem dL_doubtAgain_13 : decode cL_doubtAgain 13 = .ok (.iconst 1, 1) := by decide +kernel
theorem dL_doubtAgain_14 : decode cL_doubtAgain 14 = .ok (.ireturn, 1) := by decide +kernel
theorem dL_doubtAgain_15 : decode cL_doubtAgain 15 = .ok (.iconst 0, 1) := by decide +kernel
theorem dL_doubtAgain_16 : decode cL_doubtAgain 16 = .ok (.ireturn, 1) := by decide +kernel
theorem dL_sure_0 : decode cL_sure 0 = .ok (.aload_n 2, 1) := by decide +kernel
theorem dL_sure_1 : decode cL_sure 1 = .ok (.iconst 0, 1) := by decide +kernel
theorem dL_sure_2 : decode cL_sure 2 = .ok (.aload_n 0, 1) := by decide +kernel
theorem dL_sure_3 : decode cL_sure 3 = .ok (.iload_n 1, 1) := by decide +kernel
theorem dL_sure_4 : decode cL_sure 4 = .ok (.invokevirtual 90, 3) := by decide +kernel
theorem dL_sure_7 : decode cL_sure 7 = .ok (.i2l, 1) := by decide +kernel
theorem dL_sure_8 : decode cL_sure 8 = .ok (.lastore, 1) := by decide +kernel
theorem dL_sure_9 : decode cL_sure 9 = .ok (.goto 9, 3) := by decide +kernel
theorem dL_sure_12 : decode cL_sure 12 = .ok (.astore_n 3, 1) := by decide +kernel
theorem dL_sure_13 : decode cL_sure 13 = .ok (.iconst 1, 1) := by decide +kernel
theorem dL_sure_14 : decode cL_sure 14 = .ok (.ireturn, 1) := by decide +kernel
theorem dL_sure_15 : decode cL_sure 15 = .ok (.astore_n 3, 1) := by decide +kernel
theorem dL_sure_16 : decode cL_sure 16 = .ok (.iconst 2, 1) := by decide +kernel
theorem dL_sure_17 : decode cL_sure 17 = .ok (.ireturn, 1) := by decide +kernel
theorem dL_sure_18 : decode cL_sure 18 = .ok (.iconst 0, 1) := by decide +kernel
theorem dL_sure_19 : decode cL_sure 19 = .ok (.ireturn, 1) := by decide +kernel
theorem dL_clearest_0 : decode cL_clearest 0 = .ok (.aload_n 2, 1) := by decide +kernel
theorem dL_clearest_1 : decode cL_clearest 1 = .ok (.iconst 0, 1) := by decide +kernel
theorem dL_clearest_2 : decode cL_clearest 2 = .ok (.aload_n 0, 1) := by decide +kernel
theorem dL_clearest_3 : decode cL_clearest 3 = .ok (.iload_n 1, 1) := by decide +kernel
theorem dL_clearest_4 : decode cL_clearest 4 = .ok (.invokevirtual 95, 3) := by decide +kernel
theorem dL_clearest_7 : decode cL_clearest 7 = .ok (.i2l, 1) := by decide +kernel
theorem dL_clearest_8 : decode cL_clearest 8 = .ok (.lastore, 1) := by decide +kernel
theorem dL_clearest_9 : decode cL_clearest 9 = .ok (.goto 6, 3) := by decide +kernel
theorem dL_clearest_12 : decode cL_clearest 12 = .ok (.astore_n 3, 1) := by decide +kernel
theorem dL_clearest_13 : decode cL_clearest 13 = .ok (.iconst 1, 1) := by decide +kernel
theorem dL_clearest_14 : decode cL_clearest 14 = .ok (.ireturn, 1) := by decide +kernel
theorem dL_clearest_15 : decode cL_clearest 15 = .ok (.iconst 0, 1) := by decide +kernel
theorem dL_clearest_16 : decode cL_clearest 16 = .ok (.ireturn, 1) := by decide +kernel
theorem dL_worn_0 : decode cL_worn 0 = .ok (.aload_n 2, 1) := by decide +kernel
theorem dL_worn_1 : decode cL_worn 1 = .ok (.iconst 0, 1) := by decide +kernel
theorem dL_worn_2 : decode cL_worn 2 = .ok (.aload_n 0, 1) := by decide +kernel
theorem dL_worn_3 : decode cL_worn 3 = .ok (.iload_n 1, 1) := by decide +kernel
theorem dL_worn_4 : decode cL_worn 4 = .ok (.invokevirtual 98, 3) := by decide +kernel
theorem dL_worn_7 : decode cL_worn 7 = .ok (.i2l, 1) := by decide +kernel
theorem dL_worn_8 : decode cL_worn 8 = .ok (.lastore, 1) := by decide +kernel
theorem dL_worn_9 : decode cL_worn 9 = .ok (.goto 6, 3) := by decide +kernel
theorem dL_worn_12 : decode cL_worn 12 = .ok (.astore_n 3, 1) := by decide +kernel
theorem dL_worn_13 : decode cL_worn 13 = .ok (.iconst 1, 1) := by decide +kernel
theorem dL_worn_14 : decode cL_worn 14 = .ok (.ireturn, 1) := by decide +kernel
theorem dL_worn_15 : decode cL_worn 15 = .ok (.iconst 0, 1) := by decide +kernel
theorem dL_worn_16 : decode cL_worn 16 = .ok (.ireturn, 1) := by decide +kernel
theorem dL_type_0 : decode cL_type 0 = .ok (.aload_n 2, 1) := by decide +kernel
theorem dL_type_1 : decode cL_type 1 = .ok (.iconst 0, 1) := by decide +kernel
theorem dL_type_2 : decode cL_type 2 = .ok (.aload_n 0, 1) := by decide +kernel
theorem dL_type_3 : decode cL_type 3 = .ok (.iload_n 1, 1) := by decide +kernel
theorem dL_type_4 : decode cL_type 4 = .ok (.invokevirtual 101, 3) := by decide +kernel
theorem dL_type_7 : decode cL_type 7 = .ok (.i2l, 1) := by decide +kernel
theorem dL_type_8 : decode cL_type 8 = .ok (.lastore, 1) := by decide +kernel
theorem dL_type_9 : decode cL_type 9 = .ok (.goto 6, 3) := by decide +kernel
theorem dL_type_12 : decode cL_type 12 = .ok (.astore_n 3, 1) := by decide +kernel
theorem dL_type_13 : decode cL_type 13 = .ok (.iconst 1, 1) := by decide +kernel
theorem dL_type_14 : decode cL_type 14 = .ok (.ireturn, 1) := by decide +kernel
theorem dL_type_15 : decode cL_type 15 = .ok (.iconst 0, 1) := by decide +kernel
theorem dL_type_16 : decode cL_type 16 = .ok (.ireturn, 1) := by decide +kernel
theorem dL_read_0 : decode cL_read 0 = .ok (.aload_n 1, 1) := by decide +kernel
theorem dL_read_1 : decode cL_read 1 = .ok (.iconst 0, 1) := by decide +kernel
theorem dL_read_2 : decode cL_read 2 = .ok (.aload_n 0, 1) := by decide +kernel
theorem dL_read_3 : decode cL_read 3 = .ok (.invokevirtual 107, 3) := by decide +kernel
theorem dL_read_6 : decode cL_read 6 = .ok (.i2l, 1) := by decide +kernel
theorem dL_read_7 : decode cL_read 7 = .ok (.lastore, 1) := by decide +kernel
theorem dL_read_8 : decode cL_read 8 = .ok (.goto 9, 3) := by decide +kernel
theorem dL_read_11 : decode cL_read 11 = .ok (.astore_n 2, 1) := by decide +kernel
theorem dL_read_12 : decode cL_read 12 = .ok (.iconst 1, 1) := by decide +kernel
theorem dL_read_13 : decode cL_read 13 = .ok (.ireturn, 1) := by decide +kernel
theorem dL_read_14 : decode cL_read 14 = .ok (.astore_n 2, 1) := by decide +kernel
theorem dL_read_15 : decode cL_read 15 = .ok (.iconst 2, 1) := by decide +kernel
theorem dL_read_16 : decode cL_read 16 = .ok (.ireturn, 1) := by decide +kernel
theorem dL_read_17 : decode cL_read 17 = .ok (.iconst 0, 1) := by decide +kernel
theorem dL_read_18 : decode cL_read 18 = .ok (.ireturn, 1) := by decide +kernel
theorem dL_errorPosition_0 : decode cL_errorPosition 0 = .ok (.aload_n 1, 1) := by decide +kernel
theorem dL_errorPosition_1 : decode cL_errorPosition 1 = .ok (.iconst 0, 1) := by decide +kernel
theorem dL_errorPosition_2 : decode cL_errorPosition 2 = .ok (.aload_n 0, 1) := by decide +kernel
theorem dL_errorPosition_3 : decode cL_errorPosition 3 = .ok (.invokevirtual 111, 3) := by decide +kernel
theorem dL_errorPosition_6 : decode cL_errorPosition 6 = .ok (.i2l, 1) := by decide +kernel
theorem dL_errorPosition_7 : decode cL_errorPosition 7 = .ok (.lastore, 1) := by decide +kernel
theorem dL_errorPosition_8 : decode cL_errorPosition 8 = .ok (.goto 6, 3) := by decide +kernel
theorem dL_errorPosition_11 : decode cL_errorPosition 11 = .ok (.astore_n 2, 1) := by decide +kernel
theorem dL_errorPosition_12 : decode cL_errorPosition 12 = .ok (.iconst 1, 1) := by decide +kernel
theorem dL_errorPosition_13 : decode cL_errorPosition 13 = .ok (.ireturn, 1) := by decide +kernel
theorem dL_errorPosition_14 : decode cL_errorPosition 14 = .ok (.iconst 0, 1) := by decide +kernel
theorem dL_errorPosition_15 : decode cL_errorPosition 15 = .ok (.ireturn, 1) := by decide +kernel
theorem dL_refusal_0 : decode cL_refusal 0 = .ok (.aload_n 3, 1) := by decide +kernel
theorem dL_refusal_1 : decode cL_refusal 1 = .ok (.iconst 0, 1) := by decide +kernel
theorem dL_refusal_2 : decode cL_refusal 2 = .ok (.aload_n 0, 1) := by decide +kernel
theorem dL_refusal_3 : decode cL_refusal 3 = .ok (.iload_n 1, 1) := by decide +kernel
theorem dL_refusal_4 : decode cL_refusal 4 = .ok (.iload_n 2, 1) := by decide +kernel
theorem dL_refusal_5 : decode cL_refusal 5 = .ok (.invokevirtual 114, 3) := by decide +kernel
theorem dL_refusal_8 : decode cL_refusal 8 = .ok (.i2l, 1) := by decide +kernel
theorem dL_refusal_9 : decode cL_refusal 9 = .ok (.lastore, 1) := by decide +kernel
theorem dL_refusal_10 : decode cL_refusal 10 = .ok (.goto 7, 3) := by decide +kernel
theorem dL_refusal_13 : decode cL_refusal 13 = .ok (.astore 4, 2) := by decide +kernel
theorem dL_refusal_15 : decode cL_refusal 15 = .ok (.iconst 1, 1) := by decide +kernel
theorem dL_refusal_16 : decode cL_refusal 16 = .ok (.ireturn, 1) := by decide +kernel
theorem dL_refusal_17 : decode cL_refusal 17 = .ok (.iconst 0, 1) := by decide +kernel
theorem dL_refusal_18 : decode cL_refusal 18 = .ok (.ireturn, 1) := by decide +kernel
theorem dL_show_0 : decode cL_show 0 = .ok (.aload_n 2, 1) := by decide +kernel
theorem dL_show_1 : decode cL_show 1 = .ok (.iconst 0, 1) := by decide +kernel
theorem dL_show_2 : decode cL_show 2 = .ok (.aload_n 0, 1) := by decide +kernel
theorem dL_show_3 : decode cL_show 3 = .ok (.iload_n 1, 1) := by decide +kernel
theorem dL_show_4 : decode cL_show 4 = .ok (.invokevirtual 118, 3) := by decide +kernel
theorem dL_show_7 : decode cL_show 7 = .ok (.i2l, 1) := by decide +kernel
theorem dL_show_8 : decode cL_show 8 = .ok (.lastore, 1) := by decide +kernel
theorem dL_show_9 : decode cL_show 9 = .ok (.goto 6, 3) := by decide +kernel
theorem dL_show_12 : decode cL_show 12 = .ok (.astore_n 3, 1) := by decide +kernel
theorem dL_show_13 : decode cL_show 13 = .ok (.iconst 1, 1) := by decide +kernel
theorem dL_show_14 : decode cL_show 14 = .ok (.ireturn, 1) := by decide +kernel
theorem dL_show_15 : decode cL_show 15 = .ok (.iconst 0, 1) := by decide +kernel
theorem dL_show_16 : decode cL_show 16 = .ok (.ireturn, 1) := by decide +kernel
theorem dL_tell_0 : decode cL_tell 0 = .ok (.aload_n 2, 1) := by decide +kernel
theorem dL_tell_1 : decode cL_tell 1 = .ok (.iconst 0, 1) := by decide +kernel
theorem dL_tell_2 : decode cL_tell 2 = .ok (.aload_n 0, 1) := by decide +kernel
theorem dL_tell_3 : decode cL_tell 3 = .ok (.iload_n 1, 1) := by decide +kernel
theorem dL_tell_4 : decode cL_tell 4 = .ok (.invokevirtual 121, 3) := by decide +kernel
theorem dL_tell_7 : decode cL_tell 7 = .ok (.i2l, 1) := by decide +kernel
theorem dL_tell_8 : decode cL_tell 8 = .ok (.lastore, 1) := by decide +kernel
theorem dL_tell_9 : decode cL_tell 9 = .ok (.goto 6, 3) := by decide +kernel
theorem dL_tell_12 : decode cL_tell 12 = .ok (.astore_n 3, 1) := by decide +kernel
theorem dL_tell_13 : decode cL_tell 13 = .ok (.iconst 1, 1) := by decide +kernel
theorem dL_tell_14 : decode cL_tell 14 = .ok (.ireturn, 1) := by decide +kernel
theorem dL_tell_15 : decode cL_tell 15 = .ok (.iconst 0, 1) := by decide +kernel
theorem dL_tell_16 : decode cL_tell 16 = .ok (.ireturn, 1) := by decide +kernel
theorem dL_written_0 : decode cL_written 0 = .ok (.aload_n 2, 1) := by decide +kernel
theorem dL_written_1 : decode cL_written 1 = .ok (.iconst 0, 1) := by decide +kernel
theorem dL_written_2 : decode cL_written 2 = .ok (.aload_n 0, 1) := by decide +kernel
theorem dL_written_3 : decode cL_written 3 = .ok (.iload_n 1, 1) := by decide +kernel
theorem dL_written_4 : decode cL_written 4 = .ok (.invokevirtual 124, 3) := by decide +kernel
theorem dL_written_7 : decode cL_written 7 = .ok (.i2l, 1) := by decide +kernel
theorem dL_written_8 : decode cL_written 8 = .ok (.lastore, 1) := by decide +kernel
theorem dL_written_9 : decode cL_written 9 = .ok (.goto 6, 3) := by decide +kernel
theorem dL_written_12 : decode cL_written 12 = .ok (.astore_n 3, 1) := by decide +kernel
theorem dL_written_13 : decode cL_written 13 = .ok (.iconst 1, 1) := by decide +kernel
theorem dL_written_14 : decode cL_written 14 = .ok (.ireturn, 1) := by decide +kernel
theorem dL_written_15 : decode cL_written 15 = .ok (.iconst 0, 1) := by decide +kernel
theorem dL_written_16 : decode cL_written 16 = .ok (.ireturn, 1) := by decide +kernel
theorem dL_account_0 : decode cL_account 0 = .ok (.aload_n 2, 1) := by decide +kernel
theorem dL_account_1 : decode cL_account 1 = .ok (.iconst 0, 1) := by decide +kernel
theorem dL_account_2 : decode cL_account 2 = .ok (.aload_n 0, 1) := by decide +kernel
theorem dL_account_3 : decode cL_account 3 = .ok (.iload_n 1, 1) := by decide +kernel
theorem dL_account_4 : decode cL_account 4 = .ok (.invokevirtual 128, 3) := by decide +kernel
theorem dL_account_7 : decode cL_account 7 = .ok (.i2l, 1) := by decide +kernel
theorem dL_account_8 : decode cL_account 8 = .ok (.lastore, 1) := by decide +kernel
theorem dL_account_9 : decode cL_account 9 = .ok (.goto 6, 3) := by decide +kernel
theorem dL_account_12 : decode cL_account 12 = .ok (.astore_n 3, 1) := by decide +kernel
theorem dL_account_13 : decode cL_account 13 = .ok (.iconst 1, 1) := by decide +kernel
theorem dL_account_14 : decode cL_account 14 = .ok (.ireturn, 1) := by decide +kernel
theorem dL_account_15 : decode cL_account 15 = .ok (.iconst 0, 1) := by decide +kernel
theorem dL_account_16 : decode cL_account 16 = .ok (.ireturn, 1) := by decide +kernel
theorem dL_meanStains_0 : decode cL_meanStains 0 = .ok (.aload_n 1, 1) := by decide +kernel
theorem dL_meanStains_1 : decode cL_meanStains 1 = .ok (.iconst 0, 1) := by decide +kernel
theorem dL_meanStains_2 : decode cL_meanStains 2 = .ok (.aload_n 0, 1) := by decide +kernel
theorem dL_meanStains_3 : decode cL_meanStains 3 = .ok (.invokevirtual 131, 3) := by decide +kernel
theorem dL_meanStains_6 : decode cL_meanStains 6 = .ok (.dastore, 1) := by decide +kernel
theorem dL_meanStains_7 : decode cL_meanStains 7 = .ok (.goto 6, 3) := by decide +kernel
theorem dL_meanStains_10 : decode cL_meanStains 10 = .ok (.astore_n 2, 1) := by decide +kernel
theorem dL_meanStains_11 : decode cL_meanStains 11 = .ok (.iconst 1, 1) := by decide +kernel
theorem dL_meanStains_12 : decode cL_meanStains 12 = .ok (.ireturn, 1) := by decide +kernel
theorem dL_meanStains_13 : decode cL_meanStains 13 = .ok (.iconst 0, 1) := by decide +kernel
theorem dL_meanStains_14 : decode cL_meanStains 14 = .ok (.ireturn, 1) := by decide +kernel
theorem dL_foldedShare_0 : decode cL_foldedShare 0 = .ok (.aload_n 1, 1) := by decide +kernel
theorem dL_foldedShare_1 : decode cL_foldedShare 1 = .ok (.iconst 0, 1) := by decide +kernel
theorem dL_foldedShare_2 : decode cL_foldedShare 2 = .ok (.aload_n 0, 1) := by decide +kernel
theorem dL_foldedShare_3 : decode cL_foldedShare 3 = .ok (.invokevirtual 135, 3) := by decide +kernel
theorem dL_foldedShare_6 : decode cL_foldedShare 6 = .ok (.f2d, 1) := by decide +kernel
theorem dL_foldedShare_7 : decode cL_foldedShare 7 = .ok (.dastore, 1) := by decide +kernel
theorem dL_foldedShare_8 : decode cL_foldedShare 8 = .ok (.goto 6, 3) := by decide +kernel
theorem dL_foldedShare_11 : decode cL_foldedShare 11 = .ok (.astore_n 2, 1) := by decide +kernel
theorem dL_foldedShare_12 : decode cL_foldedShare 12 = .ok (.iconst 1, 1) := by decide +kernel
theorem dL_foldedShare_13 : decode cL_foldedShare 13 = .ok (.ireturn, 1) := by decide +kernel
theorem dL_foldedShare_14 : decode cL_foldedShare 14 = .ok (.iconst 0, 1) := by decide +kernel
theorem dL_foldedShare_15 : decode cL_foldedShare 15 = .ok (.ireturn, 1) := by decide +kernel
theorem dL_undo_0 : decode cL_undo 0 = .ok (.aload_n 1, 1) := by decide +kernel
theorem dL_undo_1 : decode cL_undo 1 = .ok (.iconst 0, 1) := by decide +kernel
theorem dL_undo_2 : decode cL_undo 2 = .ok (.aload_n 0, 1) := by decide +kernel
theorem dL_undo_3 : decode cL_undo 3 = .ok (.invokevirtual 139, 3) := by decide +kernel
theorem dL_undo_6 : decode cL_undo 6 = .ok (.i2l, 1) := by decide +kernel
theorem dL_undo_7 : decode cL_undo 7 = .ok (.lastore, 1) := by decide +kernel
theorem dL_undo_8 : decode cL_undo 8 = .ok (.goto 6, 3) := by decide +kernel
theorem dL_undo_11 : decode cL_undo 11 = .ok (.astore_n 2, 1) := by decide +kernel
theorem dL_undo_12 : decode cL_undo 12 = .ok (.iconst 1, 1) := by decide +kernel
theorem dL_undo_13 : decode cL_undo 13 = .ok (.ireturn, 1) := by decide +kernel
theorem dL_undo_14 : decode cL_undo 14 = .ok (.iconst 0, 1) := by decide +kernel
theorem dL_undo_15 : decode cL_undo 15 = .ok (.ireturn, 1) := by decide +kernel
theorem dL_restore_0 : decode cL_restore 0 = .ok (.aload_n 1, 1) := by decide +kernel
theorem dL_restore_1 : decode cL_restore 1 = .ok (.iconst 0, 1) := by decide +kernel
theorem dL_restore_2 : decode cL_restore 2 = .ok (.aload_n 0, 1) := by decide +kernel
theorem dL_restore_3 : decode cL_restore 3 = .ok (.invokevirtual 142, 3) := by decide +kernel
theorem dL_restore_6 : decode cL_restore 6 = .ok (.i2l, 1) := by decide +kernel
theorem dL_restore_7 : decode cL_restore 7 = .ok (.lastore, 1) := by decide +kernel
theorem dL_restore_8 : decode cL_restore 8 = .ok (.goto 6, 3) := by decide +kernel
theorem dL_restore_11 : decode cL_restore 11 = .ok (.astore_n 2, 1) := by decide +kernel
theorem dL_restore_12 : decode cL_restore 12 = .ok (.iconst 1, 1) := by decide +kernel
theorem dL_restore_13 : decode cL_restore 13 = .ok (.ireturn, 1) := by decide +kernel
theorem dL_restore_14 : decode cL_restore 14 = .ok (.iconst 0, 1) := by decide +kernel
theorem dL_restore_15 : decode cL_restore 15 = .ok (.ireturn, 1) := by decide +kernel
