theorem dL_put_0 : decode cL_put 0 = .ok (.aload_n 3, 1) := by decide +kernel
theorem dL_put_1 : decode cL_put 1 = .ok (.iconst 0, 1) := by decide +kernel
theorem dL_put_2 : decode cL_put 2 = .ok (.aload_n 0, 1) := by decide +kernel
theorem dL_put_3 : decode cL_put 3 = .ok (.iload_n 1, 1) := by decide +kernel
theorem dL_put_4 : decode cL_put 4 = .ok (.iload_n 2, 1) := by decide +kernel
theorem dL_put_5 : decode cL_put 5 = .ok (.invokevirtual 7, 3) := by decide +kernel
theorem dL_put_8 : decode cL_put 8 = .ok (.ifCond .eq 7, 3) := by decide +kernel
theorem dL_put_11 : decode cL_put 11 = .ok (.lconst 1, 1) := by decide +kernel
theorem dL_put_12 : decode cL_put 12 = .ok (.goto 4, 3) := by decide +kernel
theorem dL_put_15 : decode cL_put 15 = .ok (.lconst 0, 1) := by decide +kernel
theorem dL_put_16 : decode cL_put 16 = .ok (.lastore, 1) := by decide +kernel
theorem dL_put_17 : decode cL_put 17 = .ok (.goto 11, 3) := by decide +kernel
theorem dL_put_20 : decode cL_put 20 = .ok (.astore 4, 2) := by decide +kernel
theorem dL_put_22 : decode cL_put 22 = .ok (.iconst 1, 1) := by decide +kernel
theorem dL_put_23 : decode cL_put 23 = .ok (.ireturn, 1) := by decide +kernel
theorem dL_put_24 : decode cL_put 24 = .ok (.astore 4, 2) := by decide +kernel
theorem dL_put_26 : decode cL_put 26 = .ok (.iconst 2, 1) := by decide +kernel
theorem dL_put_27 : decode cL_put 27 = .ok (.ireturn, 1) := by decide +kernel
theorem dL_put_28 : decode cL_put 28 = .ok (.iconst 0, 1) := by decide +kernel
theorem dL_put_29 : decode cL_put 29 = .ok (.ireturn, 1) := by decide +kernel
theorem dL_drop_0 : decode cL_drop 0 = .ok (.aload_n 2, 1) := by decide +kernel
theorem dL_drop_1 : decode cL_drop 1 = .ok (.iconst 0, 1) := by decide +kernel
theorem dL_drop_2 : decode cL_drop 2 = .ok (.aload_n 0, 1) := by decide +kernel
theorem dL_drop_3 : decode cL_drop 3 = .ok (.iload_n 1, 1) := by decide +kernel
theorem dL_drop_4 : decode cL_drop 4 = .ok (.invokevirtual 17, 3) := by decide +kernel
theorem dL_drop_7 : decode cL_drop 7 = .ok (.ifCond .eq 7, 3) := by decide +kernel
theorem dL_drop_10 : decode cL_drop 10 = .ok (.lconst 1, 1) := by decide +kernel
theorem dL_drop_11 : decode cL_drop 11 = .ok (.goto 4, 3) := by decide +kernel
theorem dL_drop_14 : decode cL_drop 14 = .ok (.lconst 0, 1) := by decide +kernel
theorem dL_drop_15 : decode cL_drop 15 = .ok (.lastore, 1) := by decide +kernel
theorem dL_drop_16 : decode cL_drop 16 = .ok (.goto 6, 3) := by decide +kernel
theorem dL_drop_19 : decode cL_drop 19 = .ok (.astore_n 3, 1) := by decide +kernel
theorem dL_drop_20 : decode cL_drop 20 = .ok (.iconst 1, 1) := by decide +kernel
theorem dL_drop_21 : decode cL_drop 21 = .ok (.ireturn, 1) := by decide +kernel
theorem dL_drop_22 : decode cL_drop 22 = .ok (.iconst 0, 1) := by decide +kernel
theorem dL_drop_23 : decode cL_drop 23 = .ok (.ireturn, 1) := by decide +kernel
theorem dL_count_0 : decode cL_count 0 = .ok (.aload_n 2, 1) := by decide +kernel
theorem dL_count_1 : decode cL_count 1 = .ok (.iconst 0, 1) := by decide +kernel
theorem dL_count_2 : decode cL_count 2 = .ok (.aload_n 0, 1) := by decide +kernel
theorem dL_count_3 : decode cL_count 3 = .ok (.iload_n 1, 1) := by decide +kernel
theorem dL_count_4 : decode cL_count 4 = .ok (.invokevirtual 21, 3) := by decide +kernel
theorem dL_count_7 : decode cL_count 7 = .ok (.i2l, 1) := by decide +kernel
theorem dL_count_8 : decode cL_count 8 = .ok (.lastore, 1) := by decide +kernel
theorem dL_count_9 : decode cL_count 9 = .ok (.goto 6, 3) := by decide +kernel
theorem dL_count_12 : decode cL_count 12 = .ok (.astore_n 3, 1) := by decide +kernel
theorem dL_count_13 : decode cL_count 13 = .ok (.iconst 1, 1) := by decide +kernel
theorem dL_count_14 : decode cL_count 14 = .ok (.ireturn, 1) := by decide +kernel
theorem dL_count_15 : decode cL_count 15 = .ok (.iconst 0, 1) := by decide +kernel
theorem dL_count_16 : decode cL_count 16 = .ok (.ireturn, 1) := by decide +kernel
theorem dL_ask_0 : decode cL_ask 0 = .ok (.aload_n 3, 1) := by decide +kernel
theorem dL_ask_1 : decode cL_ask 1 = .ok (.iconst 0, 1) := by decide +kernel
theorem dL_ask_2 : decode cL_ask 2 = .ok (.aload_n 0, 1) := by decide +kernel
theorem dL_ask_3 : decode cL_ask 3 = .ok (.iload_n 1, 1) := by decide +kernel
theorem dL_ask_4 : decode cL_ask 4 = .ok (.iload_n 2, 1) := by decide +kernel
theorem dL_ask_5 : decode cL_ask 5 = .ok (.invokevirtual 25, 3) := by decide +kernel
theorem dL_ask_8 : decode cL_ask 8 = .ok (.i2l, 1) := by decide +kernel
theorem dL_ask_9 : decode cL_ask 9 = .ok (.lastore, 1) := by decide +kernel
theorem dL_ask_10 : decode cL_ask 10 = .ok (.goto 7, 3) := by decide +kernel
theorem dL_ask_13 : decode cL_ask 13 = .ok (.astore 4, 2) := by decide +kernel
theorem dL_ask_15 : decode cL_ask 15 = .ok (.iconst 1, 1) := by decide +kernel
theorem dL_ask_16 : decode cL_ask 16 = .ok (.ireturn, 1) := by decide +kernel
theorem dL_ask_17 : decode cL_ask 17 = .ok (.iconst 0, 1) := by decide +kernel
theorem dL_ask_18 : decode cL_ask 18 = .ok (.ireturn, 1) := by decide +kernel
theorem dL_clause_0 : decode cL_clause 0 = .ok (.aload 4, 2) := by decide +kernel
theorem dL_clause_2 : decode cL_clause 2 = .ok (.iconst 0, 1) := by decide +kernel
theorem dL_clause_3 : decode cL_clause 3 = .ok (.aload_n 0, 1) := by decide +kernel
theorem dL_clause_4 : decode cL_clause 4 = .ok (.iload_n 1, 1) := by decide +kernel
theorem dL_clause_5 : decode cL_clause 5 = .ok (.iload_n 2, 1) := by decide +kernel
theorem dL_clause_6 : decode cL_clause 6 = .ok (.iload_n 3, 1) := by decide +kernel
theorem dL_clause_7 : decode cL_clause 7 = .ok (.invokevirtual 29, 3) := by decide +kernel
theorem dL_clause_10 : decode cL_clause 10 = .ok (.i2l, 1) := by decide +kernel
theorem dL_clause_11 : decode cL_clause 11 = .ok (.lastore, 1) := by decide +kernel
theorem dL_clause_12 : decode cL_clause 12 = .ok (.goto 11, 3) := by decide +kernel
theorem dL_clause_15 : decode cL_clause 15 = .ok (.astore 5, 2) := by decide +kernel
theorem dL_clause_17 : decode cL_clause 17 = .ok (.iconst 1, 1) := by decide +kernel
theorem dL_clause_18 : decode cL_clause 18 = .ok (.ireturn, 1) := by decide +kernel
theorem dL_clause_19 : decode cL_clause 19 = .ok (.astore 5, 2) := by decide +kernel
theorem dL_clause_21 : decode cL_clause 21 = .ok (.iconst 2, 1) := by decide +kernel
theorem dL_clause_22 : decode cL_clause 22 = .ok (.ireturn, 1) := by decide +kernel
theorem dL_clause_23 : decode cL_clause 23 = .ok (.iconst 0, 1) := by decide +kernel
theorem dL_clause_24 : decode cL_clause 24 = .ok (.ireturn, 1) := by decide +kernel
theorem dL_literal_0 : decode cL_literal 0 = .ok (.aload 4, 2) := by decide +kernel
theorem dL_literal_2 : decode cL_literal 2 = .ok (.iconst 0, 1) := by decide +kernel
theorem dL_literal_3 : decode cL_literal 3 = .ok (.aload_n 0, 1) := by decide +kernel
theorem dL_literal_4 : decode cL_literal 4 = .ok (.iload_n 1, 1) := by decide +kernel
theorem dL_literal_5 : decode cL_literal 5 = .ok (.iload_n 2, 1) := by decide +kernel
theorem dL_literal_6 : decode cL_literal 6 = .ok (.iload_n 3, 1) := by decide +kernel
theorem dL_literal_7 : decode cL_literal 7 = .ok (.invokevirtual 35, 3) := by decide +kernel
theorem dL_literal_10 : decode cL_literal 10 = .ok (.i2l, 1) := by decide +kernel
theorem dL_literal_11 : decode cL_literal 11 = .ok (.lastore, 1) := by decide +kernel
theorem dL_literal_12 : decode cL_literal 12 = .ok (.goto 11, 3) := by decide +kernel
theorem dL_literal_15 : decode cL_literal 15 = .ok (.astore 5, 2) := by decide +kernel
theorem dL_literal_17 : decode cL_literal 17 = .ok (.iconst 1, 1) := by decide +kernel
theorem dL_literal_18 : decode cL_literal 18 = .ok (.ireturn, 1) := by decide +kernel
theorem dL_literal_19 : decode cL_literal 19 = .ok (.astore 5, 2) := by decide +kernel
theorem dL_literal_21 : decode cL_literal 21 = .ok (.iconst 2, 1) := by decide +kernel
theorem dL_literal_22 : decode cL_literal 22 = .ok (.ireturn, 1) := by decide +kernel
theorem dL_literal_23 : decode cL_literal 23 = .ok (.iconst 0, 1) := by decide +kernel
theorem dL_literal_24 : decode cL_literal 24 = .ok (.ireturn, 1) := by decide +kernel
theorem dL_matches_0 : decode cL_matches 0 = .ok (.aload_n 2, 1) := by decide +kernel
theorem dL_matches_1 : decode cL_matches 1 = .ok (.iconst 0, 1) := by decide +kernel
theorem dL_matches_2 : decode cL_matches 2 = .ok (.aload_n 0, 1) := by decide +kernel
theorem dL_matches_3 : decode cL_matches 3 = .ok (.iload_n 1, 1) := by decide +kernel
theorem dL_matches_4 : decode cL_matches 4 = .ok (.invokevirtual 38, 3) := by decide +kernel
theorem dL_matches_7 : decode cL_matches 7 = .ok (.ifCond .eq 7, 3) := by decide +kernel
theorem dL_matches_10 : decode cL_matches 10 = .ok (.lconst 1, 1) := by decide +kernel
theorem dL_matches_11 : decode cL_matches 11 = .ok (.goto 4, 3) := by decide +kernel
theorem dL_matches_14 : decode cL_matches 14 = .ok (.lconst 0, 1) := by decide +kernel
theorem dL_matches_15 : decode cL_matches 15 = .ok (.lastore, 1) := by decide +kernel
theorem dL_matches_16 : decode cL_matches 16 = .ok (.goto 6, 3) := by decide +kernel
theorem dL_matches_19 : decode cL_matches 19 = .ok (.astore_n 3, 1) := by decide +kernel
theorem dL_matches_20 : decode cL_matches 20 = .ok (.iconst 1, 1) := by decide +kernel
theorem dL_matches_21 : decode cL_matches 21 = .ok (.ireturn, 1) := by decide +kernel
theorem dL_matches_22 : decode cL_matches 22 = .ok (.iconst 0, 1) := by decide +kernel
theorem dL_matches_23 : decode cL_matches 23 = .ok (.ireturn, 1) := by decide +kernel
theorem dL_clauseAt_0 : decode cL_clauseAt 0 = .ok (.aload_n 2, 1) := by decide +kernel
theorem dL_clauseAt_1 : decode cL_clauseAt 1 = .ok (.iconst 0, 1) := by decide +kernel
theorem dL_clauseAt_2 : decode cL_clauseAt 2 = .ok (.aload_n 0, 1) := by decide +kernel
theorem dL_clauseAt_3 : decode cL_clauseAt 3 = .ok (.iload_n 1, 1) := by decide +kernel
theorem dL_clauseAt_4 : decode cL_clauseAt 4 = .ok (.invokevirtual 41, 3) := by decide +kernel
theorem dL_clauseAt_7 : decode cL_clauseAt 7 = .ok (.i2l, 1) := by decide +kernel
theorem dL_clauseAt_8 : decode cL_clauseAt 8 = .ok (.lastore, 1) := by decide +kernel
theorem dL_clauseAt_9 : decode cL_clauseAt 9 = .ok (.goto 6, 3) := by decide +kernel
theorem dL_clauseAt_12 : decode cL_clauseAt 12 = .ok (.astore_n 3, 1) := by decide +kernel
theorem dL_clauseAt_13 : decode cL_clauseAt 13 = .ok (.iconst 1, 1) := by decide +kernel
theorem dL_clauseAt_14 : decode cL_clauseAt 14 = .ok (.ireturn, 1) := by decide +kernel
theorem dL_clauseAt_15 : decode cL_clauseAt 15 = .ok (.iconst 0, 1) := by decide +kernel
theorem dL_clauseAt_16 : decode cL_clauseAt 16 = .ok (.ireturn, 1) := by decide +kernel
theorem dL_kindAt_0 : decode cL_kindAt 0 = .ok (.aload_n 2, 1) := by decide +kernel
theorem dL_kindAt_1 : decode cL_kindAt 1 = .ok (.iconst 0, 1) := by decide +kernel
theorem dL_kindAt_2 : decode cL_kindAt 2 = .ok (.aload_n 0, 1) := by decide +kernel
theorem dL_kindAt_3 : decode cL_kindAt 3 = .ok (.iload_n 1, 1) := by decide +kernel
theorem dL_kindAt_4 : decode cL_kindAt 4 = .ok (.invokevirtual 44, 3) := by decide +kernel
theorem dL_kindAt_7 : decode cL_kindAt 7 = .ok (.i2l, 1) := by decide +kernel
theorem dL_kindAt_8 : decode cL_kindAt 8 = .ok (.lastore, 1) := by decide +kernel
theorem dL_kindAt_9 : decode cL_kindAt 9 = .ok (.goto 6, 3) := by decide +kernel
theorem dL_kindAt_12 : decode cL_kindAt 12 = .ok (.astore_n 3, 1) := by decide +kernel
theorem dL_kindAt_13 : decode cL_kindAt 13 = .ok (.iconst 1, 1) := by decide +kernel
theorem dL_kindAt_14 : decode cL_kindAt 14 = .ok (.ireturn, 1) := by decide +kernel
theorem dL_kindAt_15 : decode cL_kindAt 15 = .ok (.iconst 0, 1) := by decide +kernel
theorem dL_kindAt_16 : decode cL_kindAt 16 = .ok (.ireturn, 1) := by decide +kernel
theorem dL_estimateAt_0 : decode cL_estimateAt 0 = .ok (.aload_n 2, 1) := by decide +kernel
theorem dL_estimateAt_1 : decode cL_estimateAt 1 = .ok (.iconst 0, 1) := by decide +kernel
theorem dL_estimateAt_2 : decode cL_estimateAt 2 = .ok (.aload_n 0, 1) := by decide +kernel
theorem dL_estimateAt_3 : decode cL_estimateAt 3 = .ok (.iload_n 1, 1) := by decide +kernel
theorem dL_estimateAt_4 : decode cL_estimateAt 4 = .ok (.invokevirtual 47, 3) := by decide +kernel
theorem dL_estimateAt_7 : decode cL_estimateAt 7 = .ok (.i2l, 1) := by decide +kernel
theorem dL_estimateAt_8 : decode cL_estimateAt 8 = .ok (.lastore, 1) := by decide +kernel
theorem dL_estimateAt_9 : decode cL_estimateAt 9 = .ok (.goto 6, 3) := by decide +kernel
theorem dL_estimateAt_12 : decode cL_estimateAt 12 = .ok (.astore_n 3, 1) := by decide +kernel
theorem dL_estimateAt_13 : decode cL_estimateAt 13 = .ok (.iconst 1, 1) := by decide +kernel
theorem dL_estimateAt_14 : decode cL_estimateAt 14 = .ok (.ireturn, 1) := by decide +kernel
theorem dL_estimateAt_15 : decode cL_estimateAt 15 = .ok (.iconst 0, 1) := by decide +kernel
theorem dL_estimateAt_16 : decode cL_estimateAt 16 = .ok (.ireturn, 1) := by decide +kernel
theorem dL_literalAt_0 : decode cL_literalAt 0 = .ok (.aload_n 3, 1) := by decide +kernel
theorem dL_literalAt_1 : decode cL_literalAt 1 = .ok (.iconst 0, 1) := by decide +kernel
theorem dL_literalAt_2 : decode cL_literalAt 2 = .ok (.aload_n 0, 1) := by decide +kernel
theorem dL_literalAt_3 : decode cL_literalAt 3 = .ok (.iload_n 1, 1) := by decide +kernel
theorem dL_literalAt_4 : decode cL_literalAt 4 = .ok (.iload_n 2, 1) := by decide +kernel
theorem dL_literalAt_5 : decode cL_literalAt 5 = .ok (.invokevirtual 50, 3) := by decide +kernel
theorem dL_literalAt_8 : decode cL_literalAt 8 = .ok (.i2l, 1) := by decide +kernel
theorem dL_literalAt_9 : decode cL_literalAt 9 = .ok (.lastore, 1) := by decide +kernel
theorem dL_literalAt_10 : decode cL_literalAt 10 = .ok (.goto 7, 3) := by decide +kernel
theorem dL_literalAt_13 : decode cL_literalAt 13 = .ok (.astore 4, 2) := by decide +kernel
theorem dL_literalAt_15 : decode cL_literalAt 15 = .ok (.iconst 1, 1) := by decide +kernel
theorem dL_literalAt_16 : decode cL_literalAt 16 = .ok (.ireturn, 1) := by decide +kernel
theorem dL_literalAt_17 : decode cL_literalAt 17 = .ok (.iconst 0, 1) := by decide +kernel
theorem dL_literalAt_18 : decode cL_literalAt 18 = .ok (.ireturn, 1) := by decide +kernel
theorem dL_leap_0 : decode cL_leap 0 = .ok (.aload_n 2, 1) := by decide +kernel
theorem dL_leap_1 : decode cL_leap 1 = .ok (.iconst 0, 1) := by decide +kernel
theorem dL_leap_2 : decode cL_leap 2 = .ok (.aload_n 0, 1) := by decide +kernel
theorem dL_leap_3 : decode cL_leap 3 = .ok (.iload_n 1, 1) := by decide +kernel
theorem dL_leap_4 : decode cL_leap 4 = .ok (.invokevirtual 53, 3) := by decide +kernel
theorem dL_leap_7 : decode cL_leap 7 = .ok (.i2l, 1) := by decide +kernel
theorem dL_leap_8 : decode cL_leap 8 = .ok (.lastore, 1) := by decide +kernel
theorem dL_leap_9 : decode cL_leap 9 = .ok (.goto 9, 3) := by decide +kernel
theorem dL_leap_12 : decode cL_leap 12 = .ok (.astore_n 3, 1) := by decide +kernel
theorem dL_leap_13 : decode cL_leap 13 = .ok (.iconst 1, 1) := by decide +kernel
theorem dL_leap_14 : decode cL_leap 14 = .ok (.ireturn, 1) := by decide +kernel
theorem dL_leap_15 : decode cL_leap 15 = .ok (.astore_n 3, 1) := by decide +kernel
theorem dL_leap_16 : decode cL_leap 16 = .ok (.iconst 2, 1) := by decide +kernel
theorem dL_leap_17 : decode cL_leap 17 = .ok (.ireturn, 1) := by decide +kernel
theorem dL_leap_18 : decode cL_leap 18 = .ok (.iconst 0, 1) := by decide +kernel
theorem dL_leap_19 : decode cL_leap 19 = .ok (.ireturn, 1) := by decide +kernel
theorem dL_next_0 : decode cL_next 0 = .ok (.aload_n 1, 1) := by decide +kernel
theorem dL_next_1 : decode cL_next 1 = .ok (.iconst 0, 1) := by decide +kernel
theorem dL_next_2 : decode cL_next 2 = .ok (.aload_n 0, 1) := by decide +kernel
theorem dL_next_3 : decode cL_next 3 = .ok (.invokevirtual 56, 3) := by decide +kernel
theorem dL_next_6 : decode cL_next 6 = .ok (.i2l, 1) := by decide +kernel
theorem dL_next_7 : decode cL_next 7 = .ok (.lastore, 1) := by decide +kernel
theorem dL_next_8 : decode cL_next 8 = .ok (.goto 6, 3) := by decide +kernel
theorem dL_next_11 : decode cL_next 11 = .ok (.astore_n 2, 1) := by decide +kernel
theorem dL_next_12 : decode cL_next 12 = .ok (.iconst 1, 1) := by decide +kernel
theorem dL_next_13 : decode cL_next 13 = .ok (.ireturn, 1) := by decide +kernel
theorem dL_next_14 : decode cL_next 14 = .ok (.iconst 0, 1) := by decide +kernel
theorem dL_next_15 : decode cL_next 15 = .ok (.ireturn, 1) := by decide +kernel
theorem dL_readings_0 : decode cL_readings 0 = .ok (.aload_n 1, 1) := by decide +kernel
theorem dL_readings_1 : decode cL_readings 1 = .ok (.iconst 0, 1) := by decide +kernel
theorem dL_readings_2 : decode cL_readings 2 = .ok (.aload_n 0, 1) := by decide +kernel
theorem dL_readings_3 : decode cL_readings 3 = .ok (.invokevirtual 60, 3) := by decide +kernel
theorem dL_readings_6 : decode cL_readings 6 = .ok (.i2l, 1) := by decide +kernel
theorem dL_readings_7 : decode cL_readings 7 = .ok (.lastore, 1) := by decide +kernel
theorem dL_readings_8 : decode cL_readings 8 = .ok (.goto 6, 3) := by decide +kernel
theorem dL_readings_11 : decode cL_readings 11 = .ok (.astore_n 2, 1) := by decide +kernel
theorem dL_readings_12 : decode cL_readings 12 = .ok (.iconst 1, 1) := by decide +kernel
theorem dL_readings_13 : decode cL_readings 13 = .ok (.ireturn, 1) := by decide +kernel
theorem dL_readings_14 : decode cL_readings 14 = .ok (.iconst 0, 1) := by decide +kernel
theorem dL_readings_15 : decode cL_readings 15 = .ok (.ireturn, 1) := by decide +kernel
theorem dL_law_0 : decode cL_law 0 = .ok (.new 8, 3) := by decide +kernel
theorem dL_law_3 : decode cL_law 3 = .ok (.dup, 1) := by decide +kernel
theorem dL_law_4 : decode cL_law 4 = .ok (.invokespecial 63, 3) := by decide +kernel
theorem dL_law_7 : decode cL_law 7 = .ok (.astore_n 1, 1) := by decide +kernel
theorem dL_law_8 : decode cL_law 8 = .ok (.new 64, 3) := by decide +kernel
theorem dL_law_11 : decode cL_law 11 = .ok (.dup, 1) := by decide +kernel
theorem dL_law_12 : decode cL_law 12 = .ok (.invokespecial 66, 3) := by decide +kernel
theorem dL_law_15 : decode cL_law 15 = .ok (.astore_n 2, 1) := by decide +kernel
theorem dL_law_16 : decode cL_law 16 = .ok (.iconst 1, 1) := by decide +kernel
theorem dL_law_17 : decode cL_law 17 = .ok (.newarray .long, 2) := by decide +kernel
theorem dL_law_19 : decode cL_law 19 = .ok (.astore_n 3, 1) := by decide +kernel
theorem dL_law_20 : decode cL_law 20 = .ok (.iconst 0, 1) := by decide +kernel
