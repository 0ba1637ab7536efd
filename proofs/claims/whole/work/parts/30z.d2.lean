theorem dX10_init_0 : decode cX10_init 0 = .ok (.aload_n 0, 1) := by decide +kernel
theorem dX10_init_1 : decode cX10_init 1 = .ok (.invokespecial 1, 3) := by decide +kernel
theorem dX10_init_4 : decode cX10_init 4 = .ok (.aload_n 0, 1) := by decide +kernel
theorem dX10_init_5 : decode cX10_init 5 = .ok (.new 7, 3) := by decide +kernel
theorem dX10_init_8 : decode cX10_init 8 = .ok (.dup, 1) := by decide +kernel
theorem dX10_init_9 : decode cX10_init 9 = .ok (.invokespecial 9, 3) := by decide +kernel
theorem dX10_init_12 : decode cX10_init 12 = .ok (.putfield 10, 3) := by decide +kernel
theorem dX10_init_15 : decode cX10_init 15 = .ok (.aload_n 0, 1) := by decide +kernel
theorem dX10_init_16 : decode cX10_init 16 = .ok (.new 16, 3) := by decide +kernel
theorem dX10_init_19 : decode cX10_init 19 = .ok (.dup, 1) := by decide +kernel
theorem dX10_init_20 : decode cX10_init 20 = .ok (.invokespecial 18, 3) := by decide +kernel
theorem dX10_init_23 : decode cX10_init 23 = .ok (.putfield 19, 3) := by decide +kernel
theorem dX10_init_26 : decode cX10_init 26 = .ok (.aload_n 0, 1) := by decide +kernel
theorem dX10_init_27 : decode cX10_init 27 = .ok (.new 23, 3) := by decide +kernel
theorem dX10_init_30 : decode cX10_init 30 = .ok (.dup, 1) := by decide +kernel
theorem dX10_init_31 : decode cX10_init 31 = .ok (.new 25, 3) := by decide +kernel
theorem dX10_init_34 : decode cX10_init 34 = .ok (.dup, 1) := by decide +kernel
theorem dX10_init_35 : decode cX10_init 35 = .ok (.invokespecial 27, 3) := by decide +kernel
theorem dX10_init_38 : decode cX10_init 38 = .ok (.invokespecial 28, 3) := by decide +kernel
theorem dX10_init_41 : decode cX10_init 41 = .ok (.putfield 31, 3) := by decide +kernel
theorem dX10_init_44 : decode cX10_init 44 = .ok (.aload_n 0, 1) := by decide +kernel
theorem dX10_init_45 : decode cX10_init 45 = .ok (.new 35, 3) := by decide +kernel
theorem dX10_init_48 : decode cX10_init 48 = .ok (.dup, 1) := by decide +kernel
theorem dX10_init_49 : decode cX10_init 49 = .ok (.invokespecial 37, 3) := by decide +kernel
theorem dX10_init_52 : decode cX10_init 52 = .ok (.putfield 38, 3) := by decide +kernel
theorem dX10_init_55 : decode cX10_init 55 = .ok (.return_, 1) := by decide +kernel
theorem dX10_put_0 : decode cX10_put 0 = .ok (.aload_n 0, 1) := by decide +kernel
theorem dX10_put_1 : decode cX10_put 1 = .ok (.iload_n 1, 1) := by decide +kernel
theorem dX10_put_2 : decode cX10_put 2 = .ok (.invokevirtual 42, 3) := by decide +kernel
theorem dX10_put_5 : decode cX10_put 5 = .ok (.iload_n 2, 1) := by decide +kernel
theorem dX10_put_6 : decode cX10_put 6 = .ok (.ifCond .lt 10, 3) := by decide +kernel
theorem dX10_put_9 : decode cX10_put 9 = .ok (.iload_n 2, 1) := by decide +kernel
theorem dX10_put_10 : decode cX10_put 10 = .ok (.sipush 255, 3) := by decide +kernel
theorem dX10_put_13 : decode cX10_put 13 = .ok (.if_icmp .le 13, 3) := by decide +kernel
theorem dX10_put_16 : decode cX10_put 16 = .ok (.new 46, 3) := by decide +kernel
theorem dX10_put_19 : decode cX10_put 19 = .ok (.dup, 1) := by decide +kernel
theorem dX10_put_20 : decode cX10_put 20 = .ok (.ldc 48, 2) := by decide +kernel
theorem dX10_put_22 : decode cX10_put 22 = .ok (.invokespecial 50, 3) := by decide +kernel
theorem dX10_put_25 : decode cX10_put 25 = .ok (.athrow, 1) := by decide +kernel
theorem dX10_put_26 : decode cX10_put 26 = .ok (.aload_n 0, 1) := by decide +kernel
theorem dX10_put_27 : decode cX10_put 27 = .ok (.getfield 10, 3) := by decide +kernel
theorem dX10_put_30 : decode cX10_put 30 = .ok (.iload_n 1, 1) := by decide +kernel
theorem dX10_put_31 : decode cX10_put 31 = .ok (.iload_n 2, 1) := by decide +kernel
theorem dX10_put_32 : decode cX10_put 32 = .ok (.invokevirtual 53, 3) := by decide +kernel
theorem dX10_put_35 : decode cX10_put 35 = .ok (.ireturn, 1) := by decide +kernel
theorem dX10_drop_0 : decode cX10_drop 0 = .ok (.aload_n 0, 1) := by decide +kernel
theorem dX10_drop_1 : decode cX10_drop 1 = .ok (.iload_n 1, 1) := by decide +kernel
theorem dX10_drop_2 : decode cX10_drop 2 = .ok (.invokevirtual 42, 3) := by decide +kernel
theorem dX10_drop_5 : decode cX10_drop 5 = .ok (.aload_n 0, 1) := by decide +kernel
theorem dX10_drop_6 : decode cX10_drop 6 = .ok (.getfield 10, 3) := by decide +kernel
theorem dX10_drop_9 : decode cX10_drop 9 = .ok (.iload_n 1, 1) := by decide +kernel
theorem dX10_drop_10 : decode cX10_drop 10 = .ok (.iconst (-1), 1) := by decide +kernel
theorem dX10_drop_11 : decode cX10_drop 11 = .ok (.invokevirtual 53, 3) := by decide +kernel
theorem dX10_drop_14 : decode cX10_drop 14 = .ok (.ireturn, 1) := by decide +kernel
theorem dX10_documents_0 : decode cX10_documents 0 = .ok (.aload_n 0, 1) := by decide +kernel
theorem dX10_documents_1 : decode cX10_documents 1 = .ok (.getfield 10, 3) := by decide +kernel
theorem dX10_documents_4 : decode cX10_documents 4 = .ok (.invokevirtual 57, 3) := by decide +kernel
theorem dX10_documents_7 : decode cX10_documents 7 = .ok (.invokestatic 61, 3) := by decide +kernel
theorem dX10_documents_10 : decode cX10_documents 10 = .ok (.ireturn, 1) := by decide +kernel
theorem dX10_count_0 : decode cX10_count 0 = .ok (.aload_n 0, 1) := by decide +kernel
theorem dX10_count_1 : decode cX10_count 1 = .ok (.iload_n 1, 1) := by decide +kernel
theorem dX10_count_2 : decode cX10_count 2 = .ok (.invokevirtual 67, 3) := by decide +kernel
theorem dX10_count_5 : decode cX10_count 5 = .ok (.aload_n 0, 1) := by decide +kernel
theorem dX10_count_6 : decode cX10_count 6 = .ok (.getfield 10, 3) := by decide +kernel
theorem dX10_count_9 : decode cX10_count 9 = .ok (.iload_n 1, 1) := by decide +kernel
theorem dX10_count_10 : decode cX10_count 10 = .ok (.iconst 0, 1) := by decide +kernel
theorem dX10_count_11 : decode cX10_count 11 = .ok (.invokestatic 70, 3) := by decide +kernel
theorem dX10_count_14 : decode cX10_count 14 = .ok (.invokevirtual 74, 3) := by decide +kernel
theorem dX10_count_17 : decode cX10_count 17 = .ok (.invokestatic 61, 3) := by decide +kernel
theorem dX10_count_20 : decode cX10_count 20 = .ok (.ireturn, 1) := by decide +kernel
theorem dX10_ask_0 : decode cX10_ask 0 = .ok (.aload_n 0, 1) := by decide +kernel
theorem dX10_ask_1 : decode cX10_ask 1 = .ok (.iload_n 1, 1) := by decide +kernel
theorem dX10_ask_2 : decode cX10_ask 2 = .ok (.iload_n 2, 1) := by decide +kernel
theorem dX10_ask_3 : decode cX10_ask 3 = .ok (.iconst 5, 1) := by decide +kernel
theorem dX10_ask_4 : decode cX10_ask 4 = .ok (.invokevirtual 78, 3) := by decide +kernel
theorem dX10_ask_7 : decode cX10_ask 7 = .ok (.aload_n 0, 1) := by decide +kernel
theorem dX10_ask_8 : decode cX10_ask 8 = .ok (.getfield 19, 3) := by decide +kernel
theorem dX10_ask_11 : decode cX10_ask 11 = .ok (.iload_n 1, 1) := by decide +kernel
theorem dX10_ask_12 : decode cX10_ask 12 = .ok (.iload_n 2, 1) := by decide +kernel
theorem dX10_ask_13 : decode cX10_ask 13 = .ok (.invokevirtual 82, 3) := by decide +kernel
theorem dX10_ask_16 : decode cX10_ask 16 = .ok (.ireturn, 1) := by decide +kernel
theorem dX10_clause_0 : decode cX10_clause 0 = .ok (.aload_n 0, 1) := by decide +kernel
theorem dX10_clause_1 : decode cX10_clause 1 = .ok (.iload_n 1, 1) := by decide +kernel
theorem dX10_clause_2 : decode cX10_clause 2 = .ok (.iload_n 2, 1) := by decide +kernel
theorem dX10_clause_3 : decode cX10_clause 3 = .ok (.bipush 6, 2) := by decide +kernel
theorem dX10_clause_5 : decode cX10_clause 5 = .ok (.invokevirtual 78, 3) := by decide +kernel
theorem dX10_clause_8 : decode cX10_clause 8 = .ok (.aload_n 0, 1) := by decide +kernel
theorem dX10_clause_9 : decode cX10_clause 9 = .ok (.getfield 19, 3) := by decide +kernel
theorem dX10_clause_12 : decode cX10_clause 12 = .ok (.iload_n 1, 1) := by decide +kernel
theorem dX10_clause_13 : decode cX10_clause 13 = .ok (.iload_n 2, 1) := by decide +kernel
theorem dX10_clause_14 : decode cX10_clause 14 = .ok (.iload_n 3, 1) := by decide +kernel
theorem dX10_clause_15 : decode cX10_clause 15 = .ok (.invokevirtual 86, 3) := by decide +kernel
theorem dX10_clause_18 : decode cX10_clause 18 = .ok (.istore 4, 2) := by decide +kernel
theorem dX10_clause_20 : decode cX10_clause 20 = .ok (.iload 4, 2) := by decide +kernel
theorem dX10_clause_22 : decode cX10_clause 22 = .ok (.iconst (-1), 1) := by decide +kernel
theorem dX10_clause_23 : decode cX10_clause 23 = .ok (.if_icmp .ne 13, 3) := by decide +kernel
theorem dX10_clause_26 : decode cX10_clause 26 = .ok (.new 90, 3) := by decide +kernel
theorem dX10_clause_29 : decode cX10_clause 29 = .ok (.dup, 1) := by decide +kernel
theorem dX10_clause_30 : decode cX10_clause 30 = .ok (.ldc 92, 2) := by decide +kernel
theorem dX10_clause_32 : decode cX10_clause 32 = .ok (.invokespecial 94, 3) := by decide +kernel
theorem dX10_clause_35 : decode cX10_clause 35 = .ok (.athrow, 1) := by decide +kernel
theorem dX10_clause_36 : decode cX10_clause 36 = .ok (.iload 4, 2) := by decide +kernel
theorem dX10_clause_38 : decode cX10_clause 38 = .ok (.ireturn, 1) := by decide +kernel
theorem dX10_literal_0 : decode cX10_literal 0 = .ok (.aload_n 0, 1) := by decide +kernel
theorem dX10_literal_1 : decode cX10_literal 1 = .ok (.getfield 19, 3) := by decide +kernel
theorem dX10_literal_4 : decode cX10_literal 4 = .ok (.iload_n 1, 1) := by decide +kernel
theorem dX10_literal_5 : decode cX10_literal 5 = .ok (.invokevirtual 95, 3) := by decide +kernel
theorem dX10_literal_8 : decode cX10_literal 8 = .ok (.astore 4, 2) := by decide +kernel
theorem dX10_literal_10 : decode cX10_literal 10 = .ok (.aload 4, 2) := by decide +kernel
theorem dX10_literal_12 : decode cX10_literal 12 = .ok (.ifnonnull 13, 3) := by decide +kernel
theorem dX10_literal_15 : decode cX10_literal 15 = .ok (.new 99, 3) := by decide +kernel
theorem dX10_literal_18 : decode cX10_literal 18 = .ok (.dup, 1) := by decide +kernel
theorem dX10_literal_19 : decode cX10_literal 19 = .ok (.ldc 101, 2) := by decide +kernel
theorem dX10_literal_21 : decode cX10_literal 21 = .ok (.invokespecial 103, 3) := by decide +kernel
theorem dX10_literal_24 : decode cX10_literal 24 = .ok (.athrow, 1) := by decide +kernel
theorem dX10_literal_25 : decode cX10_literal 25 = .ok (.aload_n 0, 1) := by decide +kernel
theorem dX10_literal_26 : decode cX10_literal 26 = .ok (.iload_n 2, 1) := by decide +kernel
theorem dX10_literal_27 : decode cX10_literal 27 = .ok (.invokevirtual 67, 3) := by decide +kernel
theorem dX10_literal_30 : decode cX10_literal 30 = .ok (.aload 4, 2) := by decide +kernel
theorem dX10_literal_32 : decode cX10_literal 32 = .ok (.iload_n 2, 1) := by decide +kernel
theorem dX10_literal_33 : decode cX10_literal 33 = .ok (.iload_n 3, 1) := by decide +kernel
theorem dX10_literal_34 : decode cX10_literal 34 = .ok (.invokestatic 70, 3) := by decide +kernel
theorem dX10_literal_37 : decode cX10_literal 37 = .ok (.invokevirtual 104, 3) := by decide +kernel
theorem dX10_literal_40 : decode cX10_literal 40 = .ok (.ifCond .ne 13, 3) := by decide +kernel
theorem dX10_literal_43 : decode cX10_literal 43 = .ok (.new 90, 3) := by decide +kernel
theorem dX10_literal_46 : decode cX10_literal 46 = .ok (.dup, 1) := by decide +kernel
theorem dX10_literal_47 : decode cX10_literal 47 = .ok (.ldc 109, 2) := by decide +kernel
theorem dX10_literal_49 : decode cX10_literal 49 = .ok (.invokespecial 94, 3) := by decide +kernel
theorem dX10_literal_52 : decode cX10_literal 52 = .ok (.athrow, 1) := by decide +kernel
theorem dX10_literal_53 : decode cX10_literal 53 = .ok (.aload 4, 2) := by decide +kernel
theorem dX10_literal_55 : decode cX10_literal 55 = .ok (.getfield 111, 3) := by decide +kernel
theorem dX10_literal_58 : decode cX10_literal 58 = .ok (.ireturn, 1) := by decide +kernel
theorem dX10_matches_0 : decode cX10_matches 0 = .ok (.aload_n 0, 1) := by decide +kernel
theorem dX10_matches_1 : decode cX10_matches 1 = .ok (.iload_n 1, 1) := by decide +kernel
theorem dX10_matches_2 : decode cX10_matches 2 = .ok (.invokevirtual 42, 3) := by decide +kernel
theorem dX10_matches_5 : decode cX10_matches 5 = .ok (.aload_n 0, 1) := by decide +kernel
theorem dX10_matches_6 : decode cX10_matches 6 = .ok (.iload_n 1, 1) := by decide +kernel
theorem dX10_matches_7 : decode cX10_matches 7 = .ok (.invokevirtual 115, 3) := by decide +kernel
theorem dX10_matches_10 : decode cX10_matches 10 = .ok (.ireturn, 1) := by decide +kernel
theorem dX10_hits_0 : decode cX10_hits 0 = .ok (.iconst 0, 1) := by decide +kernel
theorem dX10_hits_1 : decode cX10_hits 1 = .ok (.istore_n 1, 1) := by decide +kernel
theorem dX10_hits_2 : decode cX10_hits 2 = .ok (.iconst 0, 1) := by decide +kernel
theorem dX10_hits_3 : decode cX10_hits 3 = .ok (.istore_n 2, 1) := by decide +kernel
theorem dX10_hits_4 : decode cX10_hits 4 = .ok (.iload_n 2, 1) := by decide +kernel
theorem dX10_hits_5 : decode cX10_hits 5 = .ok (.bipush 40, 2) := by decide +kernel
theorem dX10_hits_7 : decode cX10_hits 7 = .ok (.if_icmp .ge 20, 3) := by decide +kernel
theorem dX10_hits_10 : decode cX10_hits 10 = .ok (.aload_n 0, 1) := by decide +kernel
theorem dX10_hits_11 : decode cX10_hits 11 = .ok (.iload_n 2, 1) := by decide +kernel
theorem dX10_hits_12 : decode cX10_hits 12 = .ok (.invokevirtual 115, 3) := by decide +kernel
theorem dX10_hits_15 : decode cX10_hits 15 = .ok (.ifCond .eq 6, 3) := by decide +kernel
theorem dX10_hits_18 : decode cX10_hits 18 = .ok (.iinc 1 1, 3) := by decide +kernel
theorem dX10_hits_21 : decode cX10_hits 21 = .ok (.iinc 2 1, 3) := by decide +kernel
theorem dX10_hits_24 : decode cX10_hits 24 = .ok (.goto (-20), 3) := by decide +kernel
theorem dX10_hits_27 : decode cX10_hits 27 = .ok (.iload_n 1, 1) := by decide +kernel
theorem dX10_hits_28 : decode cX10_hits 28 = .ok (.ireturn, 1) := by decide +kernel
theorem dX10_planKind_0 : decode cX10_planKind 0 = .ok (.aload_n 0, 1) := by decide +kernel
theorem dX10_planKind_1 : decode cX10_planKind 1 = .ok (.getfield 31, 3) := by decide +kernel
theorem dX10_planKind_4 : decode cX10_planKind 4 = .ok (.aload_n 0, 1) := by decide +kernel
theorem dX10_planKind_5 : decode cX10_planKind 5 = .ok (.getfield 19, 3) := by decide +kernel
theorem dX10_planKind_8 : decode cX10_planKind 8 = .ok (.aload_n 0, 1) := by decide +kernel
theorem dX10_planKind_9 : decode cX10_planKind 9 = .ok (.getfield 10, 3) := by decide +kernel
theorem dX10_planKind_12 : decode cX10_planKind 12 = .ok (.invokevirtual 118, 3) := by decide +kernel
theorem dX10_planKind_15 : decode cX10_planKind 15 = .ok (.aload_n 0, 1) := by decide +kernel
theorem dX10_planKind_16 : decode cX10_planKind 16 = .ok (.getfield 31, 3) := by decide +kernel
theorem dX10_planKind_19 : decode cX10_planKind 19 = .ok (.getfield 122, 3) := by decide +kernel
theorem dX10_planKind_22 : decode cX10_planKind 22 = .ok (.ireturn, 1) := by decide +kernel
theorem dX10_planNeed_0 : decode cX10_planNeed 0 = .ok (.aload_n 0, 1) := by decide +kernel
theorem dX10_planNeed_1 : decode cX10_planNeed 1 = .ok (.getfield 31, 3) := by decide +kernel
theorem dX10_planNeed_4 : decode cX10_planNeed 4 = .ok (.aload_n 0, 1) := by decide +kernel
theorem dX10_planNeed_5 : decode cX10_planNeed 5 = .ok (.getfield 19, 3) := by decide +kernel
theorem dX10_planNeed_8 : decode cX10_planNeed 8 = .ok (.aload_n 0, 1) := by decide +kernel
theorem dX10_planNeed_9 : decode cX10_planNeed 9 = .ok (.getfield 10, 3) := by decide +kernel
theorem dX10_planNeed_12 : decode cX10_planNeed 12 = .ok (.invokevirtual 118, 3) := by decide +kernel
theorem dX10_planNeed_15 : decode cX10_planNeed 15 = .ok (.aload_n 0, 1) := by decide +kernel
theorem dX10_planNeed_16 : decode cX10_planNeed 16 = .ok (.getfield 31, 3) := by decide +kernel
theorem dX10_planNeed_19 : decode cX10_planNeed 19 = .ok (.getfield 122, 3) := by decide +kernel
theorem dX10_planNeed_22 : decode cX10_planNeed 22 = .ok (.iconst 2, 1) := by decide +kernel
theorem dX10_planNeed_23 : decode cX10_planNeed 23 = .ok (.if_icmp .ne 13, 3) := by decide +kernel
theorem dX10_planNeed_26 : decode cX10_planNeed 26 = .ok (.aload_n 0, 1) := by decide +kernel
theorem dX10_planNeed_27 : decode cX10_planNeed 27 = .ok (.getfield 31, 3) := by decide +kernel
theorem dX10_planNeed_30 : decode cX10_planNeed 30 = .ok (.getfield 125, 3) := by decide +kernel
theorem dX10_planNeed_33 : decode cX10_planNeed 33 = .ok (.goto 4, 3) := by decide +kernel
theorem dX10_planNeed_36 : decode cX10_planNeed 36 = .ok (.iconst 0, 1) := by decide +kernel
theorem dX10_planNeed_37 : decode cX10_planNeed 37 = .ok (.ireturn, 1) := by decide +kernel
theorem dX10_planSize_0 : decode cX10_planSize 0 = .ok (.aload_n 0, 1) := by decide +kernel
theorem dX10_planSize_1 : decode cX10_planSize 1 = .ok (.getfield 31, 3) := by decide +kernel
theorem dX10_planSize_4 : decode cX10_planSize 4 = .ok (.aload_n 0, 1) := by decide +kernel
theorem dX10_planSize_5 : decode cX10_planSize 5 = .ok (.getfield 19, 3) := by decide +kernel
theorem dX10_planSize_8 : decode cX10_planSize 8 = .ok (.aload_n 0, 1) := by decide +kernel
theorem dX10_planSize_9 : decode cX10_planSize 9 = .ok (.getfield 10, 3) := by decide +kernel
theorem dX10_planSize_12 : decode cX10_planSize 12 = .ok (.invokevirtual 118, 3) := by decide +kernel
theorem dX10_planSize_15 : decode cX10_planSize 15 = .ok (.aload_n 0, 1) := by decide +kernel
theorem dX10_planSize_16 : decode cX10_planSize 16 = .ok (.getfield 31, 3) := by decide +kernel
theorem dX10_planSize_19 : decode cX10_planSize 19 = .ok (.getfield 128, 3) := by decide +kernel
theorem dX10_planSize_22 : decode cX10_planSize 22 = .ok (.ireturn, 1) := by decide +kernel
theorem dX10_estimate_0 : decode cX10_estimate 0 = .ok (.aload_n 0, 1) := by decide +kernel
theorem dX10_estimate_1 : decode cX10_estimate 1 = .ok (.getfield 31, 3) := by decide +kernel
theorem dX10_estimate_4 : decode cX10_estimate 4 = .ok (.aload_n 0, 1) := by decide +kernel
theorem dX10_estimate_5 : decode cX10_estimate 5 = .ok (.getfield 19, 3) := by decide +kernel
theorem dX10_estimate_8 : decode cX10_estimate 8 = .ok (.aload_n 0, 1) := by decide +kernel
theorem dX10_estimate_9 : decode cX10_estimate 9 = .ok (.getfield 10, 3) := by decide +kernel
theorem dX10_estimate_12 : decode cX10_estimate 12 = .ok (.invokevirtual 118, 3) := by decide +kernel
theorem dX10_estimate_15 : decode cX10_estimate 15 = .ok (.aload_n 0, 1) := by decide +kernel
theorem dX10_estimate_16 : decode cX10_estimate 16 = .ok (.getfield 31, 3) := by decide +kernel
theorem dX10_estimate_19 : decode cX10_estimate 19 = .ok (.getfield 129, 3) := by decide +kernel
theorem dX10_estimate_22 : decode cX10_estimate 22 = .ok (.ireturn, 1) := by decide +kernel
theorem dX10_clauseAt_0 : decode cX10_clauseAt 0 = .ok (.aload_n 0, 1) := by decide +kernel
theorem dX10_clauseAt_1 : decode cX10_clauseAt 1 = .ok (.iload_n 1, 1) := by decide +kernel
theorem dX10_clauseAt_2 : decode cX10_clauseAt 2 = .ok (.invokevirtual 132, 3) := by decide +kernel
theorem dX10_clauseAt_5 : decode cX10_clauseAt 5 = .ok (.getfield 136, 3) := by decide +kernel
theorem dX10_clauseAt_8 : decode cX10_clauseAt 8 = .ok (.ireturn, 1) := by decide +kernel
theorem dX10_kindAt_0 : decode cX10_kindAt 0 = .ok (.aload_n 0, 1) := by decide +kernel
theorem dX10_kindAt_1 : decode cX10_kindAt 1 = .ok (.iload_n 1, 1) := by decide +kernel
theorem dX10_kindAt_2 : decode cX10_kindAt 2 = .ok (.invokevirtual 132, 3) := by decide +kernel
theorem dX10_kindAt_5 : decode cX10_kindAt 5 = .ok (.getfield 141, 3) := by decide +kernel
theorem dX10_kindAt_8 : decode cX10_kindAt 8 = .ok (.ireturn, 1) := by decide +kernel
theorem dX10_estimateAt_0 : decode cX10_estimateAt 0 = .ok (.aload_n 0, 1) := by decide +kernel
theorem dX10_estimateAt_1 : decode cX10_estimateAt 1 = .ok (.iload_n 1, 1) := by decide +kernel
theorem dX10_estimateAt_2 : decode cX10_estimateAt 2 = .ok (.invokevirtual 132, 3) := by decide +kernel
theorem dX10_estimateAt_5 : decode cX10_estimateAt 5 = .ok (.getfield 142, 3) := by decide +kernel
theorem dX10_estimateAt_8 : decode cX10_estimateAt 8 = .ok (.ireturn, 1) := by decide +kernel
theorem dX10_literalAt_0 : decode cX10_literalAt 0 = .ok (.aload_n 0, 1) := by decide +kernel
theorem dX10_literalAt_1 : decode cX10_literalAt 1 = .ok (.iload_n 1, 1) := by decide +kernel
theorem dX10_literalAt_2 : decode cX10_literalAt 2 = .ok (.invokevirtual 132, 3) := by decide +kernel
theorem dX10_literalAt_5 : decode cX10_literalAt 5 = .ok (.iload_n 2, 1) := by decide +kernel
theorem dX10_literalAt_6 : decode cX10_literalAt 6 = .ok (.invokevirtual 143, 3) := by decide +kernel
theorem dX10_literalAt_9 : decode cX10_literalAt 9 = .ok (.astore_n 3, 1) := by decide +kernel
theorem dX10_literalAt_10 : decode cX10_literalAt 10 = .ok (.aload_n 3, 1) := by decide +kernel
theorem dX10_literalAt_11 : decode cX10_literalAt 11 = .ok (.ifnonnull 13, 3) := by decide +kernel
theorem dX10_literalAt_14 : decode cX10_literalAt 14 = .ok (.new 46, 3) := by decide +kernel
theorem dX10_literalAt_17 : decode cX10_literalAt 17 = .ok (.dup, 1) := by decide +kernel
theorem dX10_literalAt_18 : decode cX10_literalAt 18 = .ok (.ldc 147, 2) := by decide +kernel
theorem dX10_literalAt_20 : decode cX10_literalAt 20 = .ok (.invokespecial 50, 3) := by decide +kernel
theorem dX10_literalAt_23 : decode cX10_literalAt 23 = .ok (.athrow, 1) := by decide +kernel
theorem dX10_literalAt_24 : decode cX10_literalAt 24 = .ok (.aload_n 3, 1) := by decide +kernel
theorem dX10_literalAt_25 : decode cX10_literalAt 25 = .ok (.getfield 149, 3) := by decide +kernel
theorem dX10_literalAt_28 : decode cX10_literalAt 28 = .ok (.ireturn, 1) := by decide +kernel
theorem dX10_begin_0 : decode cX10_begin 0 = .ok (.aload_n 0, 1) := by decide +kernel
theorem dX10_begin_1 : decode cX10_begin 1 = .ok (.getfield 38, 3) := by decide +kernel
theorem dX10_begin_4 : decode cX10_begin 4 = .ok (.aload_n 0, 1) := by decide +kernel
theorem dX10_begin_5 : decode cX10_begin 5 = .ok (.getfield 19, 3) := by decide +kernel
theorem dX10_begin_8 : decode cX10_begin 8 = .ok (.aload_n 0, 1) := by decide +kernel
theorem dX10_begin_9 : decode cX10_begin 9 = .ok (.getfield 10, 3) := by decide +kernel
theorem dX10_begin_12 : decode cX10_begin 12 = .ok (.invokevirtual 152, 3) := by decide +kernel
theorem dX10_begin_15 : decode cX10_begin 15 = .ok (.ireturn, 1) := by decide +kernel
theorem dX10_leap_0 : decode cX10_leap 0 = .ok (.aload_n 0, 1) := by decide +kernel
theorem dX10_leap_1 : decode cX10_leap 1 = .ok (.iload_n 1, 1) := by decide +kernel
theorem dX10_leap_2 : decode cX10_leap 2 = .ok (.invokevirtual 42, 3) := by decide +kernel
theorem dX10_leap_5 : decode cX10_leap 5 = .ok (.aload_n 0, 1) := by decide +kernel
theorem dX10_leap_6 : decode cX10_leap 6 = .ok (.invokevirtual 155, 3) := by decide +kernel
theorem dX10_leap_9 : decode cX10_leap 9 = .ok (.aload_n 0, 1) := by decide +kernel
theorem dX10_leap_10 : decode cX10_leap 10 = .ok (.getfield 38, 3) := by decide +kernel
theorem dX10_leap_13 : decode cX10_leap 13 = .ok (.iload_n 1, 1) := by decide +kernel
theorem dX10_leap_14 : decode cX10_leap 14 = .ok (.invokevirtual 158, 3) := by decide +kernel
theorem dX10_leap_17 : decode cX10_leap 17 = .ok (.ireturn, 1) := by decide +kernel
theorem dX10_next_0 : decode cX10_next 0 = .ok (.aload_n 0, 1) := by decide +kernel
theorem dX10_next_1 : decode cX10_next 1 = .ok (.invokevirtual 155, 3) := by decide +kernel
theorem dX10_next_4 : decode cX10_next 4 = .ok (.aload_n 0, 1) := by decide +kernel
theorem dX10_next_5 : decode cX10_next 5 = .ok (.getfield 38, 3) := by decide +kernel
theorem dX10_next_8 : decode cX10_next 8 = .ok (.iconst 0, 1) := by decide +kernel
theorem dX10_next_9 : decode cX10_next 9 = .ok (.invokevirtual 158, 3) := by decide +kernel
theorem dX10_next_12 : decode cX10_next 12 = .ok (.ireturn, 1) := by decide +kernel
theorem dX10_readings_0 : decode cX10_readings 0 = .ok (.aload_n 0, 1) := by decide +kernel
theorem dX10_readings_1 : decode cX10_readings 1 = .ok (.invokevirtual 155, 3) := by decide +kernel
theorem dX10_readings_4 : decode cX10_readings 4 = .ok (.aload_n 0, 1) := by decide +kernel
theorem dX10_readings_5 : decode cX10_readings 5 = .ok (.getfield 38, 3) := by decide +kernel
theorem dX10_readings_8 : decode cX10_readings 8 = .ok (.getfield 162, 3) := by decide +kernel
theorem dX10_readings_11 : decode cX10_readings 11 = .ok (.getfield 166, 3) := by decide +kernel
theorem dX10_readings_14 : decode cX10_readings 14 = .ok (.ireturn, 1) := by decide +kernel
theorem dX10_checkDocument_0 : decode cX10_checkDocument 0 = .ok (.iload_n 1, 1) := by decide +kernel
theorem dX10_checkDocument_1 : decode cX10_checkDocument 1 = .ok (.ifCond .lt 9, 3) := by decide +kernel
theorem dX10_checkDocument_4 : decode cX10_checkDocument 4 = .ok (.iload_n 1, 1) := by decide +kernel
theorem dX10_checkDocument_5 : decode cX10_checkDocument 5 = .ok (.bipush 40, 2) := by decide +kernel
theorem dX10_checkDocument_7 : decode cX10_checkDocument 7 = .ok (.if_icmp .lt 13, 3) := by decide +kernel
theorem dX10_checkDocument_10 : decode cX10_checkDocument 10 = .ok (.new 99, 3) := by decide +kernel
theorem dX10_checkDocument_13 : decode cX10_checkDocument 13 = .ok (.dup, 1) := by decide +kernel
theorem dX10_checkDocument_14 : decode cX10_checkDocument 14 = .ok (.ldc 169, 2) := by decide +kernel
theorem dX10_checkDocument_16 : decode cX10_checkDocument 16 = .ok (.invokespecial 103, 3) := by decide +kernel
theorem dX10_checkDocument_19 : decode cX10_checkDocument 19 = .ok (.athrow, 1) := by decide +kernel
theorem dX10_checkDocument_20 : decode cX10_checkDocument 20 = .ok (.return_, 1) := by decide +kernel
theorem dX10_checkWord_0 : decode cX10_checkWord 0 = .ok (.iload_n 1, 1) := by decide +kernel
theorem dX10_checkWord_1 : decode cX10_checkWord 1 = .ok (.ifCond .lt 9, 3) := by decide +kernel
theorem dX10_checkWord_4 : decode cX10_checkWord 4 = .ok (.iload_n 1, 1) := by decide +kernel
theorem dX10_checkWord_5 : decode cX10_checkWord 5 = .ok (.bipush 8, 2) := by decide +kernel
theorem dX10_checkWord_7 : decode cX10_checkWord 7 = .ok (.if_icmp .lt 13, 3) := by decide +kernel
theorem dX10_checkWord_10 : decode cX10_checkWord 10 = .ok (.new 99, 3) := by decide +kernel
theorem dX10_checkWord_13 : decode cX10_checkWord 13 = .ok (.dup, 1) := by decide +kernel
theorem dX10_checkWord_14 : decode cX10_checkWord 14 = .ok (.ldc 171, 2) := by decide +kernel
theorem dX10_checkWord_16 : decode cX10_checkWord 16 = .ok (.invokespecial 103, 3) := by decide +kernel
theorem dX10_checkWord_19 : decode cX10_checkWord 19 = .ok (.athrow, 1) := by decide +kernel
theorem dX10_checkWord_20 : decode cX10_checkWord 20 = .ok (.return_, 1) := by decide +kernel
theorem dX10_checkKindAndNeed_0 : decode cX10_checkKindAndNeed 0 = .ok (.iload_n 1, 1) := by decide +kernel
theorem dX10_checkKindAndNeed_1 : decode cX10_checkKindAndNeed 1 = .ok (.ifCond .eq 23, 3) := by decide +kernel
theorem dX10_checkKindAndNeed_4 : decode cX10_checkKindAndNeed 4 = .ok (.iload_n 1, 1) := by decide +kernel
theorem dX10_checkKindAndNeed_5 : decode cX10_checkKindAndNeed 5 = .ok (.iconst 1, 1) := by decide +kernel
theorem dX10_checkKindAndNeed_6 : decode cX10_checkKindAndNeed 6 = .ok (.if_icmp .eq 18, 3) := by decide +kernel
theorem dX10_checkKindAndNeed_9 : decode cX10_checkKindAndNeed 9 = .ok (.iload_n 1, 1) := by decide +kernel
theorem dX10_checkKindAndNeed_10 : decode cX10_checkKindAndNeed 10 = .ok (.iconst 2, 1) := by decide +kernel
theorem dX10_checkKindAndNeed_11 : decode cX10_checkKindAndNeed 11 = .ok (.if_icmp .eq 13, 3) := by decide +kernel
theorem dX10_checkKindAndNeed_14 : decode cX10_checkKindAndNeed 14 = .ok (.new 46, 3) := by decide +kernel
theorem dX10_checkKindAndNeed_17 : decode cX10_checkKindAndNeed 17 = .ok (.dup, 1) := by decide +kernel
theorem dX10_checkKindAndNeed_18 : decode cX10_checkKindAndNeed 18 = .ok (.ldc 173, 2) := by decide +kernel
theorem dX10_checkKindAndNeed_20 : decode cX10_checkKindAndNeed 20 = .ok (.invokespecial 50, 3) := by decide +kernel
theorem dX10_checkKindAndNeed_23 : decode cX10_checkKindAndNeed 23 = .ok (.athrow, 1) := by decide +kernel
theorem dX10_checkKindAndNeed_24 : decode cX10_checkKindAndNeed 24 = .ok (.iload_n 1, 1) := by decide +kernel
theorem dX10_checkKindAndNeed_25 : decode cX10_checkKindAndNeed 25 = .ok (.iconst 2, 1) := by decide +kernel
theorem dX10_checkKindAndNeed_26 : decode cX10_checkKindAndNeed 26 = .ok (.if_icmp .ne 7, 3) := by decide +kernel
theorem dX10_checkKindAndNeed_29 : decode cX10_checkKindAndNeed 29 = .ok (.iconst 1, 1) := by decide +kernel
theorem dX10_checkKindAndNeed_30 : decode cX10_checkKindAndNeed 30 = .ok (.goto 4, 3) := by decide +kernel
theorem dX10_checkKindAndNeed_33 : decode cX10_checkKindAndNeed 33 = .ok (.iconst 0, 1) := by decide +kernel
theorem dX10_checkKindAndNeed_34 : decode cX10_checkKindAndNeed 34 = .ok (.istore 4, 2) := by decide +kernel
theorem dX10_checkKindAndNeed_36 : decode cX10_checkKindAndNeed 36 = .ok (.iload_n 1, 1) := by decide +kernel
theorem dX10_checkKindAndNeed_37 : decode cX10_checkKindAndNeed 37 = .ok (.iconst 2, 1) := by decide +kernel
theorem dX10_checkKindAndNeed_38 : decode cX10_checkKindAndNeed 38 = .ok (.if_icmp .ne 7, 3) := by decide +kernel
theorem dX10_checkKindAndNeed_41 : decode cX10_checkKindAndNeed 41 = .ok (.iload_n 3, 1) := by decide +kernel
theorem dX10_checkKindAndNeed_42 : decode cX10_checkKindAndNeed 42 = .ok (.goto 4, 3) := by decide +kernel
theorem dX10_checkKindAndNeed_45 : decode cX10_checkKindAndNeed 45 = .ok (.iconst 0, 1) := by decide +kernel
theorem dX10_checkKindAndNeed_46 : decode cX10_checkKindAndNeed 46 = .ok (.istore 5, 2) := by decide +kernel
theorem dX10_checkKindAndNeed_48 : decode cX10_checkKindAndNeed 48 = .ok (.iload_n 2, 1) := by decide +kernel
theorem dX10_checkKindAndNeed_49 : decode cX10_checkKindAndNeed 49 = .ok (.iload 4, 2) := by decide +kernel
theorem dX10_checkKindAndNeed_51 : decode cX10_checkKindAndNeed 51 = .ok (.if_icmp .lt 9, 3) := by decide +kernel
theorem dX10_checkKindAndNeed_54 : decode cX10_checkKindAndNeed 54 = .ok (.iload_n 2, 1) := by decide +kernel
theorem dX10_checkKindAndNeed_55 : decode cX10_checkKindAndNeed 55 = .ok (.iload 5, 2) := by decide +kernel
theorem dX10_checkKindAndNeed_57 : decode cX10_checkKindAndNeed 57 = .ok (.if_icmp .le 13, 3) := by decide +kernel
theorem dX10_checkKindAndNeed_60 : decode cX10_checkKindAndNeed 60 = .ok (.new 46, 3) := by decide +kernel
theorem dX10_checkKindAndNeed_63 : decode cX10_checkKindAndNeed 63 = .ok (.dup, 1) := by decide +kernel
theorem dX10_checkKindAndNeed_64 : decode cX10_checkKindAndNeed 64 = .ok (.ldc 175, 2) := by decide +kernel
theorem dX10_checkKindAndNeed_66 : decode cX10_checkKindAndNeed 66 = .ok (.invokespecial 50, 3) := by decide +kernel
theorem dX10_checkKindAndNeed_69 : decode cX10_checkKindAndNeed 69 = .ok (.athrow, 1) := by decide +kernel
theorem dX10_checkKindAndNeed_70 : decode cX10_checkKindAndNeed 70 = .ok (.return_, 1) := by decide +kernel
theorem dX10_checkRun_0 : decode cX10_checkRun 0 = .ok (.aload_n 0, 1) := by decide +kernel
theorem dX10_checkRun_1 : decode cX10_checkRun 1 = .ok (.getfield 38, 3) := by decide +kernel
theorem dX10_checkRun_4 : decode cX10_checkRun 4 = .ok (.getfield 177, 3) := by decide +kernel
theorem dX10_checkRun_7 : decode cX10_checkRun 7 = .ok (.ifCond .ne 13, 3) := by decide +kernel
theorem dX10_checkRun_10 : decode cX10_checkRun 10 = .ok (.new 90, 3) := by decide +kernel
theorem dX10_checkRun_13 : decode cX10_checkRun 13 = .ok (.dup, 1) := by decide +kernel
theorem dX10_checkRun_14 : decode cX10_checkRun 14 = .ok (.ldc 181, 2) := by decide +kernel
theorem dX10_checkRun_16 : decode cX10_checkRun 16 = .ok (.invokespecial 94, 3) := by decide +kernel
theorem dX10_checkRun_19 : decode cX10_checkRun 19 = .ok (.athrow, 1) := by decide +kernel
theorem dX10_checkRun_20 : decode cX10_checkRun 20 = .ok (.return_, 1) := by decide +kernel
theorem dX10_isHit_0 : decode cX10_isHit 0 = .ok (.aload_n 0, 1) := by decide +kernel
theorem dX10_isHit_1 : decode cX10_isHit 1 = .ok (.getfield 10, 3) := by decide +kernel
theorem dX10_isHit_4 : decode cX10_isHit 4 = .ok (.iload_n 1, 1) := by decide +kernel
theorem dX10_isHit_5 : decode cX10_isHit 5 = .ok (.invokevirtual 183, 3) := by decide +kernel
theorem dX10_isHit_8 : decode cX10_isHit 8 = .ok (.istore_n 2, 1) := by decide +kernel
theorem dX10_isHit_9 : decode cX10_isHit 9 = .ok (.iload_n 2, 1) := by decide +kernel
theorem dX10_isHit_10 : decode cX10_isHit 10 = .ok (.iconst (-1), 1) := by decide +kernel
theorem dX10_isHit_11 : decode cX10_isHit 11 = .ok (.if_icmp .eq 18, 3) := by decide +kernel
theorem dX10_isHit_14 : decode cX10_isHit 14 = .ok (.aload_n 0, 1) := by decide +kernel
theorem dX10_isHit_15 : decode cX10_isHit 15 = .ok (.getfield 19, 3) := by decide +kernel
theorem dX10_isHit_18 : decode cX10_isHit 18 = .ok (.iload_n 2, 1) := by decide +kernel
theorem dX10_isHit_19 : decode cX10_isHit 19 = .ok (.invokevirtual 186, 3) := by decide +kernel
theorem dX10_isHit_22 : decode cX10_isHit 22 = .ok (.ifCond .eq 7, 3) := by decide +kernel
theorem dX10_isHit_25 : decode cX10_isHit 25 = .ok (.iconst 1, 1) := by decide +kernel
theorem dX10_isHit_26 : decode cX10_isHit 26 = .ok (.goto 4, 3) := by decide +kernel
theorem dX10_isHit_29 : decode cX10_isHit 29 = .ok (.iconst 0, 1) := by decide +kernel
theorem dX10_isHit_30 : decode cX10_isHit 30 = .ok (.ireturn, 1) := by decide +kernel
theorem dX10_plannedClause_0 : decode cX10_plannedClause 0 = .ok (.aload_n 0, 1) := by decide +kernel
theorem dX10_plannedClause_1 : decode cX10_plannedClause 1 = .ok (.getfield 31, 3) := by decide +kernel
theorem dX10_plannedClause_4 : decode cX10_plannedClause 4 = .ok (.aload_n 0, 1) := by decide +kernel
theorem dX10_plannedClause_5 : decode cX10_plannedClause 5 = .ok (.getfield 19, 3) := by decide +kernel
theorem dX10_plannedClause_8 : decode cX10_plannedClause 8 = .ok (.aload_n 0, 1) := by decide +kernel
theorem dX10_plannedClause_9 : decode cX10_plannedClause 9 = .ok (.getfield 10, 3) := by decide +kernel
theorem dX10_plannedClause_12 : decode cX10_plannedClause 12 = .ok (.invokevirtual 118, 3) := by decide +kernel
theorem dX10_plannedClause_15 : decode cX10_plannedClause 15 = .ok (.aload_n 0, 1) := by decide +kernel
theorem dX10_plannedClause_16 : decode cX10_plannedClause 16 = .ok (.getfield 31, 3) := by decide +kernel
theorem dX10_plannedClause_19 : decode cX10_plannedClause 19 = .ok (.iload_n 1, 1) := by decide +kernel
theorem dX10_plannedClause_20 : decode cX10_plannedClause 20 = .ok (.invokevirtual 189, 3) := by decide +kernel
theorem dX10_plannedClause_23 : decode cX10_plannedClause 23 = .ok (.astore_n 2, 1) := by decide +kernel
theorem dX10_plannedClause_24 : decode cX10_plannedClause 24 = .ok (.aload_n 2, 1) := by decide +kernel
theorem dX10_plannedClause_25 : decode cX10_plannedClause 25 = .ok (.ifnonnull 13, 3) := by decide +kernel
theorem dX10_plannedClause_28 : decode cX10_plannedClause 28 = .ok (.new 46, 3) := by decide +kernel
theorem dX10_plannedClause_31 : decode cX10_plannedClause 31 = .ok (.dup, 1) := by decide +kernel
theorem dX10_plannedClause_32 : decode cX10_plannedClause 32 = .ok (.ldc 192, 2) := by decide +kernel
theorem dX10_plannedClause_34 : decode cX10_plannedClause 34 = .ok (.invokespecial 50, 3) := by decide +kernel
theorem dX10_plannedClause_37 : decode cX10_plannedClause 37 = .ok (.athrow, 1) := by decide +kernel
theorem dX10_plannedClause_38 : decode cX10_plannedClause 38 = .ok (.aload_n 2, 1) := by decide +kernel
theorem dX10_plannedClause_39 : decode cX10_plannedClause 39 = .ok (.areturn, 1) := by decide +kernel
theorem dX10_codeOf_0 : decode cX10_codeOf 0 = .ok (.iconst 2, 1) := by decide +kernel
theorem dX10_codeOf_1 : decode cX10_codeOf 1 = .ok (.iload_n 0, 1) := by decide +kernel
theorem dX10_codeOf_2 : decode cX10_codeOf 2 = .ok (.imul, 1) := by decide +kernel
theorem dX10_codeOf_3 : decode cX10_codeOf 3 = .ok (.iload_n 1, 1) := by decide +kernel
theorem dX10_codeOf_4 : decode cX10_codeOf 4 = .ok (.ifCond .eq 7, 3) := by decide +kernel
theorem dX10_codeOf_7 : decode cX10_codeOf 7 = .ok (.iconst 1, 1) := by decide +kernel
theorem dX10_codeOf_8 : decode cX10_codeOf 8 = .ok (.goto 4, 3) := by decide +kernel
theorem dX10_codeOf_11 : decode cX10_codeOf 11 = .ok (.iconst 0, 1) := by decide +kernel
theorem dX10_codeOf_12 : decode cX10_codeOf 12 = .ok (.iadd, 1) := by decide +kernel
theorem dX10_codeOf_13 : decode cX10_codeOf 13 = .ok (.ireturn, 1) := by decide +kernel
theorem dX10_contraryOf_0 : decode cX10_contraryOf 0 = .ok (.iload_n 0, 1) := by decide +kernel
theorem dX10_contraryOf_1 : decode cX10_contraryOf 1 = .ok (.iconst 1, 1) := by decide +kernel
theorem dX10_contraryOf_2 : decode cX10_contraryOf 2 = .ok (.ixor, 1) := by decide +kernel
theorem dX10_contraryOf_3 : decode cX10_contraryOf 3 = .ok (.ireturn, 1) := by decide +kernel
theorem dX10_isLiteralTrue_0 : decode cX10_isLiteralTrue 0 = .ok (.iload_n 1, 1) := by decide +kernel
theorem dX10_isLiteralTrue_1 : decode cX10_isLiteralTrue 1 = .ok (.iload_n 0, 1) := by decide +kernel
theorem dX10_isLiteralTrue_2 : decode cX10_isLiteralTrue 2 = .ok (.iconst 1, 1) := by decide +kernel
theorem dX10_isLiteralTrue_3 : decode cX10_isLiteralTrue 3 = .ok (.ishr, 1) := by decide +kernel
theorem dX10_isLiteralTrue_4 : decode cX10_isLiteralTrue 4 = .ok (.ishr, 1) := by decide +kernel
theorem dX10_isLiteralTrue_5 : decode cX10_isLiteralTrue 5 = .ok (.iconst 1, 1) := by decide +kernel
theorem dX10_isLiteralTrue_6 : decode cX10_isLiteralTrue 6 = .ok (.iand, 1) := by decide +kernel
theorem dX10_isLiteralTrue_7 : decode cX10_isLiteralTrue 7 = .ok (.iload_n 0, 1) := by decide +kernel
theorem dX10_isLiteralTrue_8 : decode cX10_isLiteralTrue 8 = .ok (.iconst 1, 1) := by decide +kernel
theorem dX10_isLiteralTrue_9 : decode cX10_isLiteralTrue 9 = .ok (.iand, 1) := by decide +kernel
theorem dX10_isLiteralTrue_10 : decode cX10_isLiteralTrue 10 = .ok (.if_icmp .eq 7, 3) := by decide +kernel
theorem dX10_isLiteralTrue_13 : decode cX10_isLiteralTrue 13 = .ok (.iconst 1, 1) := by decide +kernel
theorem dX10_isLiteralTrue_14 : decode cX10_isLiteralTrue 14 = .ok (.goto 4, 3) := by decide +kernel
theorem dX10_isLiteralTrue_17 : decode cX10_isLiteralTrue 17 = .ok (.iconst 0, 1) := by decide +kernel
theorem dX10_isLiteralTrue_18 : decode cX10_isLiteralTrue 18 = .ok (.ireturn, 1) := by decide +kernel
theorem dX10_isEnough_0 : decode cX10_isEnough 0 = .ok (.iload_n 2, 1) := by decide +kernel
theorem dX10_isEnough_1 : decode cX10_isEnough 1 = .ok (.lookupswitch 48 #[(0, 27), (1, 38)], 27) := by decide +kernel
theorem dX10_isEnough_28 : decode cX10_isEnough 28 = .ok (.iload_n 0, 1) := by decide +kernel
theorem dX10_isEnough_29 : decode cX10_isEnough 29 = .ok (.iload_n 1, 1) := by decide +kernel
theorem dX10_isEnough_30 : decode cX10_isEnough 30 = .ok (.if_icmp .ne 7, 3) := by decide +kernel
theorem dX10_isEnough_33 : decode cX10_isEnough 33 = .ok (.iconst 1, 1) := by decide +kernel
theorem dX10_isEnough_34 : decode cX10_isEnough 34 = .ok (.goto 4, 3) := by decide +kernel
theorem dX10_isEnough_37 : decode cX10_isEnough 37 = .ok (.iconst 0, 1) := by decide +kernel
theorem dX10_isEnough_38 : decode cX10_isEnough 38 = .ok (.ireturn, 1) := by decide +kernel
theorem dX10_isEnough_39 : decode cX10_isEnough 39 = .ok (.iload_n 0, 1) := by decide +kernel
theorem dX10_isEnough_40 : decode cX10_isEnough 40 = .ok (.ifCond .le 7, 3) := by decide +kernel
theorem dX10_isEnough_43 : decode cX10_isEnough 43 = .ok (.iconst 1, 1) := by decide +kernel
theorem dX10_isEnough_44 : decode cX10_isEnough 44 = .ok (.goto 4, 3) := by decide +kernel
theorem dX10_isEnough_47 : decode cX10_isEnough 47 = .ok (.iconst 0, 1) := by decide +kernel
theorem dX10_isEnough_48 : decode cX10_isEnough 48 = .ok (.ireturn, 1) := by decide +kernel
theorem dX10_isEnough_49 : decode cX10_isEnough 49 = .ok (.iload_n 0, 1) := by decide +kernel
theorem dX10_isEnough_50 : decode cX10_isEnough 50 = .ok (.iload_n 3, 1) := by decide +kernel
theorem dX10_isEnough_51 : decode cX10_isEnough 51 = .ok (.if_icmp .lt 7, 3) := by decide +kernel
theorem dX10_isEnough_54 : decode cX10_isEnough 54 = .ok (.iconst 1, 1) := by decide +kernel
theorem dX10_isEnough_55 : decode cX10_isEnough 55 = .ok (.goto 4, 3) := by decide +kernel
theorem dX10_isEnough_58 : decode cX10_isEnough 58 = .ok (.iconst 0, 1) := by decide +kernel
theorem dX10_isEnough_59 : decode cX10_isEnough 59 = .ok (.ireturn, 1) := by decide +kernel
theorem dX10_firstOf_0 : decode cX10_firstOf 0 = .ok (.iload_n 2, 1) := by decide +kernel
theorem dX10_firstOf_1 : decode cX10_firstOf 1 = .ok (.istore_n 3, 1) := by decide +kernel
theorem dX10_firstOf_2 : decode cX10_firstOf 2 = .ok (.iload_n 3, 1) := by decide +kernel
theorem dX10_firstOf_3 : decode cX10_firstOf 3 = .ok (.bipush 40, 2) := by decide +kernel
theorem dX10_firstOf_5 : decode cX10_firstOf 5 = .ok (.if_icmp .ge 21, 3) := by decide +kernel
theorem dX10_firstOf_8 : decode cX10_firstOf 8 = .ok (.lload_n 0, 1) := by decide +kernel
theorem dX10_firstOf_9 : decode cX10_firstOf 9 = .ok (.iload_n 3, 1) := by decide +kernel
theorem dX10_firstOf_10 : decode cX10_firstOf 10 = .ok (.lshr, 1) := by decide +kernel
theorem dX10_firstOf_11 : decode cX10_firstOf 11 = .ok (.lconst 1, 1) := by decide +kernel
theorem dX10_firstOf_12 : decode cX10_firstOf 12 = .ok (.land, 1) := by decide +kernel
theorem dX10_firstOf_13 : decode cX10_firstOf 13 = .ok (.lconst 1, 1) := by decide +kernel
theorem dX10_firstOf_14 : decode cX10_firstOf 14 = .ok (.lcmp, 1) := by decide +kernel
theorem dX10_firstOf_15 : decode cX10_firstOf 15 = .ok (.ifCond .ne 5, 3) := by decide +kernel
theorem dX10_firstOf_18 : decode cX10_firstOf 18 = .ok (.iload_n 3, 1) := by decide +kernel
theorem dX10_firstOf_19 : decode cX10_firstOf 19 = .ok (.ireturn, 1) := by decide +kernel
theorem dX10_firstOf_20 : decode cX10_firstOf 20 = .ok (.iinc 3 1, 3) := by decide +kernel
theorem dX10_firstOf_23 : decode cX10_firstOf 23 = .ok (.goto (-21), 3) := by decide +kernel
theorem dX10_firstOf_26 : decode cX10_firstOf 26 = .ok (.bipush 40, 2) := by decide +kernel
theorem dX10_firstOf_28 : decode cX10_firstOf 28 = .ok (.ireturn, 1) := by decide +kernel
theorem dJ13_bitCount_95d88_0 : decode cJ13_bitCount_95d88 0 = .ok (.lload_n 0, 1) := by decide +kernel
theorem dJ13_bitCount_95d88_1 : decode cJ13_bitCount_95d88 1 = .ok (.lload_n 0, 1) := by decide +kernel
theorem dJ13_bitCount_95d88_2 : decode cJ13_bitCount_95d88 2 = .ok (.iconst 1, 1) := by decide +kernel
theorem dJ13_bitCount_95d88_3 : decode cJ13_bitCount_95d88 3 = .ok (.lushr, 1) := by decide +kernel
theorem dJ13_bitCount_95d88_4 : decode cJ13_bitCount_95d88 4 = .ok (.ldc2_w 314, 3) := by decide +kernel
theorem dJ13_bitCount_95d88_7 : decode cJ13_bitCount_95d88 7 = .ok (.land, 1) := by decide +kernel
theorem dJ13_bitCount_95d88_8 : decode cJ13_bitCount_95d88 8 = .ok (.lsub, 1) := by decide +kernel
theorem dJ13_bitCount_95d88_9 : decode cJ13_bitCount_95d88 9 = .ok (.lstore_n 0, 1) := by decide +kernel
theorem dJ13_bitCount_95d88_10 : decode cJ13_bitCount_95d88 10 = .ok (.lload_n 0, 1) := by decide +kernel
theorem dJ13_bitCount_95d88_11 : decode cJ13_bitCount_95d88 11 = .ok (.ldc2_w 316, 3) := by decide +kernel
theorem dJ13_bitCount_95d88_14 : decode cJ13_bitCount_95d88 14 = .ok (.land, 1) := by decide +kernel
theorem dJ13_bitCount_95d88_15 : decode cJ13_bitCount_95d88 15 = .ok (.lload_n 0, 1) := by decide +kernel
theorem dJ13_bitCount_95d88_16 : decode cJ13_bitCount_95d88 16 = .ok (.iconst 2, 1) := by decide +kernel
theorem dJ13_bitCount_95d88_17 : decode cJ13_bitCount_95d88 17 = .ok (.lushr, 1) := by decide +kernel
theorem dJ13_bitCount_95d88_18 : decode cJ13_bitCount_95d88 18 = .ok (.ldc2_w 316, 3) := by decide +kernel
theorem dJ13_bitCount_95d88_21 : decode cJ13_bitCount_95d88 21 = .ok (.land, 1) := by decide +kernel
theorem dJ13_bitCount_95d88_22 : decode cJ13_bitCount_95d88 22 = .ok (.ladd, 1) := by decide +kernel
theorem dJ13_bitCount_95d88_23 : decode cJ13_bitCount_95d88 23 = .ok (.lstore_n 0, 1) := by decide +kernel
theorem dJ13_bitCount_95d88_24 : decode cJ13_bitCount_95d88 24 = .ok (.lload_n 0, 1) := by decide +kernel
theorem dJ13_bitCount_95d88_25 : decode cJ13_bitCount_95d88 25 = .ok (.lload_n 0, 1) := by decide +kernel
theorem dJ13_bitCount_95d88_26 : decode cJ13_bitCount_95d88 26 = .ok (.iconst 4, 1) := by decide +kernel
theorem dJ13_bitCount_95d88_27 : decode cJ13_bitCount_95d88 27 = .ok (.lushr, 1) := by decide +kernel
theorem dJ13_bitCount_95d88_28 : decode cJ13_bitCount_95d88 28 = .ok (.ladd, 1) := by decide +kernel
theorem dJ13_bitCount_95d88_29 : decode cJ13_bitCount_95d88 29 = .ok (.ldc2_w 318, 3) := by decide +kernel
theorem dJ13_bitCount_95d88_32 : decode cJ13_bitCount_95d88 32 = .ok (.land, 1) := by decide +kernel
theorem dJ13_bitCount_95d88_33 : decode cJ13_bitCount_95d88 33 = .ok (.lstore_n 0, 1) := by decide +kernel
theorem dJ13_bitCount_95d88_34 : decode cJ13_bitCount_95d88 34 = .ok (.lload_n 0, 1) := by decide +kernel
theorem dJ13_bitCount_95d88_35 : decode cJ13_bitCount_95d88 35 = .ok (.lload_n 0, 1) := by decide +kernel
theorem dJ13_bitCount_95d88_36 : decode cJ13_bitCount_95d88 36 = .ok (.bipush 8, 2) := by decide +kernel
theorem dJ13_bitCount_95d88_38 : decode cJ13_bitCount_95d88 38 = .ok (.lushr, 1) := by decide +kernel
theorem dJ13_bitCount_95d88_39 : decode cJ13_bitCount_95d88 39 = .ok (.ladd, 1) := by decide +kernel
theorem dJ13_bitCount_95d88_40 : decode cJ13_bitCount_95d88 40 = .ok (.lstore_n 0, 1) := by decide +kernel
theorem dJ13_bitCount_95d88_41 : decode cJ13_bitCount_95d88 41 = .ok (.lload_n 0, 1) := by decide +kernel
theorem dJ13_bitCount_95d88_42 : decode cJ13_bitCount_95d88 42 = .ok (.lload_n 0, 1) := by decide +kernel
theorem dJ13_bitCount_95d88_43 : decode cJ13_bitCount_95d88 43 = .ok (.bipush 16, 2) := by decide +kernel
theorem dJ13_bitCount_95d88_45 : decode cJ13_bitCount_95d88 45 = .ok (.lushr, 1) := by decide +kernel
theorem dJ13_bitCount_95d88_46 : decode cJ13_bitCount_95d88 46 = .ok (.ladd, 1) := by decide +kernel
theorem dJ13_bitCount_95d88_47 : decode cJ13_bitCount_95d88 47 = .ok (.lstore_n 0, 1) := by decide +kernel
theorem dJ13_bitCount_95d88_48 : decode cJ13_bitCount_95d88 48 = .ok (.lload_n 0, 1) := by decide +kernel
theorem dJ13_bitCount_95d88_49 : decode cJ13_bitCount_95d88 49 = .ok (.lload_n 0, 1) := by decide +kernel
theorem dJ13_bitCount_95d88_50 : decode cJ13_bitCount_95d88 50 = .ok (.bipush 32, 2) := by decide +kernel
theorem dJ13_bitCount_95d88_52 : decode cJ13_bitCount_95d88 52 = .ok (.lushr, 1) := by decide +kernel
theorem dJ13_bitCount_95d88_53 : decode cJ13_bitCount_95d88 53 = .ok (.ladd, 1) := by decide +kernel
theorem dJ13_bitCount_95d88_54 : decode cJ13_bitCount_95d88 54 = .ok (.lstore_n 0, 1) := by decide +kernel
theorem dJ13_bitCount_95d88_55 : decode cJ13_bitCount_95d88 55 = .ok (.lload_n 0, 1) := by decide +kernel
theorem dJ13_bitCount_95d88_56 : decode cJ13_bitCount_95d88 56 = .ok (.l2i, 1) := by decide +kernel
theorem dJ13_bitCount_95d88_57 : decode cJ13_bitCount_95d88 57 = .ok (.bipush 127, 2) := by decide +kernel
theorem dJ13_bitCount_95d88_59 : decode cJ13_bitCount_95d88 59 = .ok (.iand, 1) := by decide +kernel
theorem dJ13_bitCount_95d88_60 : decode cJ13_bitCount_95d88 60 = .ok (.ireturn, 1) := by decide +kernel
theorem dJ9_max_7cf53_0 : decode cJ9_max_7cf53 0 = .ok (.iload_n 0, 1) := by decide +kernel
theorem dJ9_max_7cf53_1 : decode cJ9_max_7cf53 1 = .ok (.iload_n 1, 1) := by decide +kernel
theorem dJ9_max_7cf53_2 : decode cJ9_max_7cf53 2 = .ok (.if_icmp .lt 7, 3) := by decide +kernel
theorem dJ9_max_7cf53_5 : decode cJ9_max_7cf53 5 = .ok (.iload_n 0, 1) := by decide +kernel
theorem dJ9_max_7cf53_6 : decode cJ9_max_7cf53 6 = .ok (.goto 4, 3) := by decide +kernel
theorem dJ9_max_7cf53_9 : decode cJ9_max_7cf53 9 = .ok (.iload_n 1, 1) := by decide +kernel
theorem dJ9_max_7cf53_10 : decode cJ9_max_7cf53 10 = .ok (.ireturn, 1) := by decide +kernel
theorem dJ9_min_7cf53_0 : decode cJ9_min_7cf53 0 = .ok (.iload_n 0, 1) := by decide +kernel
theorem dJ9_min_7cf53_1 : decode cJ9_min_7cf53 1 = .ok (.iload_n 1, 1) := by decide +kernel
theorem dJ9_min_7cf53_2 : decode cJ9_min_7cf53 2 = .ok (.if_icmp .gt 7, 3) := by decide +kernel
theorem dJ9_min_7cf53_5 : decode cJ9_min_7cf53 5 = .ok (.iload_n 0, 1) := by decide +kernel
theorem dJ9_min_7cf53_6 : decode cJ9_min_7cf53 6 = .ok (.goto 4, 3) := by decide +kernel
theorem dJ9_min_7cf53_9 : decode cJ9_min_7cf53 9 = .ok (.iload_n 1, 1) := by decide +kernel
theorem dJ9_min_7cf53_10 : decode cJ9_min_7cf53 10 = .ok (.ireturn, 1) := by decide +kernel
theorem dJ7_fill_53178_0 : decode cJ7_fill_53178 0 = .ok (.iconst 0, 1) := by decide +kernel
theorem dJ7_fill_53178_1 : decode cJ7_fill_53178 1 = .ok (.istore_n 2, 1) := by decide +kernel
theorem dJ7_fill_53178_2 : decode cJ7_fill_53178 2 = .ok (.aload_n 0, 1) := by decide +kernel
theorem dJ7_fill_53178_3 : decode cJ7_fill_53178 3 = .ok (.arraylength, 1) := by decide +kernel
theorem dJ7_fill_53178_4 : decode cJ7_fill_53178 4 = .ok (.istore_n 3, 1) := by decide +kernel
theorem dJ7_fill_53178_5 : decode cJ7_fill_53178 5 = .ok (.iload_n 2, 1) := by decide +kernel
theorem dJ7_fill_53178_6 : decode cJ7_fill_53178 6 = .ok (.iload_n 3, 1) := by decide +kernel
theorem dJ7_fill_53178_7 : decode cJ7_fill_53178 7 = .ok (.if_icmp .ge 13, 3) := by decide +kernel
theorem dJ7_fill_53178_10 : decode cJ7_fill_53178 10 = .ok (.aload_n 0, 1) := by decide +kernel
theorem dJ7_fill_53178_11 : decode cJ7_fill_53178 11 = .ok (.iload_n 2, 1) := by decide +kernel
theorem dJ7_fill_53178_12 : decode cJ7_fill_53178 12 = .ok (.iload_n 1, 1) := by decide +kernel
theorem dJ7_fill_53178_13 : decode cJ7_fill_53178 13 = .ok (.iastore, 1) := by decide +kernel
theorem dJ7_fill_53178_14 : decode cJ7_fill_53178 14 = .ok (.iinc 2 1, 3) := by decide +kernel
theorem dJ7_fill_53178_17 : decode cJ7_fill_53178 17 = .ok (.goto (-12), 3) := by decide +kernel
theorem dJ7_fill_53178_20 : decode cJ7_fill_53178 20 = .ok (.return_, 1) := by decide +kernel
