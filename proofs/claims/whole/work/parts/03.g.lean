set_option maxRecDepth 20000 in
theorem ggX0_init_X1_init : GoodIn wsX0_init wsX1_init := goodIn_r _ [5, 6, 7, 8] (by decide +kernel) (by decide +kernel)
set_option maxRecDepth 20000 in
theorem gX0_init_X1_init_n3 : GoodIn wsX0_init (wsX1_init) := ggX0_init_X1_init
set_option maxRecDepth 20000 in
theorem ggX0_hasRank_X0_partAt : GoodIn wsX0_hasRank wsX0_partAt := goodIn_r _ [8, 1, 9, 11, 12, 13, 14, 15, 16, 17, 18, 19, 20, 21, 22, 23, 24, 25, 26, 27, 28] (by decide +kernel) (by decide +kernel)
set_option maxRecDepth 20000 in
theorem gX0_hasRank_X0_partAt_u32X2 : GoodIn wsX0_hasRank (va_wsU RX0 32 RX2 "PostingPlanner$Group" ⟨"PostingPlanner$Group", "partAt", "(I)LPostingPlanner$Part;"⟩ yX0_partAt wsX0_partAt) := goodIn_app (goodIn_of _ (by decide +kernel)) ggX0_hasRank_X0_partAt
set_option maxRecDepth 20000 in
theorem gX0_hasRank_X0_partAt_u32X3 : GoodIn wsX0_hasRank (va_wsU RX0 32 RX3 "PostingPlanner$Group" ⟨"PostingPlanner$Group", "partAt", "(I)LPostingPlanner$Part;"⟩ yX0_partAt wsX0_partAt) := goodIn_app (goodIn_of _ (by decide +kernel)) ggX0_hasRank_X0_partAt
set_option maxRecDepth 20000 in
theorem ggX0_settleSome_X0_fix : GoodIn wsX0_settleSome wsX0_fix := goodIn_r _ [8, 1, 9, 11, 12, 13, 14, 15, 16, 17, 18, 19, 20, 21, 22, 23, 24, 25, 26, 27, 28] (by decide +kernel) (by decide +kernel)
set_option maxRecDepth 20000 in
theorem gX0_settleSome_X0_fix_u39X2 : GoodIn wsX0_settleSome (va_wsU RX0 39 RX2 "PostingPlanner$Group" ⟨"PostingPlanner$Group", "fix", "(I)V"⟩ yX0_fix wsX0_fix) := goodIn_app (goodIn_of _ (by decide +kernel)) ggX0_settleSome_X0_fix
set_option maxRecDepth 20000 in
theorem gX0_settleSome_X0_fix_u39X3 : GoodIn wsX0_settleSome (va_wsU RX0 39 RX3 "PostingPlanner$Group" ⟨"PostingPlanner$Group", "fix", "(I)V"⟩ yX0_fix wsX0_fix) := goodIn_app (goodIn_of _ (by decide +kernel)) ggX0_settleSome_X0_fix
set_option maxRecDepth 20000 in
theorem ggX0_settleEmpty_X0_fix : GoodIn wsX0_settleEmpty wsX0_fix := goodIn_r _ [8, 2, 1, 10, 11, 12, 13, 14, 15, 16, 17, 18, 19, 20, 21, 22, 23, 24, 25, 26, 27] (by decide +kernel) (by decide +kernel)
set_option maxRecDepth 20000 in
theorem gX0_settleEmpty_X0_fix_u39X2 : GoodIn wsX0_settleEmpty (va_wsU RX0 39 RX2 "PostingPlanner$Group" ⟨"PostingPlanner$Group", "fix", "(I)V"⟩ yX0_fix wsX0_fix) := goodIn_app (goodIn_of _ (by decide +kernel)) ggX0_settleEmpty_X0_fix
set_option maxRecDepth 20000 in
theorem gX0_settleEmpty_X0_fix_u39X3 : GoodIn wsX0_settleEmpty (va_wsU RX0 39 RX3 "PostingPlanner$Group" ⟨"PostingPlanner$Group", "fix", "(I)V"⟩ yX0_fix wsX0_fix) := goodIn_app (goodIn_of _ (by decide +kernel)) ggX0_settleEmpty_X0_fix
set_option maxRecDepth 20000 in
theorem ggX0_appraise_J13_bitCount_95d88 : GoodIn wsX0_appraise wsJ13_bitCount_95d88 := goodIn_r _ [13, 14, 15, 16] (by decide +kernel) (by decide +kernel)
set_option maxRecDepth 20000 in
theorem gX0_appraise_J13_bitCount_95d88 : GoodIn wsX0_appraise (va_wsS RX0 43 yJ13_bitCount_95d88 wsJ13_bitCount_95d88) := goodIn_app (goodIn_of _ (by decide +kernel)) ggX0_appraise_J13_bitCount_95d88
set_option maxRecDepth 20000 in
theorem ggX0_appraise_X0_leastEstimate : GoodIn wsX0_appraise wsX0_leastEstimate := goodIn_r _ [22, 23, 24, 5, 6, 7, 8, 25, 26, 27, 28, 21, 29, 30, 31, 39, 40, 41, 42, 43, 44, 45, 46, 47, 48, 49, 50, 51, 52, 53, 54, 55, 56, 57, 58, 59, 60, 61, 62] (by decide +kernel) (by decide +kernel)
set_option maxRecDepth 20000 in
theorem gX0_appraise_X0_leastEstimate_u49X2 : GoodIn wsX0_appraise (va_wsU RX0 49 RX2 "PostingPlanner$Group" ⟨"PostingPlanner$Group", "leastEstimate", "(I)I"⟩ yX0_leastEstimate wsX0_leastEstimate) := goodIn_app (goodIn_of _ (by decide +kernel)) ggX0_appraise_X0_leastEstimate
set_option maxRecDepth 20000 in
theorem gX0_appraise_X0_leastEstimate_u49X3 : GoodIn wsX0_appraise (va_wsU RX0 49 RX3 "PostingPlanner$Group" ⟨"PostingPlanner$Group", "leastEstimate", "(I)I"⟩ yX0_leastEstimate wsX0_leastEstimate) := goodIn_app (goodIn_of _ (by decide +kernel)) ggX0_appraise_X0_leastEstimate
set_option maxRecDepth 20000 in
theorem ggX0_appraise_X0_sumOfEstimates : GoodIn wsX0_appraise wsX0_sumOfEstimates := goodIn_r _ [37, 23, 24, 25, 26, 27, 28, 21, 29, 30, 31, 39, 40, 41, 42, 43, 44, 45, 46, 47, 48, 49, 50, 51, 52, 53, 54, 55, 56, 57, 58, 59, 60, 61, 62] (by decide +kernel) (by decide +kernel)
set_option maxRecDepth 20000 in
theorem gX0_appraise_X0_sumOfEstimates_u56X2 : GoodIn wsX0_appraise (va_wsU RX0 56 RX2 "PostingPlanner$Group" ⟨"PostingPlanner$Group", "sumOfEstimates", "()I"⟩ yX0_sumOfEstimates wsX0_sumOfEstimates) := goodIn_app (goodIn_of _ (by decide +kernel)) ggX0_appraise_X0_sumOfEstimates
set_option maxRecDepth 20000 in
theorem gX0_appraise_X0_sumOfEstimates_u56X3 : GoodIn wsX0_appraise (va_wsU RX0 56 RX3 "PostingPlanner$Group" ⟨"PostingPlanner$Group", "sumOfEstimates", "()I"⟩ yX0_sumOfEstimates wsX0_sumOfEstimates) := goodIn_app (goodIn_of _ (by decide +kernel)) ggX0_appraise_X0_sumOfEstimates
set_option maxRecDepth 20000 in
theorem ggX0_leastEstimate_X0_partAt : GoodIn wsX0_leastEstimate wsX0_partAt := goodIn_r _ [12, 1, 13, 15, 16, 17, 18, 19, 20, 21, 22, 23, 24, 25, 26, 27, 28, 29, 30, 31, 32] (by decide +kernel) (by decide +kernel)
set_option maxRecDepth 20000 in
theorem gX0_leastEstimate_X0_partAt_u32X2 : GoodIn wsX0_leastEstimate (va_wsU RX0 32 RX2 "PostingPlanner$Group" ⟨"PostingPlanner$Group", "partAt", "(I)LPostingPlanner$Part;"⟩ yX0_partAt wsX0_partAt) := goodIn_app (goodIn_of _ (by decide +kernel)) ggX0_leastEstimate_X0_partAt
set_option maxRecDepth 20000 in
theorem gX0_leastEstimate_X0_partAt_u32X3 : GoodIn wsX0_leastEstimate (va_wsU RX0 32 RX3 "PostingPlanner$Group" ⟨"PostingPlanner$Group", "partAt", "(I)LPostingPlanner$Part;"⟩ yX0_partAt wsX0_partAt) := goodIn_app (goodIn_of _ (by decide +kernel)) ggX0_leastEstimate_X0_partAt
set_option maxRecDepth 20000 in
theorem ggX0_sumOfEstimates_X0_partAt : GoodIn wsX0_sumOfEstimates wsX0_partAt := goodIn_r _ [8, 1, 9, 11, 12, 13, 14, 15, 16, 17, 18, 19, 20, 21, 22, 23, 24, 25, 26, 27, 28] (by decide +kernel) (by decide +kernel)
set_option maxRecDepth 20000 in
theorem gX0_sumOfEstimates_X0_partAt_u32X2 : GoodIn wsX0_sumOfEstimates (va_wsU RX0 32 RX2 "PostingPlanner$Group" ⟨"PostingPlanner$Group", "partAt", "(I)LPostingPlanner$Part;"⟩ yX0_partAt wsX0_partAt) := goodIn_app (goodIn_of _ (by decide +kernel)) ggX0_sumOfEstimates_X0_partAt
set_option maxRecDepth 20000 in
theorem gX0_sumOfEstimates_X0_partAt_u32X3 : GoodIn wsX0_sumOfEstimates (va_wsU RX0 32 RX3 "PostingPlanner$Group" ⟨"PostingPlanner$Group", "partAt", "(I)LPostingPlanner$Part;"⟩ yX0_partAt wsX0_partAt) := goodIn_app (goodIn_of _ (by decide +kernel)) ggX0_sumOfEstimates_X0_partAt
set_option maxRecDepth 20000 in
theorem ggX0_order_X0_isBefore : GoodIn wsX0_order wsX0_isBefore := goodIn_r _ [9, 10, 11, 13, 14, 15, 16, 17, 18, 19, 20, 21, 22, 23, 24, 25, 26, 27, 28, 29, 30, 31, 32, 33, 34, 35, 36] (by decide +kernel) (by decide +kernel)
set_option maxRecDepth 20000 in
theorem gX0_order_X0_isBefore_u67X2 : GoodIn wsX0_order (va_wsU RX0 67 RX2 "PostingPlanner$Group" ⟨"PostingPlanner$Group", "isBefore", "(LPostingPlanner$Part;LPostingPlanner$Part;)Z"⟩ yX0_isBefore wsX0_isBefore) := goodIn_app (goodIn_of _ (by decide +kernel)) ggX0_order_X0_isBefore
set_option maxRecDepth 20000 in
theorem gX0_order_X0_isBefore_u67X3 : GoodIn wsX0_order (va_wsU RX0 67 RX3 "PostingPlanner$Group" ⟨"PostingPlanner$Group", "isBefore", "(LPostingPlanner$Part;LPostingPlanner$Part;)Z"⟩ yX0_isBefore wsX0_isBefore) := goodIn_app (goodIn_of _ (by decide +kernel)) ggX0_order_X0_isBefore
set_option maxRecDepth 20000 in
theorem ggX0_seek_X0_seekAll : GoodIn wsX0_seek wsX0_seekAll := goodIn_r _ [24, 25, 26, 27, 28, 29, 9, 30, 31, 32, 33, 34, 35, 36, 37, 38, 39, 40, 41, 42, 43, 44, 45, 46, 21, 22, 23, 47, 48, 49, 50, 51, 52, 53, 54, 55, 56, 57, 58, 59, 60, 0, 1, 2, 3, 4, 5, 6, 7, 8, 10, 11, 12, 13, 14, 15, 16, 17, 18, 19, 20, 61, 62, 63, 64, 65, 66, 67, 68, 69, 70, 71, 72, 73, 74, 75, 76, 77, 78, 79, 80, 81, 82, 83, 84, 85, 86, 87, 88, 89, 90, 91, 92, 93, 94, 95, 96, 97, 98, 99, 100, 101, 102, 103, 104, 105] (by decide +kernel) (by decide +kernel)
set_option maxRecDepth 20000 in
theorem gX0_seek_X0_seekAll_u71X2 : GoodIn wsX0_seek (va_wsU RX0 71 RX2 "PostingPlanner$Group" ⟨"PostingPlanner$Group", "seekAll", "(II)I"⟩ yX0_seekAll wsX0_seekAll) := goodIn_app (goodIn_of _ (by decide +kernel)) ggX0_seek_X0_seekAll
set_option maxRecDepth 20000 in
theorem gX0_seek_X0_seekAll_u71X3 : GoodIn wsX0_seek (va_wsU RX0 71 RX3 "PostingPlanner$Group" ⟨"PostingPlanner$Group", "seekAll", "(II)I"⟩ yX0_seekAll wsX0_seekAll) := goodIn_app (goodIn_of _ (by decide +kernel)) ggX0_seek_X0_seekAll
set_option maxRecDepth 20000 in
theorem ggX0_seek_X0_seekAny : GoodIn wsX0_seek wsX0_seekAny := goodIn_r _ [61, 25, 62, 63, 64, 65, 26, 27, 28, 29, 9, 30, 31, 32, 33, 34, 35, 36, 37, 38, 39, 40, 41, 42, 43, 44, 45, 46, 21, 22, 23, 47, 48, 49, 50, 51, 52, 53, 54, 55, 56, 57, 58, 59, 60, 0, 1, 2, 3, 4, 5, 6, 7, 8, 10, 11, 12, 13, 14, 15, 16, 17, 18, 19, 20, 24, 66, 67, 68, 69, 70, 71, 72, 73, 74, 75, 76, 77, 78, 79, 80, 81, 82, 83, 84, 85, 86, 87, 88, 89, 90, 91, 92, 93, 94, 95, 96, 97, 98, 99, 100, 101, 102, 103, 104, 105] (by decide +kernel) (by decide +kernel)
set_option maxRecDepth 20000 in
theorem gX0_seek_X0_seekAny_u74X2 : GoodIn wsX0_seek (va_wsU RX0 74 RX2 "PostingPlanner$Group" ⟨"PostingPlanner$Group", "seekAny", "(II)I"⟩ yX0_seekAny wsX0_seekAny) := goodIn_app (goodIn_of _ (by decide +kernel)) ggX0_seek_X0_seekAny
set_option maxRecDepth 20000 in
theorem gX0_seek_X0_seekAny_u74X3 : GoodIn wsX0_seek (va_wsU RX0 74 RX3 "PostingPlanner$Group" ⟨"PostingPlanner$Group", "seekAny", "(II)I"⟩ yX0_seekAny wsX0_seekAny) := goodIn_app (goodIn_of _ (by decide +kernel)) ggX0_seek_X0_seekAny
set_option maxRecDepth 20000 in
theorem ggX0_seek_X0_seekSome : GoodIn wsX0_seek wsX0_seekSome := goodIn_r _ [66, 11, 12, 13, 14, 9, 15, 67, 68, 69, 70, 71, 25, 72, 73, 26, 27, 28, 29, 30, 31, 32, 74, 75, 76, 77, 78, 79, 80, 0, 1, 2, 3, 4, 5, 6, 7, 8, 10, 16, 17, 18, 19, 20, 21, 22, 23, 24, 33, 34, 35, 36, 37, 38, 39, 40, 41, 42, 43, 44, 45, 46, 47, 48, 49, 50, 51, 52, 53, 54, 55, 56, 57, 58, 59, 60, 61, 62, 63, 64, 65, 81, 82, 83, 84, 85, 86, 87, 88, 89, 90, 91, 92, 93, 94, 95, 96, 97, 98, 99, 100, 101, 102, 103, 104, 105] (by decide +kernel) (by decide +kernel)
set_option maxRecDepth 20000 in
theorem gX0_seek_X0_seekSome_u77X2 : GoodIn wsX0_seek (va_wsU RX0 77 RX2 "PostingPlanner$Group" ⟨"PostingPlanner$Group", "seekSome", "(II)I"⟩ yX0_seekSome wsX0_seekSome) := goodIn_app (goodIn_of _ (by decide +kernel)) ggX0_seek_X0_seekSome
set_option maxRecDepth 20000 in
theorem gX0_seek_X0_seekSome_u77X3 : GoodIn wsX0_seek (va_wsU RX0 77 RX3 "PostingPlanner$Group" ⟨"PostingPlanner$Group", "seekSome", "(II)I"⟩ yX0_seekSome wsX0_seekSome) := goodIn_app (goodIn_of _ (by decide +kernel)) ggX0_seek_X0_seekSome
set_option maxRecDepth 20000 in
theorem ggX0_seek_X10_firstOf : GoodIn wsX0_seek wsX10_firstOf := goodIn_r _ [23] (by decide +kernel) (by decide +kernel)
set_option maxRecDepth 20000 in
theorem gX0_seek_X10_firstOf_n80 : GoodIn wsX0_seek (wsX10_firstOf) := ggX0_seek_X10_firstOf
set_option maxRecDepth 20000 in
theorem ggX0_seekAll_X0_partAt : GoodIn wsX0_seekAll wsX0_partAt := goodIn_r _ [7, 1, 8, 81, 82, 83, 84, 85, 86, 87, 88, 89, 90, 91, 92, 93, 94, 95, 96, 97, 98] (by decide +kernel) (by decide +kernel)
set_option maxRecDepth 20000 in
theorem gX0_seekAll_X0_partAt_u32X2 : GoodIn wsX0_seekAll (va_wsU RX0 32 RX2 "PostingPlanner$Group" ⟨"PostingPlanner$Group", "partAt", "(I)LPostingPlanner$Part;"⟩ yX0_partAt wsX0_partAt) := goodIn_app (goodIn_of _ (by decide +kernel)) ggX0_seekAll_X0_partAt
set_option maxRecDepth 20000 in
theorem gX0_seekAll_X0_partAt_u32X3 : GoodIn wsX0_seekAll (va_wsU RX0 32 RX3 "PostingPlanner$Group" ⟨"PostingPlanner$Group", "partAt", "(I)LPostingPlanner$Part;"⟩ yX0_partAt wsX0_partAt) := goodIn_app (goodIn_of _ (by decide +kernel)) ggX0_seekAll_X0_partAt
set_option maxRecDepth 20000 in
theorem ggX0_seekAll_X0_seek : GoodIn wsX0_seekAll wsX0_seek := goodIn_r _ [41, 42, 43, 44, 45, 46, 47, 48, 49, 6, 50, 51, 52, 53, 54, 55, 56, 57, 58, 59, 60, 24, 25, 26, 0, 1, 2, 3, 4, 5, 7, 8, 9, 10, 11, 12, 13, 14, 15, 16, 17, 18, 19, 20, 21, 22, 23, 27, 28, 29, 30, 31, 32, 33, 34, 35, 36, 37, 38, 39, 40, 61, 62, 63, 64, 65, 66, 67, 68, 69, 70, 71, 72, 73, 74, 75, 76, 77, 78, 79, 80, 81, 82, 83, 84, 85, 86, 87, 88, 89, 90, 91, 92, 93, 94, 95, 96, 97, 98, 99, 100, 101, 102, 103, 104, 105] (by decide +kernel) (by decide +kernel)
set_option maxRecDepth 20000 in
theorem gX0_seekAll_X0_seek_u84X2 : GoodIn wsX0_seekAll (va_wsU RX0 84 RX2 "PostingPlanner$Part" ⟨"PostingPlanner$Part", "seek", "(II)I"⟩ yX0_seek wsX0_seek) := goodIn_app (goodIn_of _ (by decide +kernel)) ggX0_seekAll_X0_seek
set_option maxRecDepth 20000 in
theorem gX0_seekAll_X0_seek_u84X3 : GoodIn wsX0_seekAll (va_wsU RX0 84 RX3 "PostingPlanner$Part" ⟨"PostingPlanner$Part", "seek", "(II)I"⟩ yX0_seek wsX0_seek) := goodIn_app (goodIn_of _ (by decide +kernel)) ggX0_seekAll_X0_seek
set_option maxRecDepth 20000 in
theorem ggX0_seekAll_X4_seek : GoodIn wsX0_seekAll wsX4_seek := goodIn_r _ [18, 19, 20, 21, 22, 23, 24, 25, 26, 27, 28, 29, 17, 30, 31, 32, 33, 34, 35, 36, 37, 38, 39, 40, 81, 82, 83, 84, 85, 86, 87, 88, 89, 90, 91, 92, 93, 94, 95, 96, 97, 98, 99, 100, 101, 102, 103, 104, 105] (by decide +kernel) (by decide +kernel)
set_option maxRecDepth 20000 in
theorem gX0_seekAll_X4_seek_u84X4 : GoodIn wsX0_seekAll (va_wsU RX0 84 RX4 "PostingPlanner$Part" ⟨"PostingPlanner$Part", "seek", "(II)I"⟩ yX4_seek wsX4_seek) := goodIn_app (goodIn_of _ (by decide +kernel)) ggX0_seekAll_X4_seek
set_option maxRecDepth 20000 in
theorem ggX0_seekAny_X0_partAt : GoodIn wsX0_seekAny wsX0_partAt := goodIn_r _ [11, 1, 12, 81, 82, 83, 84, 85, 86, 87, 88, 89, 90, 91, 92, 93, 94, 95, 96, 97, 98] (by decide +kernel) (by decide +kernel)
set_option maxRecDepth 20000 in
theorem gX0_seekAny_X0_partAt_u32X2 : GoodIn wsX0_seekAny (va_wsU RX0 32 RX2 "PostingPlanner$Group" ⟨"PostingPlanner$Group", "partAt", "(I)LPostingPlanner$Part;"⟩ yX0_partAt wsX0_partAt) := goodIn_app (goodIn_of _ (by decide +kernel)) ggX0_seekAny_X0_partAt
set_option maxRecDepth 20000 in
theorem gX0_seekAny_X0_partAt_u32X3 : GoodIn wsX0_seekAny (va_wsU RX0 32 RX3 "PostingPlanner$Group" ⟨"PostingPlanner$Group", "partAt", "(I)LPostingPlanner$Part;"⟩ yX0_partAt wsX0_partAt) := goodIn_app (goodIn_of _ (by decide +kernel)) ggX0_seekAny_X0_partAt
set_option maxRecDepth 20000 in
theorem ggX0_seekAny_X0_seek : GoodIn wsX0_seekAny wsX0_seek := goodIn_r _ [45, 46, 47, 48, 49, 50, 51, 52, 53, 10, 54, 55, 56, 57, 58, 59, 60, 61, 62, 63, 64, 28, 29, 30, 65, 1, 6, 7, 8, 9, 11, 12, 13, 14, 15, 16, 17, 18, 19, 20, 21, 22, 23, 24, 25, 26, 27, 31, 32, 33, 34, 35, 36, 37, 38, 39, 40, 41, 42, 43, 44, 0, 2, 3, 4, 5, 66, 67, 68, 69, 70, 71, 72, 73, 74, 75, 76, 77, 78, 79, 80, 81, 82, 83, 84, 85, 86, 87, 88, 89, 90, 91, 92, 93, 94, 95, 96, 97, 98, 99, 100, 101, 102, 103, 104, 105] (by decide +kernel) (by decide +kernel)
set_option maxRecDepth 20000 in
theorem gX0_seekAny_X0_seek_u84X2 : GoodIn wsX0_seekAny (va_wsU RX0 84 RX2 "PostingPlanner$Part" ⟨"PostingPlanner$Part", "seek", "(II)I"⟩ yX0_seek wsX0_seek) := goodIn_app (goodIn_of _ (by decide +kernel)) ggX0_seekAny_X0_seek
set_option maxRecDepth 20000 in
theorem gX0_seekAny_X0_seek_u84X3 : GoodIn wsX0_seekAny (va_wsU RX0 84 RX3 "PostingPlanner$Part" ⟨"PostingPlanner$Part", "seek", "(II)I"⟩ yX0_seek wsX0_seek) := goodIn_app (goodIn_of _ (by decide +kernel)) ggX0_seekAny_X0_seek
set_option maxRecDepth 20000 in
theorem ggX0_seekAny_X4_seek : GoodIn wsX0_seekAny wsX4_seek := goodIn_r _ [22, 23, 24, 25, 26, 27, 28, 29, 30, 31, 32, 33, 21, 34, 35, 36, 37, 38, 39, 40, 41, 42, 43, 44, 81, 82, 83, 84, 85, 86, 87, 88, 89, 90, 91, 92, 93, 94, 95, 96, 97, 98, 99, 100, 101, 102, 103, 104, 105] (by decide +kernel) (by decide +kernel)
set_option maxRecDepth 20000 in
theorem gX0_seekAny_X4_seek_u84X4 : GoodIn wsX0_seekAny (va_wsU RX0 84 RX4 "PostingPlanner$Part" ⟨"PostingPlanner$Part", "seek", "(II)I"⟩ yX4_seek wsX4_seek) := goodIn_app (goodIn_of _ (by decide +kernel)) ggX0_seekAny_X4_seek
set_option maxRecDepth 20000 in
theorem ggX0_seekSome_X0_seekAny : GoodIn wsX0_seekSome wsX0_seekAny := goodIn_r _ [76, 12, 77, 78, 79, 80, 15, 16, 17, 18, 5, 19, 20, 21, 48, 49, 50, 51, 52, 53, 54, 55, 56, 57, 58, 59, 60, 61, 44, 45, 46, 62, 63, 64, 65, 66, 67, 68, 69, 70, 71, 72, 73, 74, 75, 29, 30, 31, 32, 33, 34, 35, 36, 37, 38, 1, 2, 3, 4, 6, 39, 40, 41, 42, 43, 47, 0, 7, 8, 9, 10, 11, 13, 14, 22, 23, 24, 25, 26, 27, 28, 81, 82, 83, 84, 85, 86, 87, 88, 89, 90, 91, 92, 93, 94, 95, 96, 97, 98, 99, 100, 101, 102, 103, 104, 105] (by decide +kernel) (by decide +kernel)
set_option maxRecDepth 20000 in
theorem gX0_seekSome_X0_seekAny_u74X2 : GoodIn wsX0_seekSome (va_wsU RX0 74 RX2 "PostingPlanner$Group" ⟨"PostingPlanner$Group", "seekAny", "(II)I"⟩ yX0_seekAny wsX0_seekAny) := goodIn_app (goodIn_of _ (by decide +kernel)) ggX0_seekSome_X0_seekAny
set_option maxRecDepth 20000 in
theorem gX0_seekSome_X0_seekAny_u74X3 : GoodIn wsX0_seekSome (va_wsU RX0 74 RX3 "PostingPlanner$Group" ⟨"PostingPlanner$Group", "seekAny", "(II)I"⟩ yX0_seekAny wsX0_seekAny) := goodIn_app (goodIn_of _ (by decide +kernel)) ggX0_seekSome_X0_seekAny
set_option maxRecDepth 20000 in
theorem ggX0_seekSome_X0_neededPlace : GoodIn wsX0_seekSome wsX0_neededPlace := goodIn_r _ [11, 12, 13, 14, 15, 16, 17, 18, 5, 19, 20, 21, 22, 23, 24, 25, 26, 27, 81, 82, 83, 84, 85, 86, 87, 88, 89, 90, 91, 92, 93, 94, 95, 96, 97, 98, 99, 100, 101, 102, 103, 104] (by decide +kernel) (by decide +kernel)
set_option maxRecDepth 20000 in
theorem gX0_seekSome_X0_neededPlace_u87X2 : GoodIn wsX0_seekSome (va_wsU RX0 87 RX2 "PostingPlanner$Group" ⟨"PostingPlanner$Group", "neededPlace", "()I"⟩ yX0_neededPlace wsX0_neededPlace) := goodIn_app (goodIn_of _ (by decide +kernel)) ggX0_seekSome_X0_neededPlace
set_option maxRecDepth 20000 in
theorem gX0_seekSome_X0_neededPlace_u87X3 : GoodIn wsX0_seekSome (va_wsU RX0 87 RX3 "PostingPlanner$Group" ⟨"PostingPlanner$Group", "neededPlace", "()I"⟩ yX0_neededPlace wsX0_neededPlace) := goodIn_app (goodIn_of _ (by decide +kernel)) ggX0_seekSome_X0_neededPlace
set_option maxRecDepth 20000 in
theorem ggX0_neededPlace_X0_partAt : GoodIn wsX0_neededPlace wsX0_partAt := goodIn_r _ [9, 1, 10, 18, 19, 20, 21, 22, 23, 24, 25, 26, 27, 28, 29, 30, 31, 32, 33, 34, 35] (by decide +kernel) (by decide +kernel)
set_option maxRecDepth 20000 in
theorem gX0_neededPlace_X0_partAt_u32X2 : GoodIn wsX0_neededPlace (va_wsU RX0 32 RX2 "PostingPlanner$Group" ⟨"PostingPlanner$Group", "partAt", "(I)LPostingPlanner$Part;"⟩ yX0_partAt wsX0_partAt) := goodIn_app (goodIn_of _ (by decide +kernel)) ggX0_neededPlace_X0_partAt
set_option maxRecDepth 20000 in
theorem gX0_neededPlace_X0_partAt_u32X3 : GoodIn wsX0_neededPlace (va_wsU RX0 32 RX3 "PostingPlanner$Group" ⟨"PostingPlanner$Group", "partAt", "(I)LPostingPlanner$Part;"⟩ yX0_partAt wsX0_partAt) := goodIn_app (goodIn_of _ (by decide +kernel)) ggX0_neededPlace_X0_partAt
set_option maxRecDepth 20000 in
theorem ggX0_neededPlace_X0_placesUpTo : GoodIn wsX0_neededPlace wsX0_placesUpTo := goodIn_r _ [16, 1, 2, 4, 5, 6, 7, 8, 9, 10, 11, 18, 19, 20, 21, 22, 23, 24, 25, 26, 27, 28, 29, 30, 31, 32, 33, 34, 35, 36, 37, 38, 39, 40, 41] (by decide +kernel) (by decide +kernel)
set_option maxRecDepth 20000 in
theorem gX0_neededPlace_X0_placesUpTo_u91X2 : GoodIn wsX0_neededPlace (va_wsU RX0 91 RX2 "PostingPlanner$Group" ⟨"PostingPlanner$Group", "placesUpTo", "(I)I"⟩ yX0_placesUpTo wsX0_placesUpTo) := goodIn_app (goodIn_of _ (by decide +kernel)) ggX0_neededPlace_X0_placesUpTo
set_option maxRecDepth 20000 in
theorem gX0_neededPlace_X0_placesUpTo_u91X3 : GoodIn wsX0_neededPlace (va_wsU RX0 91 RX3 "PostingPlanner$Group" ⟨"PostingPlanner$Group", "placesUpTo", "(I)I"⟩ yX0_placesUpTo wsX0_placesUpTo) := goodIn_app (goodIn_of _ (by decide +kernel)) ggX0_neededPlace_X0_placesUpTo
set_option maxRecDepth 20000 in
theorem ggX0_placesUpTo_X0_partAt : GoodIn wsX0_placesUpTo wsX0_partAt := goodIn_r _ [8, 1, 9, 11, 12, 13, 14, 15, 16, 17, 18, 19, 20, 21, 22, 23, 24, 25, 26, 27, 28] (by decide +kernel) (by decide +kernel)
set_option maxRecDepth 20000 in
theorem gX0_placesUpTo_X0_partAt_u32X2 : GoodIn wsX0_placesUpTo (va_wsU RX0 32 RX2 "PostingPlanner$Group" ⟨"PostingPlanner$Group", "partAt", "(I)LPostingPlanner$Part;"⟩ yX0_partAt wsX0_partAt) := goodIn_app (goodIn_of _ (by decide +kernel)) ggX0_placesUpTo_X0_partAt
set_option maxRecDepth 20000 in
theorem gX0_placesUpTo_X0_partAt_u32X3 : GoodIn wsX0_placesUpTo (va_wsU RX0 32 RX3 "PostingPlanner$Group" ⟨"PostingPlanner$Group", "partAt", "(I)LPostingPlanner$Part;"⟩ yX0_partAt wsX0_partAt) := goodIn_app (goodIn_of _ (by decide +kernel)) ggX0_placesUpTo_X0_partAt
set_option maxRecDepth 20000 in
theorem ggX2_init_X0_init : GoodIn wsX2_init wsX0_init := goodIn_r _ [8, 9, 10, 11, 12, 13, 14, 15, 16, 31, 32, 33, 34, 35, 36, 37, 38, 39, 40, 41, 42, 43, 44, 45, 46, 47, 48] (by decide +kernel) (by decide +kernel)
set_option maxRecDepth 20000 in
theorem gX2_init_X0_init : GoodIn wsX2_init (wsX0_init) := ggX2_init_X0_init
set_option maxRecDepth 20000 in
theorem ggX2_init_X3_init : GoodIn wsX2_init wsX3_init := goodIn_r _ [19, 20, 21, 22, 23, 24, 25, 26, 6, 7, 8, 9, 10, 11, 12, 13, 14, 15, 16, 27, 28, 29, 30, 31, 32, 33, 34, 35, 36, 37, 38, 39, 40, 41, 42, 43, 44, 45, 46, 47, 48, 49, 50, 51, 52, 53, 54] (by decide +kernel) (by decide +kernel)
set_option maxRecDepth 20000 in
theorem gX2_init_X3_init : GoodIn wsX2_init (wsX3_init) := ggX2_init_X3_init
set_option maxRecDepth 20000 in
theorem ggX2_make_X7_allThere : GoodIn wsX2_make wsX7_allThere := goodIn_r _ [10, 11, 228] (by decide +kernel) (by decide +kernel)
set_option maxRecDepth 20000 in
theorem gX2_make_X7_allThere : GoodIn wsX2_make (wsV RX2 20 RX7 yX7_allThere wsX7_allThere) := goodIn_app (goodIn_of _ (by decide +kernel)) ggX2_make_X7_allThere
set_option maxRecDepth 20000 in
theorem ggX2_make_X0_restart : GoodIn wsX2_make wsX0_restart := goodIn_r _ [17, 18, 19, 20, 21, 22, 23, 210, 211, 212, 213, 214, 215, 216, 217, 218, 219, 220, 221, 222, 223, 224, 225, 226, 227, 229, 230, 231, 232, 233, 234] (by decide +kernel) (by decide +kernel)
set_option maxRecDepth 20000 in
theorem gX2_make_X0_restart_u35X2 : GoodIn wsX2_make (va_wsU RX2 35 RX2 "PostingPlanner$Group" ⟨"PostingPlanner$Plan", "restart", "(IIJ)V"⟩ yX0_restart wsX0_restart) := goodIn_app (goodIn_of _ (by decide +kernel)) ggX2_make_X0_restart
set_option maxRecDepth 20000 in
theorem ggX2_make_X0_isFixed : GoodIn wsX2_make wsX0_isFixed := goodIn_r _ [28, 18, 210, 211, 212, 213, 214, 215, 216, 217, 218, 219, 220, 221, 222, 223, 224, 225, 226, 227] (by decide +kernel) (by decide +kernel)
set_option maxRecDepth 20000 in
theorem gX2_make_X0_isFixed_u39X2 : GoodIn wsX2_make (va_wsU RX2 39 RX2 "PostingPlanner$Group" ⟨"PostingPlanner$Plan", "isFixed", "()Z"⟩ yX0_isFixed wsX0_isFixed) := goodIn_app (goodIn_of _ (by decide +kernel)) ggX2_make_X0_isFixed
set_option maxRecDepth 20000 in
theorem ggX2_make_X5_toldAt : GoodIn wsX2_make wsX5_toldAt := goodIn_r _ [33, 34, 35, 206, 207, 208, 209] (by decide +kernel) (by decide +kernel)
set_option maxRecDepth 20000 in
theorem gX2_make_X5_toldAt : GoodIn wsX2_make (wsV RX2 43 RX5 yX5_toldAt wsX5_toldAt) := goodIn_app (goodIn_of _ (by decide +kernel)) ggX2_make_X5_toldAt
set_option maxRecDepth 20000 in
theorem ggX2_make_X3_make : GoodIn wsX2_make wsX3_make := goodIn_r _ [40, 41, 42, 43, 44, 45, 46, 47, 15, 16, 17, 18, 19, 20, 21, 22, 23, 48, 49, 50, 39, 51, 52, 53, 54, 55, 56, 57, 58, 59, 60, 61, 62, 63, 64, 65, 66, 67, 68, 69, 70, 71, 72, 73, 74, 75, 27, 28, 76, 77, 78, 79, 80, 81, 82, 83, 84, 85, 86, 87, 88, 89, 90, 91, 92, 93, 94, 9, 95, 11, 96, 97, 98, 99, 100, 101, 102, 103, 104, 105, 106, 107, 108, 109, 110, 111, 112, 113, 114, 115, 116, 117, 118, 119, 120, 121, 122, 123, 124, 125, 126, 127, 128, 129, 130, 131, 132, 133, 134, 135, 136, 137, 138, 139, 140, 141, 142, 143, 144, 145, 146, 147, 148, 149, 150, 151, 152, 153, 154, 155, 156, 157, 158, 159, 160, 161, 162, 163, 164, 165, 166, 167, 168, 169, 170, 171, 172, 173, 174, 175, 176, 235, 236, 237, 238, 239, 210, 211, 212, 213, 214, 215, 216, 217, 218, 219, 220, 221, 222, 223, 224, 225, 226, 227, 229, 230, 231, 232, 233, 234, 228] (by decide +kernel) (by decide +kernel)
set_option maxRecDepth 20000 in
theorem gX2_make_X3_make : GoodIn wsX2_make (wsV RX2 47 RX3 yX3_make wsX3_make) := goodIn_app (goodIn_of _ (by decide +kernel)) ggX2_make_X3_make
set_option maxRecDepth 20000 in
theorem ggX2_make_X2_takeIn : GoodIn wsX2_make wsX2_takeIn := goodIn_r _ [181, 182, 53, 183, 184, 185, 186, 187, 74, 75, 27, 16, 28, 18, 188, 189, 190, 121, 122, 20, 90, 191, 192, 193, 64, 65, 210, 211, 212, 213, 214, 215, 216, 217, 218, 219, 220, 221, 222, 223, 224, 225, 226, 227] (by decide +kernel) (by decide +kernel)
set_option maxRecDepth 20000 in
theorem gX2_make_X2_takeIn : GoodIn wsX2_make (wsV RX2 51 RX2 yX2_takeIn wsX2_takeIn) := goodIn_app (goodIn_of _ (by decide +kernel)) ggX2_make_X2_takeIn
set_option maxRecDepth 20000 in
theorem ggX2_make_X0_settleSome : GoodIn wsX2_make wsX0_settleSome := goodIn_r _ [60, 18, 19, 61, 62, 63, 64, 16, 65, 20, 66, 210, 211, 212, 213, 214, 215, 216, 217, 218, 219, 220, 221, 222, 223, 224, 225, 226, 227] (by decide +kernel) (by decide +kernel)
set_option maxRecDepth 20000 in
theorem gX2_make_X0_settleSome_u58X2 : GoodIn wsX2_make (va_wsU RX2 58 RX2 "PostingPlanner$Group" ⟨"PostingPlanner$Plan", "settleSome", "(I)V"⟩ yX0_settleSome wsX0_settleSome) := goodIn_app (goodIn_of _ (by decide +kernel)) ggX2_make_X0_settleSome
set_option maxRecDepth 20000 in
theorem ggX2_make_X0_settleEmpty : GoodIn wsX2_make wsX0_settleEmpty := goodIn_r _ [140, 20, 18, 61, 62, 63, 64, 16, 65, 66, 210, 211, 212, 213, 214, 215, 216, 217, 218, 219, 220, 221, 222, 223, 224, 225, 226, 227] (by decide +kernel) (by decide +kernel)
set_option maxRecDepth 20000 in
theorem gX2_make_X0_settleEmpty_u62X2 : GoodIn wsX2_make (va_wsU RX2 62 RX2 "PostingPlanner$Group" ⟨"PostingPlanner$Plan", "settleEmpty", "()V"⟩ yX0_settleEmpty wsX0_settleEmpty) := goodIn_app (goodIn_of _ (by decide +kernel)) ggX2_make_X0_settleEmpty
set_option maxRecDepth 20000 in
theorem ggX2_make_X0_appraise : GoodIn wsX2_make wsX0_appraise := goodIn_r _ [145, 21, 18, 146, 147, 148, 149, 150, 151, 19, 152, 112, 113, 114, 115, 116, 117, 153, 154, 155, 156, 16, 157, 20, 158, 85, 86, 87, 88, 89, 90, 91, 159, 160, 161, 162, 163, 164, 165, 210, 211, 212, 213, 214, 215, 216, 217, 218, 219, 220, 221, 222, 223, 224, 225, 226, 227, 229, 230, 231, 232, 233, 234] (by decide +kernel) (by decide +kernel)
set_option maxRecDepth 20000 in
theorem gX2_make_X0_appraise_u65X2 : GoodIn wsX2_make (va_wsU RX2 65 RX2 "PostingPlanner$Group" ⟨"PostingPlanner$Plan", "appraise", "()V"⟩ yX0_appraise wsX0_appraise) := goodIn_app (goodIn_of _ (by decide +kernel)) ggX2_make_X0_appraise
set_option maxRecDepth 20000 in
theorem ggX2_make_X0_order : GoodIn wsX2_make wsX0_order := goodIn_r _ [170, 18, 20, 90, 171, 172, 173, 174, 16, 175, 158, 84, 176, 210, 211, 212, 213, 214, 215, 216, 217, 218, 219, 220, 221, 222, 223, 224, 225, 226, 227, 229, 230, 231, 232, 233, 234] (by decide +kernel) (by decide +kernel)
set_option maxRecDepth 20000 in
theorem gX2_make_X0_order_u68X2 : GoodIn wsX2_make (va_wsU RX2 68 RX2 "PostingPlanner$Group" ⟨"PostingPlanner$Plan", "order", "()V"⟩ yX0_order wsX0_order) := goodIn_app (goodIn_of _ (by decide +kernel)) ggX2_make_X0_order
set_option maxRecDepth 20000 in
theorem ggX2_takeIn_X0_isFixed : GoodIn wsX2_takeIn wsX0_isFixed := goodIn_r _ [12, 13, 26, 27, 28, 29, 30, 31, 32, 33, 34, 35, 36, 37, 38, 39, 40, 41, 42, 43] (by decide +kernel) (by decide +kernel)
set_option maxRecDepth 20000 in
theorem gX2_takeIn_X0_isFixed_u71X3 : GoodIn wsX2_takeIn (va_wsU RX2 71 RX3 "PostingPlanner$Group" ⟨"PostingPlanner$PlannedClause", "isFixed", "()Z"⟩ yX0_isFixed wsX0_isFixed) := goodIn_app (goodIn_of _ (by decide +kernel)) ggX2_takeIn_X0_isFixed
set_option maxRecDepth 20000 in
theorem ggX2_takeIn_X0_keep : GoodIn wsX2_takeIn wsX0_keep := goodIn_r _ [18, 19, 20, 26, 27, 28, 29, 30, 31, 32, 33, 34, 35, 36, 37, 38, 39, 40, 41, 42, 43] (by decide +kernel) (by decide +kernel)
set_option maxRecDepth 20000 in
theorem gX2_takeIn_X0_keep_u72X2 : GoodIn wsX2_takeIn (va_wsU RX2 72 RX2 "PostingPlanner$Group" ⟨"PostingPlanner$Plan", "keep", "(LPostingPlanner$Part;)V"⟩ yX0_keep wsX0_keep) := goodIn_app (goodIn_of _ (by decide +kernel)) ggX2_takeIn_X0_keep
set_option maxRecDepth 20000 in
theorem ggX2_takeIn_X0_fix : GoodIn wsX2_takeIn wsX0_fix := goodIn_r _ [25, 13, 19, 26, 27, 28, 29, 30, 31, 32, 33, 34, 35, 36, 37, 38, 39, 40, 41, 42, 43] (by decide +kernel) (by decide +kernel)
set_option maxRecDepth 20000 in
theorem gX2_takeIn_X0_fix_u79X2 : GoodIn wsX2_takeIn (va_wsU RX2 79 RX2 "PostingPlanner$Group" ⟨"PostingPlanner$Plan", "fix", "(I)V"⟩ yX0_fix wsX0_fix) := goodIn_app (goodIn_of _ (by decide +kernel)) ggX2_takeIn_X0_fix
set_option maxRecDepth 20000 in
theorem ggX2_plannedAt_X0_partAt : GoodIn wsX2_plannedAt wsX0_partAt := goodIn_r _ [8, 9, 10, 11, 12, 13, 14, 15, 16, 17, 18, 19, 20, 21, 22, 23, 24, 25, 26, 27, 28] (by decide +kernel) (by decide +kernel)
set_option maxRecDepth 20000 in
theorem gX2_plannedAt_X0_partAt_u82X2 : GoodIn wsX2_plannedAt (va_wsU RX2 82 RX2 "PostingPlanner$Group" ⟨"PostingPlanner$Plan", "partAt", "(I)LPostingPlanner$Part;"⟩ yX0_partAt wsX0_partAt) := goodIn_app (goodIn_of _ (by decide +kernel)) ggX2_plannedAt_X0_partAt
set_option maxRecDepth 20000 in
theorem ggX3_init_X0_init : GoodIn wsX3_init wsX0_init := goodIn_r _ [10, 11, 12, 13, 14, 15, 16, 17, 18, 23, 24, 25, 26, 27, 28, 29, 30, 31, 32, 33, 34, 35, 36, 37, 38, 39, 40] (by decide +kernel) (by decide +kernel)
set_option maxRecDepth 20000 in
theorem gX3_init_X0_init : GoodIn wsX3_init (wsX0_init) := ggX3_init_X0_init
set_option maxRecDepth 20000 in
theorem ggX3_init_X4_init : GoodIn wsX3_init wsX4_init := goodIn_r _ [21, 22, 13, 14, 15, 16, 17, 18, 41, 42, 43, 44, 45, 46] (by decide +kernel) (by decide +kernel)
set_option maxRecDepth 20000 in
theorem gX3_init_X4_init : GoodIn wsX3_init (wsX4_init) := ggX3_init_X4_init
set_option maxRecDepth 20000 in
theorem ggX3_make_X0_restart : GoodIn wsX3_make wsX0_restart := goodIn_r _ [10, 11, 12, 13, 14, 15, 16, 156, 157, 158, 159, 160, 161, 162, 163, 164, 165, 166, 167, 168, 169, 170, 171, 172, 173, 174, 175, 176, 177, 178, 179] (by decide +kernel) (by decide +kernel)
set_option maxRecDepth 20000 in
theorem gX3_make_X0_restart_u32X3 : GoodIn wsX3_make (va_wsU RX3 32 RX3 "PostingPlanner$Group" ⟨"PostingPlanner$PlannedClause", "restart", "(IIJ)V"⟩ yX0_restart wsX0_restart) := goodIn_app (goodIn_of _ (by decide +kernel)) ggX3_make_X0_restart
set_option maxRecDepth 20000 in
theorem ggX3_make_X3_turn : GoodIn wsX3_make wsX3_turn := goodIn_r _ [21, 22, 23, 24, 25, 156, 157, 158, 159, 160, 161, 162, 163, 164, 165, 166, 167, 168, 169, 170, 171, 172, 173] (by decide +kernel) (by decide +kernel)
set_option maxRecDepth 20000 in
theorem gX3_make_X3_turn : GoodIn wsX3_make (wsV RX3 43 RX3 yX3_turn wsX3_turn) := goodIn_app (goodIn_of _ (by decide +kernel)) ggX3_make_X3_turn
set_option maxRecDepth 20000 in
theorem ggX3_make_X0_settleSome : GoodIn wsX3_make wsX0_settleSome := goodIn_r _ [30, 11, 12, 31, 32, 33, 34, 9, 35, 13, 36, 156, 157, 158, 159, 160, 161, 162, 163, 164, 165, 166, 167, 168, 169, 170, 171, 172, 173] (by decide +kernel) (by decide +kernel)
set_option maxRecDepth 20000 in
theorem gX3_make_X0_settleSome_u47X3 : GoodIn wsX3_make (va_wsU RX3 47 RX3 "PostingPlanner$Group" ⟨"PostingPlanner$PlannedClause", "settleSome", "(I)V"⟩ yX0_settleSome wsX0_settleSome) := goodIn_app (goodIn_of _ (by decide +kernel)) ggX3_make_X0_settleSome
set_option maxRecDepth 20000 in
theorem ggX3_make_X3_keepLiterals : GoodIn wsX3_make wsX3_keepLiterals := goodIn_r _ [40, 4, 41, 42, 3, 22, 23, 43, 44, 45, 46, 9, 47, 11, 48, 49, 50, 51, 52, 53, 54, 55, 13, 56, 57, 58, 59, 60, 61, 62, 63, 64, 65, 66, 67, 68, 69, 70, 71, 72, 73, 74, 75, 76, 77, 78, 79, 80, 81, 82, 83, 84, 85, 86, 87, 88, 89, 90, 91, 92, 93, 94, 95, 96, 151, 152, 153, 154, 155, 165, 166, 167, 168, 169, 170, 171, 172, 173, 156, 157, 158, 159, 160, 161, 162, 163, 164, 174, 175, 176, 177, 178, 179, 180] (by decide +kernel) (by decide +kernel)
set_option maxRecDepth 20000 in
theorem gX3_make_X3_keepLiterals : GoodIn wsX3_make (wsV RX3 50 RX3 yX3_keepLiterals wsX3_keepLiterals) := goodIn_app (goodIn_of _ (by decide +kernel)) ggX3_make_X3_keepLiterals
set_option maxRecDepth 20000 in
theorem ggX3_make_X3_settleContraries : GoodIn wsX3_make wsX3_settleContraries := goodIn_r _ [100, 22, 23, 101, 102, 103, 104, 105, 106, 60, 9, 61, 13, 62, 48, 49, 50, 51, 52, 53, 54, 55, 56, 57, 58, 59, 63, 107, 108, 109, 34, 35, 11, 156, 157, 158, 159, 160, 161, 162, 163, 164, 165, 166, 167, 168, 169, 170, 171, 172, 173, 174, 175, 176, 177, 178, 179] (by decide +kernel) (by decide +kernel)
set_option maxRecDepth 20000 in
theorem gX3_make_X3_settleContraries : GoodIn wsX3_make (wsV RX3 54 RX3 yX3_settleContraries wsX3_settleContraries) := goodIn_app (goodIn_of _ (by decide +kernel)) ggX3_make_X3_settleContraries
set_option maxRecDepth 20000 in
theorem ggX3_make_X0_settleEmpty : GoodIn wsX3_make wsX0_settleEmpty := goodIn_r _ [114, 13, 11, 31, 32, 33, 34, 9, 35, 36, 156, 157, 158, 159, 160, 161, 162, 163, 164, 165, 166, 167, 168, 169, 170, 171, 172, 173] (by decide +kernel) (by decide +kernel)
set_option maxRecDepth 20000 in
theorem gX3_make_X0_settleEmpty_u57X3 : GoodIn wsX3_make (va_wsU RX3 57 RX3 "PostingPlanner$Group" ⟨"PostingPlanner$PlannedClause", "settleEmpty", "()V"⟩ yX0_settleEmpty wsX0_settleEmpty) := goodIn_app (goodIn_of _ (by decide +kernel)) ggX3_make_X0_settleEmpty
set_option maxRecDepth 20000 in
theorem ggX3_make_X0_appraise : GoodIn wsX3_make wsX0_appraise := goodIn_r _ [119, 14, 11, 120, 121, 122, 123, 124, 125, 12, 126, 86, 87, 88, 89, 90, 91, 127, 128, 129, 130, 9, 131, 13, 132, 57, 58, 59, 60, 61, 62, 63, 133, 134, 135, 136, 137, 138, 139, 156, 157, 158, 159, 160, 161, 162, 163, 164, 165, 166, 167, 168, 169, 170, 171, 172, 173, 174, 175, 176, 177, 178, 179] (by decide +kernel) (by decide +kernel)
set_option maxRecDepth 20000 in
theorem gX3_make_X0_appraise_u60X3 : GoodIn wsX3_make (va_wsU RX3 60 RX3 "PostingPlanner$Group" ⟨"PostingPlanner$PlannedClause", "appraise", "()V"⟩ yX0_appraise wsX0_appraise) := goodIn_app (goodIn_of _ (by decide +kernel)) ggX3_make_X0_appraise
set_option maxRecDepth 20000 in
theorem ggX3_make_X0_order : GoodIn wsX3_make wsX0_order := goodIn_r _ [144, 11, 13, 62, 145, 146, 147, 148, 9, 149, 132, 56, 150, 156, 157, 158, 159, 160, 161, 162, 163, 164, 165, 166, 167, 168, 169, 170, 171, 172, 173, 174, 175, 176, 177, 178, 179] (by decide +kernel) (by decide +kernel)
set_option maxRecDepth 20000 in
theorem gX3_make_X0_order_u63X3 : GoodIn wsX3_make (va_wsU RX3 63 RX3 "PostingPlanner$Group" ⟨"PostingPlanner$PlannedClause", "order", "()V"⟩ yX0_order wsX0_order) := goodIn_app (goodIn_of _ (by decide +kernel)) ggX3_make_X0_order
set_option maxRecDepth 20000 in
theorem ggX3_keepLiterals_X0_isFixed : GoodIn wsX3_keepLiterals wsX0_isFixed := goodIn_r _ [12, 13, 78, 79, 80, 81, 82, 83, 84, 85, 86, 69, 70, 71, 72, 73, 74, 75, 76, 77] (by decide +kernel) (by decide +kernel)
set_option maxRecDepth 20000 in
theorem gX3_keepLiterals_X0_isFixed_u68X3 : GoodIn wsX3_keepLiterals (va_wsU RX3 68 RX3 "PostingPlanner$Group" ⟨"PostingPlanner$PlannedClause", "isFixed", "()Z"⟩ yX0_isFixed wsX0_isFixed) := goodIn_app (goodIn_of _ (by decide +kernel)) ggX3_keepLiterals_X0_isFixed
set_option maxRecDepth 20000 in
theorem ggX3_keepLiterals_X10_contraryOf : GoodIn wsX3_keepLiterals wsX10_contraryOf := goodIn_r _ [16] (by decide +kernel) (by decide +kernel)
set_option maxRecDepth 20000 in
theorem gX3_keepLiterals_X10_contraryOf_n76 : GoodIn wsX3_keepLiterals (wsX10_contraryOf) := ggX3_keepLiterals_X10_contraryOf
set_option maxRecDepth 20000 in
theorem ggX3_keepLiterals_X0_hasRank : GoodIn wsX3_keepLiterals wsX0_hasRank := goodIn_r _ [21, 22, 23, 24, 25, 26, 27, 11, 28, 29, 30, 78, 79, 80, 81, 82, 83, 84, 85, 86, 69, 70, 71, 72, 73, 74, 75, 76, 77, 87, 88, 89, 90, 91, 92] (by decide +kernel) (by decide +kernel)
set_option maxRecDepth 20000 in
theorem gX3_keepLiterals_X0_hasRank_u80X3 : GoodIn wsX3_keepLiterals (va_wsU RX3 80 RX3 "PostingPlanner$Group" ⟨"PostingPlanner$PlannedClause", "hasRank", "(I)Z"⟩ yX0_hasRank wsX0_hasRank) := goodIn_app (goodIn_of _ (by decide +kernel)) ggX3_keepLiterals_X0_hasRank
set_option maxRecDepth 20000 in
theorem ggX3_keepLiterals_X7_truthsOf : GoodIn wsX3_keepLiterals wsX7_truthsOf := goodIn_r _ [35, 36, 37, 15, 38, 93] (by decide +kernel) (by decide +kernel)
set_option maxRecDepth 20000 in
theorem gX3_keepLiterals_X7_truthsOf : GoodIn wsX3_keepLiterals (wsV RX3 84 RX7 yX7_truthsOf wsX7_truthsOf) := goodIn_app (goodIn_of _ (by decide +kernel)) ggX3_keepLiterals_X7_truthsOf
set_option maxRecDepth 20000 in
theorem ggX3_keepLiterals_X4_make : GoodIn wsX3_keepLiterals wsX4_make := goodIn_r _ [43, 44, 45, 46, 47, 48, 49, 50, 51, 52, 53, 54, 55, 56, 57, 58, 87, 88, 89, 90, 91, 92, 78, 79, 80, 81, 82, 83, 84, 85, 86, 69, 70, 71, 72, 73, 74, 75, 76, 77] (by decide +kernel) (by decide +kernel)
set_option maxRecDepth 20000 in
theorem gX3_keepLiterals_X4_make : GoodIn wsX3_keepLiterals (wsV RX3 90 RX4 yX4_make wsX4_make) := goodIn_app (goodIn_of _ (by decide +kernel)) ggX3_keepLiterals_X4_make
set_option maxRecDepth 20000 in
theorem ggX3_keepLiterals_X0_keep : GoodIn wsX3_keepLiterals wsX0_keep := goodIn_r _ [63, 22, 29, 78, 79, 80, 81, 82, 83, 84, 85, 86, 69, 70, 71, 72, 73, 74, 75, 76, 77] (by decide +kernel) (by decide +kernel)
set_option maxRecDepth 20000 in
theorem gX3_keepLiterals_X0_keep_u94X3 : GoodIn wsX3_keepLiterals (va_wsU RX3 94 RX3 "PostingPlanner$Group" ⟨"PostingPlanner$PlannedClause", "keep", "(LPostingPlanner$Part;)V"⟩ yX0_keep wsX0_keep) := goodIn_app (goodIn_of _ (by decide +kernel)) ggX3_keepLiterals_X0_keep
set_option maxRecDepth 20000 in
theorem ggX3_settleContraries_X0_partAt : GoodIn wsX3_settleContraries wsX0_partAt := goodIn_r _ [11, 12, 13, 33, 34, 35, 36, 37, 38, 39, 40, 41, 42, 43, 44, 45, 46, 47, 48, 49, 50] (by decide +kernel) (by decide +kernel)
set_option maxRecDepth 20000 in
theorem gX3_settleContraries_X0_partAt_u99X3 : GoodIn wsX3_settleContraries (va_wsU RX3 99 RX3 "PostingPlanner$Group" ⟨"PostingPlanner$PlannedClause", "partAt", "(I)LPostingPlanner$Part;"⟩ yX0_partAt wsX0_partAt) := goodIn_app (goodIn_of _ (by decide +kernel)) ggX3_settleContraries_X0_partAt
set_option maxRecDepth 20000 in
theorem ggX3_settleContraries_X10_contraryOf : GoodIn wsX3_settleContraries wsX10_contraryOf := goodIn_r _ [16] (by decide +kernel) (by decide +kernel)
set_option maxRecDepth 20000 in
theorem gX3_settleContraries_X10_contraryOf_n76 : GoodIn wsX3_settleContraries (wsX10_contraryOf) := ggX3_settleContraries_X10_contraryOf
set_option maxRecDepth 20000 in
theorem ggX3_settleContraries_X0_hasRank : GoodIn wsX3_settleContraries wsX0_hasRank := goodIn_r _ [21, 12, 22, 23, 24, 25, 9, 10, 11, 13, 26, 33, 34, 35, 36, 37, 38, 39, 40, 41, 42, 43, 44, 45, 46, 47, 48, 49, 50, 51, 52, 53, 54, 55, 56] (by decide +kernel) (by decide +kernel)
set_option maxRecDepth 20000 in
theorem gX3_settleContraries_X0_hasRank_u80X3 : GoodIn wsX3_settleContraries (va_wsU RX3 80 RX3 "PostingPlanner$Group" ⟨"PostingPlanner$PlannedClause", "hasRank", "(I)Z"⟩ yX0_hasRank wsX0_hasRank) := goodIn_app (goodIn_of _ (by decide +kernel)) ggX3_settleContraries_X0_hasRank
set_option maxRecDepth 20000 in
theorem ggX3_settleContraries_X0_fix : GoodIn wsX3_settleContraries wsX0_fix := goodIn_r _ [31, 32, 12, 33, 34, 35, 36, 37, 38, 39, 40, 41, 42, 43, 44, 45, 46, 47, 48, 49, 50] (by decide +kernel) (by decide +kernel)
set_option maxRecDepth 20000 in
theorem gX3_settleContraries_X0_fix_u106X3 : GoodIn wsX3_settleContraries (va_wsU RX3 106 RX3 "PostingPlanner$Group" ⟨"PostingPlanner$PlannedClause", "fix", "(I)V"⟩ yX0_fix wsX0_fix) := goodIn_app (goodIn_of _ (by decide +kernel)) ggX3_settleContraries_X0_fix
set_option maxRecDepth 20000 in
theorem ggX4_init_X1_init : GoodIn wsX4_init wsX1_init := goodIn_r _ [4, 5, 6, 7] (by decide +kernel) (by decide +kernel)
set_option maxRecDepth 20000 in
theorem gX4_init_X1_init_n3 : GoodIn wsX4_init (wsX1_init) := ggX4_init_X1_init
set_option maxRecDepth 20000 in
theorem ggX4_make_J13_bitCount_95d88 : GoodIn wsX4_make wsJ13_bitCount_95d88 := goodIn_r _ [12, 13, 14, 15] (by decide +kernel) (by decide +kernel)
set_option maxRecDepth 20000 in
theorem gX4_make_J13_bitCount_95d88 : GoodIn wsX4_make (va_wsS RX4 26 yJ13_bitCount_95d88 wsJ13_bitCount_95d88) := goodIn_app (goodIn_of _ (by decide +kernel)) ggX4_make_J13_bitCount_95d88
set_option maxRecDepth 20000 in
theorem ggX4_seek_X10_firstOf : GoodIn wsX4_seek wsX10_firstOf := goodIn_r _ [8] (by decide +kernel) (by decide +kernel)
set_option maxRecDepth 20000 in
theorem gX4_seek_X10_firstOf_n38 : GoodIn wsX4_seek (wsX10_firstOf) := ggX4_seek_X10_firstOf
set_option maxRecDepth 20000 in
theorem ggX4_seek_X4_cost : GoodIn wsX4_seek wsX4_cost := goodIn_r _ [13, 14, 15, 16, 1, 2, 17, 18, 19, 20, 21, 22, 23, 24, 25, 26, 27, 28, 29, 30, 31, 32, 33, 34, 35, 36, 37, 38, 39, 40, 41, 42, 43, 44, 45, 46, 47] (by decide +kernel) (by decide +kernel)
set_option maxRecDepth 20000 in
theorem gX4_seek_X4_cost : GoodIn wsX4_seek (wsV RX4 47 RX4 yX4_cost wsX4_cost) := goodIn_app (goodIn_of _ (by decide +kernel)) ggX4_seek_X4_cost
set_option maxRecDepth 20000 in
theorem ggX4_cost_J13_bitCount_95d88 : GoodIn wsX4_cost wsJ13_bitCount_95d88 := goodIn_r _ [9, 10, 11, 12] (by decide +kernel) (by decide +kernel)
set_option maxRecDepth 20000 in
theorem gX4_cost_J13_bitCount_95d88 : GoodIn wsX4_cost (va_wsS RX4 26 yJ13_bitCount_95d88 wsJ13_bitCount_95d88) := goodIn_app (goodIn_of _ (by decide +kernel)) ggX4_cost_J13_bitCount_95d88
set_option maxRecDepth 20000 in
theorem ggX5_init_X9_init : GoodIn wsX5_init wsX9_init := goodIn_r _ [11, 12, 2, 3, 13, 14, 19, 20, 21, 22, 23] (by decide +kernel) (by decide +kernel)
set_option maxRecDepth 20000 in
theorem gX5_init_X9_init : GoodIn wsX5_init (wsX9_init) := ggX5_init_X9_init
set_option maxRecDepth 20000 in
theorem ggX5_append_X9_restart : GoodIn wsX5_append wsX9_restart := goodIn_r _ [7, 8, 9, 10, 11, 16, 17, 18, 19, 20] (by decide +kernel) (by decide +kernel)
set_option maxRecDepth 20000 in
theorem gX5_append_X9_restart : GoodIn wsX5_append (wsV RX5 28 RX9 yX9_restart wsX9_restart) := goodIn_app (goodIn_of _ (by decide +kernel)) ggX5_append_X9_restart
set_option maxRecDepth 20000 in
theorem ggX5_isTrueOf_X5_toldAt : GoodIn wsX5_isTrueOf wsX5_toldAt := goodIn_r _ [8, 1, 9, 25, 26, 27, 28] (by decide +kernel) (by decide +kernel)
set_option maxRecDepth 20000 in
theorem gX5_isTrueOf_X5_toldAt : GoodIn wsX5_isTrueOf (wsV RX5 32 RX5 yX5_toldAt wsX5_toldAt) := goodIn_app (goodIn_of _ (by decide +kernel)) ggX5_isTrueOf_X5_toldAt
set_option maxRecDepth 20000 in
theorem ggX5_isTrueOf_X9_isTrueOf : GoodIn wsX5_isTrueOf wsX9_isTrueOf := goodIn_r _ [14, 15, 16, 17, 18, 19, 20, 21, 22, 23, 24, 29, 30, 31, 32, 33] (by decide +kernel) (by decide +kernel)
set_option maxRecDepth 20000 in
theorem gX5_isTrueOf_X9_isTrueOf : GoodIn wsX5_isTrueOf (wsV RX5 36 RX9 yX9_isTrueOf wsX9_isTrueOf) := goodIn_app (goodIn_of _ (by decide +kernel)) ggX5_isTrueOf_X9_isTrueOf
set_option maxRecDepth 20000 in
theorem ggX5_isTrueOf_X10_isEnough : GoodIn wsX5_isTrueOf wsX10_isEnough := goodIn_r _ [24] (by decide +kernel) (by decide +kernel)
set_option maxRecDepth 20000 in
theorem gX5_isTrueOf_X10_isEnough_n40 : GoodIn wsX5_isTrueOf (wsX10_isEnough) := ggX5_isTrueOf_X10_isEnough
set_option maxRecDepth 20000 in
theorem ggX6_init_X8_init : GoodIn wsX6_init wsX8_init := goodIn_r _ [13, 14, 2, 3] (by decide +kernel) (by decide +kernel)
set_option maxRecDepth 20000 in
theorem gX6_init_X8_init_n11 : GoodIn wsX6_init (wsX8_init) := ggX6_init_X8_init
set_option maxRecDepth 20000 in
theorem ggX6_init_X2_init : GoodIn wsX6_init wsX2_init := goodIn_r _ [17, 18, 19, 20, 21, 22, 23, 24, 25, 26, 27, 28, 29, 30, 31, 2, 3, 32, 33, 34, 35, 36, 37, 38, 39, 40, 41, 42, 43, 44, 45, 51, 52, 53, 54, 55, 56, 57, 58, 59, 60, 61, 62, 63, 64, 65, 66, 67, 68, 69, 70, 71, 72, 73, 74] (by decide +kernel) (by decide +kernel)
set_option maxRecDepth 20000 in
theorem gX6_init_X2_init : GoodIn wsX6_init (wsX2_init) := ggX6_init_X2_init
set_option maxRecDepth 20000 in
theorem ggX6_restart_X2_make : GoodIn wsX6_restart wsX2_make := goodIn_r _ [12, 13, 14, 15, 16, 17, 18, 19, 20, 21, 22, 23, 24, 25, 26, 27, 28, 29, 30, 31, 32, 33, 34, 35, 36, 37, 38, 39, 40, 41, 42, 43, 44, 45, 46, 47, 48, 49, 50, 51, 52, 53, 54, 55, 56, 57, 58, 59, 60, 61, 62, 63, 64, 65, 66, 67, 68, 69, 70, 71, 72, 73, 74, 75, 76, 77, 78, 79, 80, 81, 82, 83, 84, 85, 86, 87, 88, 89, 90, 91, 92, 93, 94, 95, 96, 97, 98, 99, 100, 101, 102, 103, 104, 105, 106, 107, 108, 109, 110, 111, 112, 113, 114, 115, 116, 117, 118, 119, 120, 121, 122, 123, 124, 125, 126, 127, 128, 129, 130, 131, 132, 133, 134, 135, 136, 137, 138, 139, 140, 141, 142, 143, 144, 145, 146, 147, 148, 149, 150, 151, 152, 153, 154, 155, 156, 157, 158, 159, 160, 161, 162, 163, 164, 165, 166, 167, 168, 169, 170, 171, 172, 173, 174, 175, 176, 177, 178, 179, 180, 181, 182, 183, 184, 185, 186, 187, 188, 189, 190, 191, 11, 192, 193, 194, 195, 196, 197, 198, 199, 200, 201, 202, 203, 204, 205, 206, 207, 208, 209, 210, 211, 212, 213, 214, 215, 216, 246, 247, 248, 249, 222, 223, 224, 225, 226, 227, 228, 229, 230, 231, 232, 233, 234, 235, 236, 237, 238, 239, 250, 240, 241, 242, 243, 244, 245, 251, 252, 253, 254, 255] (by decide +kernel) (by decide +kernel)
set_option maxRecDepth 20000 in
theorem gX6_restart_X2_make : GoodIn wsX6_restart (wsV RX6 27 RX2 yX2_make wsX2_make) := goodIn_app (goodIn_of _ (by decide +kernel)) ggX6_restart_X2_make
set_option maxRecDepth 20000 in
theorem ggX6_advance_X0_seek : GoodIn wsX6_advance wsX0_seek := goodIn_r _ [12, 13, 14, 15, 16, 17, 18, 19, 20, 11, 21, 22, 23, 24, 25, 26, 27, 28, 29, 30, 31, 32, 33, 34, 35, 36, 37, 38, 39, 40, 41, 42, 43, 44, 45, 46, 10, 47, 48, 49, 50, 51, 52, 53, 54, 55, 56, 57, 58, 59, 60, 61, 62, 63, 64, 65, 66, 67, 68, 69, 70, 71, 72, 73, 4, 74, 75, 76, 77, 78, 79, 80, 81, 82, 83, 84, 85, 86, 87, 88, 89, 94, 95, 96, 97, 98, 99, 100, 101, 102, 103, 104, 105, 106, 107, 108, 109, 110, 111, 112, 113, 114, 115, 116, 117, 118] (by decide +kernel) (by decide +kernel)
set_option maxRecDepth 20000 in
theorem gX6_advance_X0_seek_u51X2 : GoodIn wsX6_advance (va_wsU RX6 51 RX2 "PostingPlanner$Group" ⟨"PostingPlanner$Plan", "seek", "(II)I"⟩ yX0_seek wsX0_seek) := goodIn_app (goodIn_of _ (by decide +kernel)) ggX6_advance_X0_seek
set_option maxRecDepth 20000 in
theorem ggX7_init_J7_fill_53178 : GoodIn wsX7_init wsJ7_fill_53178 := goodIn_r _ [9] (by decide +kernel) (by decide +kernel)
set_option maxRecDepth 20000 in
theorem gX7_init_J7_fill_53178 : GoodIn wsX7_init (va_wsS RX7 15 yJ7_fill_53178 wsJ7_fill_53178) := goodIn_app (goodIn_of _ (by decide +kernel)) ggX7_init_J7_fill_53178
set_option maxRecDepth 20000 in
theorem ggX7_truthsOf_X10_isLiteralTrue : GoodIn wsX7_truthsOf wsX10_isLiteralTrue := goodIn_r _ [4] (by decide +kernel) (by decide +kernel)
set_option maxRecDepth 20000 in
theorem gX7_truthsOf_X10_isLiteralTrue_n21 : GoodIn wsX7_truthsOf (wsX10_isLiteralTrue) := ggX7_truthsOf_X10_isLiteralTrue
set_option maxRecDepth 20000 in
theorem ggX9_isTrueOf_X10_isLiteralTrue : GoodIn wsX9_isTrueOf wsX10_isLiteralTrue := goodIn_r _ [8] (by decide +kernel) (by decide +kernel)
set_option maxRecDepth 20000 in
theorem gX9_isTrueOf_X10_isLiteralTrue_n29 : GoodIn wsX9_isTrueOf (wsX10_isLiteralTrue) := ggX9_isTrueOf_X10_isLiteralTrue
set_option maxRecDepth 20000 in
theorem ggX9_isTrueOf_X10_isEnough : GoodIn wsX9_isTrueOf wsX10_isEnough := goodIn_r _ [10] (by decide +kernel) (by decide +kernel)
set_option maxRecDepth 20000 in
theorem gX9_isTrueOf_X10_isEnough_n33 : GoodIn wsX9_isTrueOf (wsX10_isEnough) := ggX9_isTrueOf_X10_isEnough
set_option maxRecDepth 20000 in
theorem ggX10_init_X7_init : GoodIn wsX10_init wsX7_init := goodIn_r _ [25, 26, 2, 3, 27, 28, 29, 30, 31, 32, 90] (by decide +kernel) (by decide +kernel)
set_option maxRecDepth 20000 in
theorem gX10_init_X7_init : GoodIn wsX10_init (wsX7_init) := ggX10_init_X7_init
set_option maxRecDepth 20000 in
theorem ggX10_init_X5_init : GoodIn wsX10_init wsX5_init := goodIn_r _ [35, 36, 2, 3, 37, 38, 39, 40, 41, 42, 43, 44, 45, 27, 46, 95, 96, 97, 98, 113, 114, 115, 116, 117] (by decide +kernel) (by decide +kernel)
set_option maxRecDepth 20000 in
theorem gX10_init_X5_init : GoodIn wsX10_init (wsX5_init) := ggX10_init_X5_init
set_option maxRecDepth 20000 in
theorem ggX10_init_X8_init : GoodIn wsX10_init wsX8_init := goodIn_r _ [48, 49, 2, 3] (by decide +kernel) (by decide +kernel)
set_option maxRecDepth 20000 in
theorem gX10_init_X8_init_n27 : GoodIn wsX10_init (wsX8_init) := ggX10_init_X8_init
set_option maxRecDepth 20000 in
theorem ggX10_init_X2_init : GoodIn wsX10_init wsX2_init := goodIn_r _ [52, 53, 54, 55, 56, 57, 58, 59, 60, 61, 62, 63, 64, 65, 66, 2, 3, 67, 68, 69, 70, 71, 72, 73, 74, 75, 76, 77, 78, 79, 80, 99, 100, 101, 102, 103, 104, 105, 106, 107, 118, 119, 120, 121, 122, 123, 124, 125, 126, 127, 128, 129, 130, 131, 132] (by decide +kernel) (by decide +kernel)
set_option maxRecDepth 20000 in
theorem gX10_init_X2_init : GoodIn wsX10_init (wsX2_init) := ggX10_init_X2_init
set_option maxRecDepth 20000 in
theorem ggX10_init_X6_init : GoodIn wsX10_init wsX6_init := goodIn_r _ [83, 84, 2, 3, 85, 16, 17, 86, 87, 13, 14, 88, 47, 48, 49, 89, 51, 52, 53, 54, 55, 56, 57, 58, 59, 60, 61, 62, 63, 64, 65, 66, 67, 68, 69, 70, 71, 72, 73, 74, 75, 76, 77, 78, 79, 80, 108, 109, 110, 111, 112, 99, 100, 101, 102, 103, 104, 105, 106, 107, 118, 119, 120, 121, 122, 123, 124, 125, 126, 127, 128, 129, 130, 131, 132] (by decide +kernel) (by decide +kernel)
set_option maxRecDepth 20000 in
theorem gX10_init_X6_init : GoodIn wsX10_init (wsX6_init) := ggX10_init_X6_init
set_option maxRecDepth 20000 in
theorem ggX10_put_X10_checkDocument : GoodIn wsX10_put wsX10_checkDocument := goodIn_ca (goodIn_r _ [8, 9, 10] (by decide +kernel) (by decide +kernel)) (goodIn_sub (fun _ h => List.mem_cons_of_mem _ (List.mem_append_right _ h)) (by decide +kernel))
set_option maxRecDepth 20000 in
theorem gX10_put_X10_checkDocument : GoodIn wsX10_put (wsV RX10 42 RX10 yX10_checkDocument wsX10_checkDocument) := goodIn_app (goodIn_of _ (by decide +kernel)) ggX10_put_X10_checkDocument
set_option maxRecDepth 20000 in
theorem ggX10_put_X7_replace : GoodIn wsX10_put wsX7_replace := goodIn_r _ [15, 16, 21] (by decide +kernel) (by decide +kernel)
set_option maxRecDepth 20000 in
theorem gX10_put_X7_replace : GoodIn wsX10_put (wsV RX10 53 RX7 yX7_replace wsX7_replace) := goodIn_app (goodIn_of _ (by decide +kernel)) ggX10_put_X7_replace
set_option maxRecDepth 20000 in
theorem ggX10_drop_X10_checkDocument : GoodIn wsX10_drop wsX10_checkDocument := goodIn_ca (goodIn_r _ [6, 7, 8] (by decide +kernel) (by decide +kernel)) (goodIn_sub (fun _ h => List.mem_cons_of_mem _ (List.mem_append_right _ h)) (by decide +kernel))
set_option maxRecDepth 20000 in
theorem gX10_drop_X10_checkDocument : GoodIn wsX10_drop (wsV RX10 42 RX10 yX10_checkDocument wsX10_checkDocument) := goodIn_app (goodIn_of _ (by decide +kernel)) ggX10_drop_X10_checkDocument
set_option maxRecDepth 20000 in
theorem ggX10_drop_X7_replace : GoodIn wsX10_drop wsX7_replace := goodIn_r _ [13, 14, 19] (by decide +kernel) (by decide +kernel)
set_option maxRecDepth 20000 in
theorem gX10_drop_X7_replace : GoodIn wsX10_drop (wsV RX10 53 RX7 yX7_replace wsX7_replace) := goodIn_app (goodIn_of _ (by decide +kernel)) ggX10_drop_X7_replace
set_option maxRecDepth 20000 in
theorem ggX10_documents_X7_allThere : GoodIn wsX10_documents wsX7_allThere := goodIn_r _ [6, 7, 19] (by decide +kernel) (by decide +kernel)
set_option maxRecDepth 20000 in
theorem gX10_documents_X7_allThere : GoodIn wsX10_documents (wsV RX10 57 RX7 yX7_allThere wsX7_allThere) := goodIn_app (goodIn_of _ (by decide +kernel)) ggX10_documents_X7_allThere
set_option maxRecDepth 20000 in
theorem ggX10_documents_J13_bitCount_95d88 : GoodIn wsX10_documents wsJ13_bitCount_95d88 := goodIn_r _ [11, 12, 13, 14] (by decide +kernel) (by decide +kernel)
set_option maxRecDepth 20000 in
theorem gX10_documents_J13_bitCount_95d88 : GoodIn wsX10_documents (va_wsS RX10 61 yJ13_bitCount_95d88 wsJ13_bitCount_95d88) := goodIn_app (goodIn_of _ (by decide +kernel)) ggX10_documents_J13_bitCount_95d88
set_option maxRecDepth 20000 in
theorem ggX10_count_X10_checkWord : GoodIn wsX10_count wsX10_checkWord := goodIn_ca (goodIn_r _ [6, 7, 8] (by decide +kernel) (by decide +kernel)) (goodIn_sub (fun _ h => List.mem_cons_of_mem _ (List.mem_append_right _ h)) (by decide +kernel))
set_option maxRecDepth 20000 in
theorem gX10_count_X10_checkWord : GoodIn wsX10_count (wsV RX10 67 RX10 yX10_checkWord wsX10_checkWord) := goodIn_app (goodIn_of _ (by decide +kernel)) ggX10_count_X10_checkWord
set_option maxRecDepth 20000 in
theorem ggX10_count_X10_codeOf : GoodIn wsX10_count wsX10_codeOf := goodIn_r _ [11] (by decide +kernel) (by decide +kernel)
set_option maxRecDepth 20000 in
theorem gX10_count_X10_codeOf : GoodIn wsX10_count (va_wsS RX10 70 yX10_codeOf wsX10_codeOf) := goodIn_app (goodIn_of _ (by decide +kernel)) ggX10_count_X10_codeOf
set_option maxRecDepth 20000 in
theorem ggX10_count_X7_truthsOf : GoodIn wsX10_count wsX7_truthsOf := goodIn_r _ [16, 17, 18, 5, 19, 31] (by decide +kernel) (by decide +kernel)
set_option maxRecDepth 20000 in
theorem gX10_count_X7_truthsOf : GoodIn wsX10_count (wsV RX10 74 RX7 yX7_truthsOf wsX7_truthsOf) := goodIn_app (goodIn_of _ (by decide +kernel)) ggX10_count_X7_truthsOf
set_option maxRecDepth 20000 in
theorem ggX10_count_J13_bitCount_95d88 : GoodIn wsX10_count wsJ13_bitCount_95d88 := goodIn_r _ [23, 24, 25, 26] (by decide +kernel) (by decide +kernel)
set_option maxRecDepth 20000 in
theorem gX10_count_J13_bitCount_95d88 : GoodIn wsX10_count (va_wsS RX10 61 yJ13_bitCount_95d88 wsJ13_bitCount_95d88) := goodIn_app (goodIn_of _ (by decide +kernel)) ggX10_count_J13_bitCount_95d88
set_option maxRecDepth 20000 in
theorem ggX10_ask_X10_checkKindAndNeed : GoodIn wsX10_ask wsX10_checkKindAndNeed := goodIn_ca (goodIn_r _ [6, 7, 8] (by decide +kernel) (by decide +kernel)) (goodIn_sub (fun _ h => List.mem_cons_of_mem _ (List.mem_append_right _ h)) (by decide +kernel))
set_option maxRecDepth 20000 in
theorem gX10_ask_X10_checkKindAndNeed : GoodIn wsX10_ask (wsV RX10 78 RX10 yX10_checkKindAndNeed wsX10_checkKindAndNeed) := goodIn_app (goodIn_of _ (by decide +kernel)) ggX10_ask_X10_checkKindAndNeed
set_option maxRecDepth 20000 in
theorem ggX10_ask_X5_restart : GoodIn wsX10_ask wsX5_restart := goodIn_r _ [13, 14, 15, 16, 21, 22, 23, 24] (by decide +kernel) (by decide +kernel)
set_option maxRecDepth 20000 in
theorem gX10_ask_X5_restart : GoodIn wsX10_ask (wsV RX10 82 RX5 yX5_restart wsX5_restart) := goodIn_app (goodIn_of _ (by decide +kernel)) ggX10_ask_X5_restart
set_option maxRecDepth 20000 in
theorem ggX10_clause_X10_checkKindAndNeed : GoodIn wsX10_clause wsX10_checkKindAndNeed := goodIn_ca (goodIn_r _ [8, 9, 10] (by decide +kernel) (by decide +kernel)) (goodIn_sub (fun _ h => List.mem_cons_of_mem _ (List.mem_append_right _ h)) (by decide +kernel))
set_option maxRecDepth 20000 in
theorem gX10_clause_X10_checkKindAndNeed : GoodIn wsX10_clause (wsV RX10 78 RX10 yX10_checkKindAndNeed wsX10_checkKindAndNeed) := goodIn_app (goodIn_of _ (by decide +kernel)) ggX10_clause_X10_checkKindAndNeed
set_option maxRecDepth 20000 in
theorem ggX10_clause_X5_append : GoodIn wsX10_clause wsX5_append := goodIn_r _ [15, 16, 17, 18, 19, 20, 21, 22, 23, 24, 25, 26, 31, 32, 33, 34, 35, 36, 37, 38, 39] (by decide +kernel) (by decide +kernel)
set_option maxRecDepth 20000 in
theorem gX10_clause_X5_append : GoodIn wsX10_clause (wsV RX10 86 RX5 yX5_append wsX5_append) := goodIn_app (goodIn_of _ (by decide +kernel)) ggX10_clause_X5_append
set_option maxRecDepth 20000 in
theorem ggX10_literal_X5_toldAt : GoodIn wsX10_literal wsX5_toldAt := goodIn_r _ [11, 12, 13, 38, 39, 40, 41] (by decide +kernel) (by decide +kernel)
set_option maxRecDepth 20000 in
theorem gX10_literal_X5_toldAt : GoodIn wsX10_literal (wsV RX10 95 RX5 yX5_toldAt wsX5_toldAt) := goodIn_app (goodIn_of _ (by decide +kernel)) ggX10_literal_X5_toldAt
set_option maxRecDepth 20000 in
theorem ggX10_literal_X10_checkWord : GoodIn wsX10_literal wsX10_checkWord := goodIn_ca (goodIn_r _ [18, 1, 2] (by decide +kernel) (by decide +kernel)) (goodIn_sub (fun _ h => List.mem_cons_of_mem _ (List.mem_append_left _ (List.mem_append_right _ h))) (by decide +kernel))
set_option maxRecDepth 20000 in
theorem gX10_literal_X10_checkWord : GoodIn wsX10_literal (wsV RX10 67 RX10 yX10_checkWord wsX10_checkWord) := goodIn_app (goodIn_of _ (by decide +kernel)) ggX10_literal_X10_checkWord
set_option maxRecDepth 20000 in
theorem ggX10_literal_X10_codeOf : GoodIn wsX10_literal wsX10_codeOf := goodIn_r _ [21] (by decide +kernel) (by decide +kernel)
set_option maxRecDepth 20000 in
theorem gX10_literal_X10_codeOf : GoodIn wsX10_literal (va_wsS RX10 70 yX10_codeOf wsX10_codeOf) := goodIn_app (goodIn_of _ (by decide +kernel)) ggX10_literal_X10_codeOf
set_option maxRecDepth 20000 in
theorem ggX10_literal_X9_append : GoodIn wsX10_literal wsX9_append := goodIn_r _ [26, 27, 28, 33, 34, 35, 36, 37] (by decide +kernel) (by decide +kernel)
set_option maxRecDepth 20000 in
theorem gX10_literal_X9_append : GoodIn wsX10_literal (wsV RX10 104 RX9 yX9_append wsX9_append) := goodIn_app (goodIn_of _ (by decide +kernel)) ggX10_literal_X9_append
set_option maxRecDepth 20000 in
theorem ggX10_matches_X10_checkDocument : GoodIn wsX10_matches wsX10_checkDocument := goodIn_ca (goodIn_r _ [5, 6, 7] (by decide +kernel) (by decide +kernel)) (goodIn_sub (fun _ h => List.mem_cons_of_mem _ (List.mem_append_right _ h)) (by decide +kernel))
set_option maxRecDepth 20000 in
theorem gX10_matches_X10_checkDocument : GoodIn wsX10_matches (wsV RX10 42 RX10 yX10_checkDocument wsX10_checkDocument) := goodIn_app (goodIn_of _ (by decide +kernel)) ggX10_matches_X10_checkDocument
set_option maxRecDepth 20000 in
theorem ggX10_matches_X10_isHit : GoodIn wsX10_matches wsX10_isHit := goodIn_r _ [11, 12, 13, 14, 15, 16, 17, 18, 19, 20, 21, 22, 23, 24, 25, 26, 27, 28, 29, 30, 31, 32, 33, 34, 35, 36, 37, 38, 39, 40, 41, 42, 43, 4, 44, 45, 46, 47, 48, 49, 50, 51, 52, 53, 54, 55, 56, 57, 58, 59, 60] (by decide +kernel) (by decide +kernel)
set_option maxRecDepth 20000 in
theorem gX10_matches_X10_isHit : GoodIn wsX10_matches (wsV RX10 115 RX10 yX10_isHit wsX10_isHit) := goodIn_app (goodIn_of _ (by decide +kernel)) ggX10_matches_X10_isHit
set_option maxRecDepth 20000 in
theorem ggX10_hits_X10_isHit : GoodIn wsX10_hits wsX10_isHit := goodIn_r _ [5, 6, 7, 8, 9, 10, 11, 12, 13, 14, 15, 16, 17, 18, 19, 20, 21, 22, 23, 24, 25, 26, 27, 28, 29, 30, 31, 32, 33, 34, 35, 36, 37, 4, 38, 39, 40, 41, 42, 43, 44, 45, 46, 47, 48, 49, 50, 51, 52, 53, 54] (by decide +kernel) (by decide +kernel)
set_option maxRecDepth 20000 in
theorem gX10_hits_X10_isHit : GoodIn wsX10_hits (wsV RX10 115 RX10 yX10_isHit wsX10_isHit) := goodIn_app (goodIn_of _ (by decide +kernel)) ggX10_hits_X10_isHit
set_option maxRecDepth 20000 in
theorem ggX10_planKind_X2_make : GoodIn wsX10_planKind wsX2_make := goodIn_r _ [10, 11, 12, 13, 14, 15, 16, 17, 18, 19, 20, 21, 22, 23, 24, 25, 26, 27, 28, 29, 30, 31, 32, 33, 34, 35, 36, 37, 38, 39, 40, 41, 42, 43, 44, 45, 46, 47, 48, 49, 50, 51, 52, 53, 54, 55, 56, 57, 58, 59, 60, 61, 62, 63, 64, 65, 66, 67, 68, 69, 70, 71, 72, 73, 74, 75, 76, 77, 78, 79, 80, 81, 82, 83, 84, 85, 86, 87, 88, 89, 90, 91, 92, 93, 94, 95, 96, 97, 98, 99, 100, 101, 102, 103, 104, 105, 106, 107, 108, 109, 110, 111, 112, 113, 114, 115, 116, 117, 118, 119, 120, 121, 122, 123, 124, 125, 126, 127, 128, 129, 130, 131, 132, 133, 134, 135, 136, 137, 138, 139, 140, 141, 142, 143, 144, 145, 146, 147, 148, 149, 150, 151, 152, 153, 154, 155, 156, 157, 158, 159, 160, 161, 162, 163, 164, 165, 166, 167, 168, 169, 170, 171, 172, 173, 174, 175, 176, 177, 178, 179, 180, 181, 182, 183, 184, 185, 186, 187, 188, 189, 9, 190, 191, 192, 5, 193, 194, 195, 196, 197, 198, 199, 200, 201, 202, 203, 204, 205, 206, 207, 208, 209, 210, 211, 212, 213, 236, 237, 238, 239, 218, 219, 220, 221, 222, 223, 224, 225, 226, 227, 228, 229, 230, 231, 232, 233, 234, 235, 240, 241, 242, 243, 244, 245, 246, 247, 248, 249, 250, 251] (by decide +kernel) (by decide +kernel)
set_option maxRecDepth 20000 in
theorem gX10_planKind_X2_make : GoodIn wsX10_planKind (wsV RX10 118 RX2 yX2_make wsX2_make) := goodIn_app (goodIn_of _ (by decide +kernel)) ggX10_planKind_X2_make
set_option maxRecDepth 20000 in
theorem ggX10_planNeed_X2_make : GoodIn wsX10_planNeed wsX2_make := goodIn_r _ [12, 13, 14, 15, 16, 17, 18, 19, 20, 21, 22, 23, 24, 25, 26, 27, 28, 29, 30, 31, 32, 33, 34, 35, 36, 37, 38, 39, 40, 41, 42, 43, 44, 45, 46, 47, 48, 49, 50, 51, 52, 53, 54, 55, 56, 57, 58, 59, 60, 61, 62, 63, 64, 65, 66, 67, 68, 69, 70, 71, 72, 73, 74, 75, 76, 77, 78, 79, 80, 81, 82, 83, 84, 85, 86, 87, 88, 89, 90, 91, 92, 93, 94, 95, 96, 97, 98, 99, 100, 101, 102, 103, 104, 105, 106, 107, 108, 109, 110, 111, 112, 113, 114, 115, 116, 117, 118, 119, 120, 121, 122, 123, 124, 125, 126, 127, 128, 129, 130, 131, 132, 133, 134, 135, 136, 137, 138, 139, 140, 141, 142, 143, 144, 145, 146, 147, 148, 149, 150, 151, 152, 153, 154, 155, 156, 157, 158, 159, 160, 161, 162, 163, 164, 165, 166, 167, 168, 169, 170, 171, 172, 173, 174, 175, 176, 177, 178, 179, 180, 181, 182, 183, 184, 185, 186, 187, 188, 189, 190, 191, 11, 192, 193, 194, 5, 195, 7, 196, 197, 198, 199, 200, 201, 202, 203, 204, 205, 206, 207, 208, 209, 210, 211, 212, 213, 214, 237, 238, 239, 240, 219, 220, 221, 222, 223, 224, 225, 226, 227, 228, 229, 230, 231, 232, 233, 234, 235, 236, 241, 242, 243, 244, 245, 246, 247, 248, 249, 250, 251, 252] (by decide +kernel) (by decide +kernel)
set_option maxRecDepth 20000 in
theorem gX10_planNeed_X2_make : GoodIn wsX10_planNeed (wsV RX10 118 RX2 yX2_make wsX2_make) := goodIn_app (goodIn_of _ (by decide +kernel)) ggX10_planNeed_X2_make
set_option maxRecDepth 20000 in
theorem ggX10_planSize_X2_make : GoodIn wsX10_planSize wsX2_make := goodIn_r _ [10, 11, 12, 13, 14, 5, 15, 16, 17, 18, 19, 20, 21, 22, 23, 24, 25, 26, 27, 28, 29, 30, 31, 32, 33, 34, 35, 36, 37, 38, 39, 40, 41, 42, 43, 44, 45, 46, 47, 48, 49, 50, 51, 52, 53, 54, 55, 56, 57, 58, 59, 60, 61, 62, 63, 64, 65, 66, 67, 68, 69, 70, 71, 72, 73, 74, 75, 76, 77, 78, 79, 80, 81, 82, 83, 84, 85, 86, 87, 88, 89, 90, 91, 92, 93, 94, 95, 96, 97, 98, 99, 100, 101, 102, 103, 104, 105, 106, 107, 108, 109, 110, 111, 112, 113, 114, 115, 116, 117, 118, 119, 120, 121, 122, 123, 124, 125, 126, 127, 128, 129, 130, 131, 132, 133, 134, 135, 136, 137, 138, 139, 140, 141, 142, 143, 144, 145, 146, 147, 148, 149, 150, 151, 152, 153, 154, 155, 156, 157, 158, 159, 160, 161, 162, 163, 164, 165, 166, 167, 168, 169, 170, 171, 172, 173, 174, 175, 176, 177, 178, 179, 180, 181, 182, 183, 184, 185, 186, 187, 188, 9, 189, 190, 191, 192, 193, 194, 195, 196, 197, 198, 199, 200, 201, 202, 203, 204, 205, 206, 207, 208, 209, 210, 211, 212, 213, 236, 237, 238, 239, 218, 219, 220, 221, 222, 223, 224, 225, 226, 227, 228, 229, 230, 231, 232, 233, 234, 235, 240, 241, 242, 243, 244, 245, 246, 247, 248, 249, 250, 251] (by decide +kernel) (by decide +kernel)
set_option maxRecDepth 20000 in
theorem gX10_planSize_X2_make : GoodIn wsX10_planSize (wsV RX10 118 RX2 yX2_make wsX2_make) := goodIn_app (goodIn_of _ (by decide +kernel)) ggX10_planSize_X2_make
set_option maxRecDepth 20000 in
theorem ggX10_estimate_X2_make : GoodIn wsX10_estimate wsX2_make := goodIn_r _ [10, 11, 12, 13, 14, 15, 16, 17, 18, 19, 20, 21, 22, 23, 24, 25, 26, 27, 28, 29, 30, 31, 32, 33, 34, 35, 36, 37, 38, 39, 40, 41, 42, 43, 44, 45, 46, 47, 48, 49, 50, 51, 52, 53, 54, 55, 56, 57, 58, 59, 60, 61, 62, 63, 64, 65, 66, 67, 68, 69, 70, 71, 72, 73, 74, 75, 76, 77, 78, 79, 80, 81, 82, 83, 84, 85, 86, 87, 88, 89, 90, 91, 92, 93, 94, 95, 96, 97, 98, 99, 100, 101, 102, 103, 104, 105, 106, 107, 108, 109, 110, 111, 112, 113, 114, 115, 116, 117, 118, 119, 120, 121, 122, 123, 124, 125, 126, 127, 128, 129, 130, 131, 132, 133, 134, 135, 136, 137, 138, 139, 140, 141, 142, 143, 144, 145, 146, 147, 148, 149, 150, 151, 152, 153, 154, 155, 156, 157, 158, 159, 160, 161, 162, 163, 164, 165, 166, 167, 168, 169, 170, 171, 172, 173, 174, 175, 176, 177, 178, 179, 180, 181, 182, 183, 184, 185, 186, 187, 188, 189, 9, 190, 191, 192, 193, 194, 195, 196, 197, 198, 199, 200, 201, 202, 203, 204, 205, 206, 207, 208, 209, 210, 211, 212, 213, 214, 243, 244, 245, 246, 219, 220, 221, 222, 223, 224, 225, 226, 227, 228, 229, 230, 231, 232, 233, 234, 235, 236, 247, 237, 238, 239, 240, 241, 242, 248, 249, 250, 251, 252] (by decide +kernel) (by decide +kernel)
set_option maxRecDepth 20000 in
theorem gX10_estimate_X2_make : GoodIn wsX10_estimate (wsV RX10 118 RX2 yX2_make wsX2_make) := goodIn_app (goodIn_of _ (by decide +kernel)) ggX10_estimate_X2_make
set_option maxRecDepth 20000 in
theorem ggX10_clauseAt_X10_plannedClause : GoodIn wsX10_clauseAt wsX10_plannedClause := goodIn_ca (goodIn_r _ [7, 8, 9, 10, 11, 12, 13, 14, 15, 16, 17, 18, 19, 20, 21, 22, 23, 24, 25, 26, 27, 28, 29, 30, 31, 32, 33, 34, 35, 36, 37, 38, 39, 40, 41, 42, 43, 44, 45, 46, 47, 48, 49, 50, 51, 52, 53, 54, 55, 56, 57, 58, 59, 60, 61, 62, 63, 64, 65, 66, 67, 68, 69, 70, 71, 72, 73, 74, 75, 76, 77, 78, 79, 80, 81, 82, 83, 84, 85, 86, 87, 88, 89, 90, 91, 92, 93, 6, 94, 95, 96, 97, 98, 99, 100, 101, 102, 103, 104, 105, 106, 107, 108, 109, 110, 111, 112, 113, 114, 115, 116, 117, 118, 119, 120, 121, 122, 123, 124, 125, 126, 127, 128, 129, 130, 131, 132, 133, 134, 135, 136, 137, 138, 139, 140, 141, 142, 143, 144, 145, 146, 147, 148, 149, 150, 151, 152, 153, 154, 155, 156, 157, 158, 159, 160, 161, 162, 163, 164, 165, 166, 167, 168, 169, 170, 171, 172, 173, 174, 175, 176, 177, 178, 179, 180, 181, 182, 183, 184, 185, 186, 187, 188, 189, 190, 191, 192, 193, 194, 195, 196, 197, 198, 199, 200, 201, 202, 203, 204, 205, 206, 207, 208, 209, 210, 211, 212, 213, 214, 215, 216, 217, 218, 219, 220, 221, 222, 223, 224, 225, 226, 227, 228, 253, 254, 255, 256, 257, 258, 259, 260, 229, 230, 231, 232, 233, 234, 235, 236, 237, 238, 239, 240, 241, 242, 243, 244, 245, 246, 261, 247, 248, 249, 250, 251, 252, 262, 263, 264, 265, 266] (by decide +kernel) (by decide +kernel)) (goodIn_sub (fun _ h => List.mem_cons_of_mem _ (List.mem_append_right _ h)) (by decide +kernel))
set_option maxRecDepth 20000 in
theorem gX10_clauseAt_X10_plannedClause : GoodIn wsX10_clauseAt (wsV RX10 132 RX10 yX10_plannedClause wsX10_plannedClause) := goodIn_app (goodIn_of _ (by decide +kernel)) ggX10_clauseAt_X10_plannedClause
set_option maxRecDepth 20000 in
theorem ggX10_kindAt_X10_plannedClause : GoodIn wsX10_kindAt wsX10_plannedClause := goodIn_ca (goodIn_r _ [7, 8, 9, 10, 11, 12, 13, 14, 15, 16, 17, 18, 19, 20, 21, 22, 23, 24, 25, 26, 27, 28, 29, 30, 31, 32, 33, 34, 35, 36, 37, 38, 39, 40, 41, 42, 43, 44, 45, 46, 47, 48, 49, 50, 51, 52, 53, 54, 55, 56, 57, 58, 59, 60, 61, 62, 63, 64, 65, 66, 67, 68, 69, 2, 70, 71, 72, 73, 74, 75, 76, 77, 78, 79, 80, 81, 82, 83, 84, 85, 86, 87, 88, 89, 90, 91, 92, 6, 93, 94, 95, 96, 97, 98, 99, 100, 101, 102, 103, 104, 105, 106, 107, 108, 109, 110, 111, 112, 113, 114, 115, 116, 117, 118, 119, 120, 121, 122, 123, 124, 125, 126, 127, 128, 129, 130, 131, 132, 133, 134, 135, 136, 137, 138, 139, 140, 141, 142, 143, 144, 145, 146, 147, 148, 149, 150, 151, 152, 153, 154, 155, 156, 157, 158, 159, 160, 161, 162, 163, 164, 165, 166, 167, 168, 169, 170, 171, 172, 173, 174, 175, 176, 177, 178, 179, 180, 181, 182, 183, 184, 185, 186, 187, 188, 189, 190, 191, 192, 193, 194, 195, 196, 197, 198, 199, 200, 201, 202, 203, 204, 205, 206, 207, 208, 209, 210, 211, 212, 213, 214, 215, 216, 217, 218, 219, 220, 221, 222, 223, 224, 225, 226, 227, 246, 247, 248, 249, 250, 251, 252, 253, 228, 229, 230, 231, 232, 233, 234, 235, 236, 237, 238, 239, 240, 241, 242, 243, 244, 245, 254, 255, 256, 257, 258, 259, 260, 261, 262, 263, 264, 265] (by decide +kernel) (by decide +kernel)) (goodIn_sub (fun _ h => List.mem_cons_of_mem _ (List.mem_append_right _ h)) (by decide +kernel))
set_option maxRecDepth 20000 in
theorem gX10_kindAt_X10_plannedClause : GoodIn wsX10_kindAt (wsV RX10 132 RX10 yX10_plannedClause wsX10_plannedClause) := goodIn_app (goodIn_of _ (by decide +kernel)) ggX10_kindAt_X10_plannedClause
set_option maxRecDepth 20000 in
theorem ggX10_estimateAt_X10_plannedClause : GoodIn wsX10_estimateAt wsX10_plannedClause := goodIn_ca (goodIn_r _ [7, 8, 9, 10, 11, 12, 13, 14, 15, 16, 17, 18, 19, 20, 21, 22, 23, 24, 25, 26, 27, 28, 29, 30, 31, 32, 33, 34, 35, 36, 37, 38, 39, 40, 41, 42, 43, 44, 45, 46, 47, 48, 49, 50, 51, 52, 53, 54, 55, 56, 57, 58, 59, 60, 61, 62, 63, 64, 65, 66, 67, 68, 69, 70, 71, 72, 73, 74, 75, 76, 77, 78, 79, 80, 81, 82, 83, 84, 85, 86, 87, 88, 89, 90, 91, 92, 93, 6, 94, 95, 96, 97, 98, 99, 100, 101, 102, 103, 104, 105, 106, 107, 108, 109, 110, 111, 112, 113, 114, 115, 116, 117, 118, 119, 120, 121, 122, 123, 124, 125, 126, 127, 128, 129, 130, 131, 132, 133, 134, 135, 136, 137, 138, 139, 140, 141, 142, 143, 144, 145, 146, 147, 148, 149, 150, 151, 152, 153, 154, 155, 156, 157, 158, 159, 160, 161, 162, 163, 164, 165, 166, 167, 168, 169, 170, 171, 172, 173, 174, 175, 176, 177, 178, 179, 180, 181, 182, 183, 184, 185, 186, 187, 188, 189, 190, 191, 192, 193, 194, 195, 196, 197, 198, 199, 200, 201, 202, 203, 204, 205, 206, 207, 208, 209, 210, 211, 212, 213, 214, 215, 216, 217, 218, 219, 220, 221, 222, 223, 224, 225, 226, 227, 228, 253, 254, 255, 256, 257, 258, 259, 260, 229, 230, 231, 232, 233, 234, 235, 236, 237, 238, 239, 240, 241, 242, 243, 244, 245, 246, 261, 247, 248, 249, 250, 251, 252, 262, 263, 264, 265, 266] (by decide +kernel) (by decide +kernel)) (goodIn_sub (fun _ h => List.mem_cons_of_mem _ (List.mem_append_right _ h)) (by decide +kernel))
set_option maxRecDepth 20000 in
theorem gX10_estimateAt_X10_plannedClause : GoodIn wsX10_estimateAt (wsV RX10 132 RX10 yX10_plannedClause wsX10_plannedClause) := goodIn_app (goodIn_of _ (by decide +kernel)) ggX10_estimateAt_X10_plannedClause
set_option maxRecDepth 20000 in
theorem ggX10_literalAt_X10_plannedClause : GoodIn wsX10_literalAt wsX10_plannedClause := goodIn_ca (goodIn_r _ [8, 1, 2, 9, 10, 11, 12, 13, 14, 15, 16, 17, 18, 19, 20, 21, 22, 23, 24, 25, 26, 27, 28, 29, 30, 31, 32, 33, 34, 35, 36, 37, 38, 39, 40, 41, 42, 43, 44, 45, 46, 47, 48, 49, 50, 51, 52, 53, 54, 55, 56, 57, 58, 59, 60, 61, 62, 63, 64, 65, 66, 67, 68, 69, 70, 71, 72, 73, 74, 75, 76, 77, 78, 79, 80, 81, 82, 83, 84, 85, 86, 87, 88, 89, 90, 91, 92, 7, 93, 94, 95, 96, 97, 98, 99, 100, 101, 102, 103, 104, 105, 106, 107, 108, 109, 110, 111, 112, 113, 114, 115, 116, 117, 118, 119, 120, 121, 122, 123, 124, 125, 126, 127, 128, 129, 130, 131, 132, 133, 134, 135, 136, 137, 138, 139, 140, 141, 142, 143, 144, 145, 146, 147, 148, 149, 150, 151, 152, 153, 154, 155, 156, 157, 158, 159, 160, 161, 162, 163, 164, 165, 166, 167, 168, 169, 170, 171, 172, 173, 174, 175, 176, 177, 178, 179, 180, 181, 182, 183, 184, 185, 186, 187, 188, 189, 190, 191, 192, 193, 194, 195, 196, 197, 198, 199, 200, 201, 202, 203, 204, 205, 206, 207, 208, 209, 210, 211, 212, 213, 214, 215, 216, 217, 218, 219, 220, 221, 222, 223, 224, 225, 226, 227, 253, 254, 255, 256, 257, 258, 259, 260, 229, 230, 231, 232, 233, 234, 235, 236, 237, 238, 239, 240, 241, 242, 243, 244, 245, 246, 261, 247, 248, 249, 250, 251, 252, 262, 263, 264, 265, 266] (by decide +kernel) (by decide +kernel)) (goodIn_sub (fun _ h => List.mem_cons_of_mem _ (List.mem_append_right _ h)) (by decide +kernel))
set_option maxRecDepth 20000 in
theorem gX10_literalAt_X10_plannedClause : GoodIn wsX10_literalAt (wsV RX10 132 RX10 yX10_plannedClause wsX10_plannedClause) := goodIn_app (goodIn_of _ (by decide +kernel)) ggX10_literalAt_X10_plannedClause
set_option maxRecDepth 20000 in
theorem ggX10_literalAt_X0_partAt : GoodIn wsX10_literalAt wsX0_partAt := goodIn_r _ [104, 36, 105, 229, 230, 231, 232, 233, 234, 235, 236, 237, 238, 239, 240, 241, 242, 243, 244, 245, 246] (by decide +kernel) (by decide +kernel)
set_option maxRecDepth 20000 in
theorem gX10_literalAt_X0_partAt_u143X3 : GoodIn wsX10_literalAt (va_wsU RX10 143 RX3 "PostingPlanner$Group" ⟨"PostingPlanner$PlannedClause", "partAt", "(I)LPostingPlanner$Part;"⟩ yX0_partAt wsX0_partAt) := goodIn_app (goodIn_of _ (by decide +kernel)) ggX10_literalAt_X0_partAt
set_option maxRecDepth 20000 in
theorem ggX10_begin_X6_restart : GoodIn wsX10_begin wsX6_restart := goodIn_r _ [8, 9, 10, 11, 12, 13, 14, 15, 16, 17, 18, 19, 20, 21, 22, 23, 24, 25, 26, 27, 28, 29, 30, 31, 32, 33, 34, 35, 36, 37, 38, 39, 40, 41, 42, 43, 44, 45, 46, 47, 48, 49, 50, 51, 52, 53, 54, 55, 56, 57, 58, 59, 60, 61, 62, 63, 64, 65, 66, 67, 68, 69, 70, 71, 72, 73, 74, 75, 76, 77, 78, 79, 80, 81, 82, 83, 84, 85, 86, 87, 88, 89, 90, 91, 92, 93, 94, 95, 96, 97, 98, 99, 100, 101, 102, 103, 104, 105, 106, 107, 108, 109, 110, 111, 112, 113, 114, 115, 116, 117, 118, 119, 120, 121, 122, 123, 124, 125, 126, 127, 128, 129, 130, 131, 132, 133, 134, 135, 136, 137, 138, 139, 140, 141, 142, 143, 144, 145, 146, 147, 148, 149, 150, 151, 152, 153, 154, 155, 156, 157, 158, 159, 160, 161, 162, 163, 164, 165, 166, 167, 168, 169, 170, 171, 172, 173, 174, 175, 176, 177, 178, 179, 180, 181, 182, 183, 184, 185, 186, 187, 188, 189, 190, 191, 192, 193, 194, 195, 196, 197, 198, 199, 200, 201, 202, 203, 204, 205, 206, 207, 208, 209, 210, 211, 212, 213, 214, 215, 216, 217, 218, 219, 220, 221, 222, 223, 224, 229, 230, 231, 232, 233, 234, 235, 236, 237, 238, 239, 240, 241, 242, 243, 244, 245, 246, 247, 248, 249, 250, 251, 252, 253, 254, 255, 256, 257, 258, 259, 260, 261, 262, 263, 264, 265, 266, 267] (by decide +kernel) (by decide +kernel)
set_option maxRecDepth 20000 in
theorem gX10_begin_X6_restart : GoodIn wsX10_begin (wsV RX10 152 RX6 yX6_restart wsX6_restart) := goodIn_app (goodIn_of _ (by decide +kernel)) ggX10_begin_X6_restart
set_option maxRecDepth 20000 in
theorem ggX10_leap_X10_checkDocument : GoodIn wsX10_leap wsX10_checkDocument := goodIn_ca (goodIn_r _ [6, 7, 8] (by decide +kernel) (by decide +kernel)) (goodIn_sub (fun _ h => List.mem_cons_of_mem _ (List.mem_append_left _ (List.mem_append_right _ h))) (by decide +kernel))
set_option maxRecDepth 20000 in
theorem gX10_leap_X10_checkDocument : GoodIn wsX10_leap (wsV RX10 42 RX10 yX10_checkDocument wsX10_checkDocument) := goodIn_app (goodIn_of _ (by decide +kernel)) ggX10_leap_X10_checkDocument
set_option maxRecDepth 20000 in
theorem ggX10_leap_X10_checkRun : GoodIn wsX10_leap wsX10_checkRun := goodIn_ca (goodIn_r _ [12, 13, 14, 1, 15, 109, 110, 111, 112, 113, 114, 115, 116] (by decide +kernel) (by decide +kernel)) (goodIn_sub (fun _ h => List.mem_cons_of_mem _ (List.mem_append_right _ h)) (by decide +kernel))
set_option maxRecDepth 20000 in
theorem gX10_leap_X10_checkRun : GoodIn wsX10_leap (wsV RX10 155 RX10 yX10_checkRun wsX10_checkRun) := goodIn_app (goodIn_of _ (by decide +kernel)) ggX10_leap_X10_checkRun
set_option maxRecDepth 20000 in
theorem ggX10_leap_X6_advance : GoodIn wsX10_leap wsX6_advance := goodIn_r _ [20, 21, 22, 23, 24, 25, 26, 27, 28, 29, 30, 31, 32, 33, 34, 35, 36, 37, 38, 39, 40, 41, 42, 43, 44, 45, 46, 47, 48, 49, 50, 51, 52, 5, 53, 54, 55, 56, 57, 58, 59, 60, 61, 62, 63, 64, 65, 66, 67, 68, 69, 70, 71, 72, 73, 74, 75, 76, 77, 78, 79, 80, 81, 82, 83, 84, 85, 86, 87, 88, 89, 90, 91, 92, 93, 94, 95, 96, 97, 98, 99, 100, 101, 102, 103, 104, 105, 106, 107, 108, 113, 114, 115, 116, 117, 118, 119, 120, 121, 122, 123, 124, 125, 126, 127, 128, 129, 130, 131, 132, 133, 134, 135, 136, 137, 138, 139, 140, 141] (by decide +kernel) (by decide +kernel)
set_option maxRecDepth 20000 in
theorem gX10_leap_X6_advance : GoodIn wsX10_leap (wsV RX10 158 RX6 yX6_advance wsX6_advance) := goodIn_app (goodIn_of _ (by decide +kernel)) ggX10_leap_X6_advance
set_option maxRecDepth 20000 in
theorem ggX10_next_X10_checkRun : GoodIn wsX10_next wsX10_checkRun := goodIn_ca (goodIn_r _ [6, 7, 8, 1, 9, 103, 104, 105, 106, 107, 108, 109, 110] (by decide +kernel) (by decide +kernel)) (goodIn_sub (fun _ h => List.mem_cons_of_mem _ (List.mem_append_right _ h)) (by decide +kernel))
set_option maxRecDepth 20000 in
theorem gX10_next_X10_checkRun : GoodIn wsX10_next (wsV RX10 155 RX10 yX10_checkRun wsX10_checkRun) := goodIn_app (goodIn_of _ (by decide +kernel)) ggX10_next_X10_checkRun
set_option maxRecDepth 20000 in
theorem ggX10_next_X6_advance : GoodIn wsX10_next wsX6_advance := goodIn_r _ [14, 15, 16, 17, 18, 19, 20, 21, 22, 23, 24, 25, 26, 27, 28, 29, 30, 31, 32, 33, 34, 35, 36, 37, 38, 39, 40, 41, 42, 43, 44, 45, 46, 5, 47, 48, 49, 50, 51, 52, 53, 54, 55, 56, 57, 58, 59, 60, 61, 62, 63, 64, 65, 66, 67, 68, 69, 70, 71, 72, 73, 74, 75, 76, 77, 78, 79, 80, 81, 82, 83, 84, 85, 86, 87, 88, 89, 90, 91, 92, 93, 94, 95, 96, 97, 98, 99, 100, 101, 102, 107, 108, 109, 110, 111, 112, 113, 114, 115, 116, 117, 118, 119, 120, 121, 122, 123, 124, 125, 126, 127, 128, 129, 130, 131, 132, 133, 134, 135] (by decide +kernel) (by decide +kernel)
set_option maxRecDepth 20000 in
theorem gX10_next_X6_advance : GoodIn wsX10_next (wsV RX10 158 RX6 yX6_advance wsX6_advance) := goodIn_app (goodIn_of _ (by decide +kernel)) ggX10_next_X6_advance
set_option maxRecDepth 20000 in
theorem ggX10_readings_X10_checkRun : GoodIn wsX10_readings wsX10_checkRun := goodIn_ca (goodIn_r _ [8, 9, 10, 1, 11, 12, 13, 14, 15, 16, 17, 18, 19] (by decide +kernel) (by decide +kernel)) (goodIn_sub (fun _ h => List.mem_cons_of_mem _ (List.mem_append_right _ h)) (by decide +kernel))
set_option maxRecDepth 20000 in
theorem gX10_readings_X10_checkRun : GoodIn wsX10_readings (wsV RX10 155 RX10 yX10_checkRun wsX10_checkRun) := goodIn_app (goodIn_of _ (by decide +kernel)) ggX10_readings_X10_checkRun
set_option maxRecDepth 20000 in
theorem ggX10_isHit_X7_wordsAt : GoodIn wsX10_isHit wsX7_wordsAt := goodIn_r _ [7, 8, 41] (by decide +kernel) (by decide +kernel)
set_option maxRecDepth 20000 in
theorem gX10_isHit_X7_wordsAt : GoodIn wsX10_isHit (wsV RX10 183 RX7 yX7_wordsAt wsX7_wordsAt) := goodIn_app (goodIn_of _ (by decide +kernel)) ggX10_isHit_X7_wordsAt
set_option maxRecDepth 20000 in
theorem ggX10_isHit_X5_isTrueOf : GoodIn wsX10_isHit wsX5_isTrueOf := goodIn_r _ [13, 14, 15, 16, 17, 18, 19, 12, 20, 21, 22, 23, 24, 25, 26, 27, 28, 29, 30, 31, 32, 33, 34, 35, 36, 42, 43, 44, 45, 46, 47, 48, 49, 50] (by decide +kernel) (by decide +kernel)
set_option maxRecDepth 20000 in
theorem gX10_isHit_X5_isTrueOf : GoodIn wsX10_isHit (wsV RX10 186 RX5 yX5_isTrueOf wsX5_isTrueOf) := goodIn_app (goodIn_of _ (by decide +kernel)) ggX10_isHit_X5_isTrueOf
set_option maxRecDepth 20000 in
theorem ggX10_plannedClause_X2_make : GoodIn wsX10_plannedClause wsX2_make := goodIn_r _ [10, 11, 12, 13, 14, 15, 16, 17, 18, 19, 20, 21, 22, 23, 24, 25, 26, 27, 28, 29, 30, 31, 32, 33, 34, 35, 36, 37, 38, 39, 40, 41, 42, 43, 44, 45, 46, 47, 48, 49, 50, 51, 52, 53, 54, 55, 56, 57, 58, 59, 60, 61, 62, 63, 64, 65, 66, 67, 68, 69, 70, 71, 72, 73, 74, 75, 76, 77, 78, 79, 80, 81, 82, 83, 84, 85, 86, 87, 88, 89, 90, 91, 92, 93, 94, 95, 96, 97, 98, 99, 100, 101, 102, 103, 104, 105, 106, 107, 108, 109, 110, 111, 112, 113, 114, 115, 116, 117, 118, 119, 120, 121, 122, 123, 124, 125, 126, 127, 128, 129, 130, 131, 132, 133, 134, 135, 136, 137, 138, 139, 140, 141, 142, 143, 144, 145, 146, 147, 148, 149, 150, 151, 152, 153, 154, 155, 156, 157, 158, 159, 160, 161, 162, 163, 164, 165, 166, 167, 168, 169, 170, 171, 172, 173, 174, 175, 176, 177, 178, 179, 180, 181, 182, 183, 184, 185, 186, 187, 188, 189, 9, 190, 191, 192, 193, 194, 195, 196, 197, 198, 199, 200, 201, 202, 203, 204, 205, 206, 207, 208, 209, 210, 211, 212, 213, 214, 227, 228, 229, 230, 231, 232, 233, 234, 235, 236, 237, 238, 239, 240, 241, 242, 243, 244, 245, 246, 247, 248, 249, 250, 251, 252, 253, 254, 255, 256, 257, 258, 259, 260] (by decide +kernel) (by decide +kernel)
set_option maxRecDepth 20000 in
theorem gX10_plannedClause_X2_make : GoodIn wsX10_plannedClause (wsV RX10 118 RX2 yX2_make wsX2_make) := goodIn_app (goodIn_of _ (by decide +kernel)) ggX10_plannedClause_X2_make
set_option maxRecDepth 20000 in
theorem ggX10_plannedClause_X2_plannedAt : GoodIn wsX10_plannedClause wsX2_plannedAt := goodIn_r _ [218, 219, 13, 220, 221, 222, 98, 26, 99, 30, 100, 231, 232, 233, 234, 235, 236, 237, 238, 239, 240, 241, 242, 243, 244, 245, 246, 247, 248, 250, 251, 252, 253, 254, 255] (by decide +kernel) (by decide +kernel)
set_option maxRecDepth 20000 in
theorem gX10_plannedClause_X2_plannedAt : GoodIn wsX10_plannedClause (wsV RX10 189 RX2 yX2_plannedAt wsX2_plannedAt) := goodIn_app (goodIn_of _ (by decide +kernel)) ggX10_plannedClause_X2_plannedAt
set_option maxRecDepth 20000 in
theorem ggX11_isDocument_X11_in : GoodIn wsX11_isDocument wsX11_in := goodIn_r _ [4] (by decide +kernel) (by decide +kernel)
set_option maxRecDepth 20000 in
theorem gX11_isDocument_X11_in : GoodIn wsX11_isDocument (va_wsS RX11 78 yX11_in wsX11_in) := goodIn_app (goodIn_of _ (by decide +kernel)) ggX11_isDocument_X11_in
set_option maxRecDepth 20000 in
theorem ggX11_put_X11_isDocument : GoodIn wsX11_put wsX11_isDocument := goodIn_r _ [6, 7, 8, 5, 9] (by decide +kernel) (by decide +kernel)
set_option maxRecDepth 20000 in
theorem gX11_put_X11_isDocument : GoodIn wsX11_put (va_wsS RX11 82 yX11_isDocument wsX11_isDocument) := goodIn_app (goodIn_of _ (by decide +kernel)) ggX11_put_X11_isDocument
set_option maxRecDepth 20000 in
theorem ggX11_put_X11_in : GoodIn wsX11_put wsX11_in := goodIn_r _ [9] (by decide +kernel) (by decide +kernel)
set_option maxRecDepth 20000 in
theorem gX11_put_X11_in : GoodIn wsX11_put (va_wsS RX11 78 yX11_in wsX11_in) := goodIn_app (goodIn_of _ (by decide +kernel)) ggX11_put_X11_in
set_option maxRecDepth 20000 in
theorem ggX11_put_X11_goes : GoodIn wsX11_put wsX11_goes := goodIn_r _ [13, 14, 15, 16, 17, 18, 19, 20, 21, 22, 23, 24, 25, 26, 27, 28, 29, 30, 31, 32, 33, 34, 35, 36, 37, 38, 39, 40, 41, 42, 43, 44, 45, 46, 47, 48, 49] (by decide +kernel) (by decide +kernel)
set_option maxRecDepth 20000 in
theorem gX11_put_X11_goes : GoodIn wsX11_put (wsV RX11 86 RX11 yX11_goes wsX11_goes) := goodIn_app (goodIn_of _ (by decide +kernel)) ggX11_put_X11_goes
set_option maxRecDepth 20000 in
theorem ggX11_drop_X11_isDocument : GoodIn wsX11_drop wsX11_isDocument := goodIn_r _ [5, 6, 7, 4, 8] (by decide +kernel) (by decide +kernel)
set_option maxRecDepth 20000 in
theorem gX11_drop_X11_isDocument : GoodIn wsX11_drop (va_wsS RX11 82 yX11_isDocument wsX11_isDocument) := goodIn_app (goodIn_of _ (by decide +kernel)) ggX11_drop_X11_isDocument
set_option maxRecDepth 20000 in
theorem ggX11_drop_X11_goes : GoodIn wsX11_drop wsX11_goes := goodIn_r _ [12, 13, 14, 15, 16, 17, 18, 19, 20, 21, 22, 23, 24, 25, 26, 27, 28, 29, 30, 31, 32, 33, 34, 35, 36, 37, 38, 39, 40, 41, 42, 43, 44, 45, 46, 47, 48] (by decide +kernel) (by decide +kernel)
set_option maxRecDepth 20000 in
theorem gX11_drop_X11_goes : GoodIn wsX11_drop (wsV RX11 86 RX11 yX11_goes wsX11_goes) := goodIn_app (goodIn_of _ (by decide +kernel)) ggX11_drop_X11_goes
set_option maxRecDepth 20000 in
theorem ggX11_documents_X11_many : GoodIn wsX11_documents wsX11_many := goodIn_r _ [6, 7, 8, 9, 10, 11, 12, 13, 14, 15, 16, 17, 18, 19, 20, 21, 22, 23, 24, 25, 26, 27, 28, 29, 30, 31, 32, 33, 34, 35, 36, 37, 38, 39, 40, 41, 42] (by decide +kernel) (by decide +kernel)
set_option maxRecDepth 20000 in
theorem gX11_documents_X11_many : GoodIn wsX11_documents (wsV RX11 90 RX11 yX11_many wsX11_many) := goodIn_app (goodIn_of _ (by decide +kernel)) ggX11_documents_X11_many
set_option maxRecDepth 20000 in
theorem ggX11_count0_X11_isTrue : GoodIn wsX11_count0 wsX11_isTrue := goodIn_r _ [6] (by decide +kernel) (by decide +kernel)
set_option maxRecDepth 20000 in
theorem gX11_count0_X11_isTrue : GoodIn wsX11_count0 (va_wsS RX11 94 yX11_isTrue wsX11_isTrue) := goodIn_app (goodIn_of _ (by decide +kernel)) ggX11_count0_X11_isTrue
set_option maxRecDepth 20000 in
theorem ggX11_count_X11_in : GoodIn wsX11_count wsX11_in := goodIn_r _ [4] (by decide +kernel) (by decide +kernel)
set_option maxRecDepth 20000 in
theorem gX11_count_X11_in : GoodIn wsX11_count (va_wsS RX11 78 yX11_in wsX11_in) := goodIn_app (goodIn_of _ (by decide +kernel)) ggX11_count_X11_in
set_option maxRecDepth 20000 in
theorem ggX11_count_X11_goes : GoodIn wsX11_count wsX11_goes := goodIn_r _ [8, 9, 19, 20, 21, 22, 23, 24, 25, 26, 27, 28, 29, 30, 31, 32, 33, 34, 35, 36, 37, 38, 39, 40, 41, 42, 43, 44, 45, 46, 47, 48, 49, 50, 51, 52, 53] (by decide +kernel) (by decide +kernel)
set_option maxRecDepth 20000 in
theorem gX11_count_X11_goes : GoodIn wsX11_count (wsV RX11 86 RX11 yX11_goes wsX11_goes) := goodIn_app (goodIn_of _ (by decide +kernel)) ggX11_count_X11_goes
set_option maxRecDepth 20000 in
theorem ggX11_count_X11_count0 : GoodIn wsX11_count wsX11_count0 := goodIn_r _ [13, 14, 15, 16, 17, 3, 18, 19, 20, 21, 22, 23, 24, 25, 26, 27, 28, 29, 30, 31, 32, 33, 34, 35, 36, 37, 38, 39, 40, 41, 42, 43, 44, 45, 46, 47, 48, 49, 50, 51, 52, 53] (by decide +kernel) (by decide +kernel)
set_option maxRecDepth 20000 in
theorem gX11_count_X11_count0 : GoodIn wsX11_count (wsV RX11 98 RX11 yX11_count0 wsX11_count0) := goodIn_app (goodIn_of _ (by decide +kernel)) ggX11_count_X11_count0
set_option maxRecDepth 20000 in
theorem ggX11_fits_X11_in : GoodIn wsX11_fits wsX11_in := goodIn_r _ [4] (by decide +kernel) (by decide +kernel)
set_option maxRecDepth 20000 in
theorem gX11_fits_X11_in : GoodIn wsX11_fits (va_wsS RX11 78 yX11_in wsX11_in) := goodIn_app (goodIn_of _ (by decide +kernel)) ggX11_fits_X11_in
set_option maxRecDepth 20000 in
theorem ggX11_ask_X11_fits : GoodIn wsX11_ask wsX11_fits := goodIn_r _ [7, 8, 9, 6, 10] (by decide +kernel) (by decide +kernel)
set_option maxRecDepth 20000 in
theorem gX11_ask_X11_fits : GoodIn wsX11_ask (va_wsS RX11 102 yX11_fits wsX11_fits) := goodIn_app (goodIn_of _ (by decide +kernel)) ggX11_ask_X11_fits
set_option maxRecDepth 20000 in
theorem ggX11_ask_X11_goes : GoodIn wsX11_ask wsX11_goes := goodIn_r _ [14, 15, 16, 17, 18, 19, 20, 21, 22, 23, 24, 25, 26, 27, 28, 29, 30, 31, 32, 33, 34, 35, 36, 37, 38, 39, 40, 41, 42, 43, 44, 45, 46, 47, 48, 49, 50] (by decide +kernel) (by decide +kernel)
set_option maxRecDepth 20000 in
theorem gX11_ask_X11_goes : GoodIn wsX11_ask (wsV RX11 86 RX11 yX11_goes wsX11_goes) := goodIn_app (goodIn_of _ (by decide +kernel)) ggX11_ask_X11_goes
set_option maxRecDepth 20000 in
theorem ggX11_clause_X11_fits : GoodIn wsX11_clause wsX11_fits := goodIn_r _ [9, 10, 11, 8, 12] (by decide +kernel) (by decide +kernel)
set_option maxRecDepth 20000 in
theorem gX11_clause_X11_fits : GoodIn wsX11_clause (va_wsS RX11 102 yX11_fits wsX11_fits) := goodIn_app (goodIn_of _ (by decide +kernel)) ggX11_clause_X11_fits
set_option maxRecDepth 20000 in
theorem ggX11_clause_X11_goes : GoodIn wsX11_clause wsX11_goes := goodIn_r _ [16, 17, 18, 19, 20, 21, 22, 23, 24, 25, 26, 27, 28, 29, 30, 31, 32, 33, 34, 35, 36, 37, 38, 39, 40, 41, 42, 43, 44, 45, 46, 47, 48, 49, 50, 51, 52] (by decide +kernel) (by decide +kernel)
set_option maxRecDepth 20000 in
theorem gX11_clause_X11_goes : GoodIn wsX11_clause (wsV RX11 86 RX11 yX11_goes wsX11_goes) := goodIn_app (goodIn_of _ (by decide +kernel)) ggX11_clause_X11_goes
set_option maxRecDepth 20000 in
theorem ggX11_literal_X11_in : GoodIn wsX11_literal wsX11_in := goodIn_r _ [7] (by decide +kernel) (by decide +kernel)
set_option maxRecDepth 20000 in
theorem gX11_literal_X11_in : GoodIn wsX11_literal (va_wsS RX11 78 yX11_in wsX11_in) := goodIn_app (goodIn_of _ (by decide +kernel)) ggX11_literal_X11_in
set_option maxRecDepth 20000 in
theorem ggX11_literal_X11_goes : GoodIn wsX11_literal wsX11_goes := goodIn_r _ [11, 12, 13, 14, 15, 16, 17, 18, 19, 20, 21, 22, 23, 24, 25, 26, 27, 28, 29, 30, 31, 32, 33, 34, 35, 36, 37, 38, 39, 40, 41, 42, 43, 44, 45, 46, 47] (by decide +kernel) (by decide +kernel)
set_option maxRecDepth 20000 in
theorem gX11_literal_X11_goes : GoodIn wsX11_literal (wsV RX11 86 RX11 yX11_goes wsX11_goes) := goodIn_app (goodIn_of _ (by decide +kernel)) ggX11_literal_X11_goes
set_option maxRecDepth 20000 in
theorem ggX11_isMatch_X11_isTrue : GoodIn wsX11_isMatch wsX11_isTrue := goodIn_r _ [14] (by decide +kernel) (by decide +kernel)
set_option maxRecDepth 20000 in
theorem gX11_isMatch_X11_isTrue : GoodIn wsX11_isMatch (va_wsS RX11 94 yX11_isTrue wsX11_isTrue) := goodIn_app (goodIn_of _ (by decide +kernel)) ggX11_isMatch_X11_isTrue
set_option maxRecDepth 20000 in
theorem ggX11_isMatch_X11_isBy : GoodIn wsX11_isMatch wsX11_isBy := goodIn_r _ [17] (by decide +kernel) (by decide +kernel)
set_option maxRecDepth 20000 in
theorem gX11_isMatch_X11_isBy : GoodIn wsX11_isMatch (va_wsS RX11 114 yX11_isBy wsX11_isBy) := goodIn_app (goodIn_of _ (by decide +kernel)) ggX11_isMatch_X11_isBy
set_option maxRecDepth 20000 in
theorem ggX11_matches_X11_isDocument : GoodIn wsX11_matches wsX11_isDocument := goodIn_r _ [4, 5, 6, 3, 7] (by decide +kernel) (by decide +kernel)
set_option maxRecDepth 20000 in
theorem gX11_matches_X11_isDocument : GoodIn wsX11_matches (va_wsS RX11 82 yX11_isDocument wsX11_isDocument) := goodIn_app (goodIn_of _ (by decide +kernel)) ggX11_matches_X11_isDocument
set_option maxRecDepth 20000 in
theorem ggX11_matches_X11_goes : GoodIn wsX11_matches wsX11_goes := goodIn_r _ [11, 12, 33, 34, 35, 36, 37, 38, 39, 40, 41, 42, 43, 44, 45, 46, 47, 48, 49, 50, 51, 52, 53, 54, 55, 56, 57, 58, 59, 60, 61, 62, 63, 64, 65, 66, 67] (by decide +kernel) (by decide +kernel)
set_option maxRecDepth 20000 in
theorem gX11_matches_X11_goes : GoodIn wsX11_matches (wsV RX11 86 RX11 yX11_goes wsX11_goes) := goodIn_app (goodIn_of _ (by decide +kernel)) ggX11_matches_X11_goes
set_option maxRecDepth 20000 in
theorem ggX11_matches_X11_isMatch : GoodIn wsX11_matches wsX11_isMatch := goodIn_r _ [16, 17, 18, 19, 20, 21, 22, 23, 24, 25, 26, 27, 28, 3, 29, 30, 31, 32, 33, 34, 35, 36, 37, 38, 39, 40, 41, 42, 43, 44, 45, 46, 47, 48, 49, 50, 51, 52, 53, 54, 55, 56, 57, 58, 59, 60, 61, 62, 63, 64, 65, 66, 67] (by decide +kernel) (by decide +kernel)
set_option maxRecDepth 20000 in
theorem gX11_matches_X11_isMatch : GoodIn wsX11_matches (wsV RX11 118 RX11 yX11_isMatch wsX11_isMatch) := goodIn_app (goodIn_of _ (by decide +kernel)) ggX11_matches_X11_isMatch
set_option maxRecDepth 20000 in
theorem ggX11_hits_X11_isMatch : GoodIn wsX11_hits wsX11_isMatch := goodIn_r _ [6, 7, 8, 9, 10, 11, 12, 13, 14, 15, 16, 17, 18, 5, 19, 20, 21, 22, 23, 24, 25, 26, 27, 28, 29, 30, 31, 32, 33, 34, 35, 36, 37, 38, 39, 40, 41, 42, 43, 44, 45, 46, 47, 48, 49, 50, 51, 52, 53, 54, 55, 56, 57] (by decide +kernel) (by decide +kernel)
set_option maxRecDepth 20000 in
theorem gX11_hits_X11_isMatch : GoodIn wsX11_hits (wsV RX11 118 RX11 yX11_isMatch wsX11_isMatch) := goodIn_app (goodIn_of _ (by decide +kernel)) ggX11_hits_X11_isMatch
set_option maxRecDepth 20000 in
theorem ggX11_plainly_X11_some : GoodIn wsX11_plainly wsX11_some := goodIn_r _ [13] (by decide +kernel) (by decide +kernel)
set_option maxRecDepth 20000 in
theorem gX11_plainly_X11_some : GoodIn wsX11_plainly (va_wsS RX11 121 yX11_some wsX11_some) := goodIn_app (goodIn_of _ (by decide +kernel)) ggX11_plainly_X11_some
set_option maxRecDepth 20000 in
theorem ggX11_thins_X11_hasAhead : GoodIn wsX11_thins wsX11_hasAhead := goodIn_r _ [8, 2, 9, 10, 11, 12, 13, 14, 15, 16, 17, 18, 19, 20, 21, 22, 23, 24, 25, 26, 27, 28, 29, 30, 31, 32, 33, 34, 35, 36, 37, 38, 39, 40, 41, 42, 43] (by decide +kernel) (by decide +kernel)
set_option maxRecDepth 20000 in
theorem gX11_thins_X11_hasAhead : GoodIn wsX11_thins (wsV RX11 125 RX11 yX11_hasAhead wsX11_hasAhead) := goodIn_app (goodIn_of _ (by decide +kernel)) ggX11_thins_X11_hasAhead
set_option maxRecDepth 20000 in
theorem ggX11_sorts_X11_isAhead : GoodIn wsX11_sorts wsX11_isAhead := goodIn_r _ [7, 8, 9, 10, 6, 11, 12, 13, 14, 15, 16, 17, 18, 19, 20, 21, 22, 23, 24, 25, 26, 27, 28, 29, 30, 31, 32, 33, 34, 35, 36, 37, 38, 39, 40, 41, 42, 43, 44, 45, 46, 47, 48, 49, 50, 51] (by decide +kernel) (by decide +kernel)
set_option maxRecDepth 20000 in
theorem gX11_sorts_X11_isAhead : GoodIn wsX11_sorts (wsV RX11 128 RX11 yX11_isAhead wsX11_isAhead) := goodIn_app (goodIn_of _ (by decide +kernel)) ggX11_sorts_X11_isAhead
set_option maxRecDepth 20000 in
theorem ggX11_isAhead_X11_count0 : GoodIn wsX11_isAhead wsX11_count0 := goodIn_r _ [5, 6, 7, 8, 9, 4, 10, 11, 12, 13, 14, 15, 16, 17, 18, 19, 20, 21, 22, 23, 24, 25, 26, 27, 28, 29, 30, 31, 32, 33, 34, 35, 36, 37, 38, 39, 40, 41, 42, 43, 44, 45] (by decide +kernel) (by decide +kernel)
set_option maxRecDepth 20000 in
theorem gX11_isAhead_X11_count0 : GoodIn wsX11_isAhead (wsV RX11 98 RX11 yX11_count0 wsX11_count0) := goodIn_app (goodIn_of _ (by decide +kernel)) ggX11_isAhead_X11_count0
set_option maxRecDepth 20000 in
theorem ggX11_estimated_X11_many : GoodIn wsX11_estimated wsX11_many := goodIn_r _ [5, 6, 7, 8, 9, 10, 11, 12, 13, 14, 15, 16, 17, 18, 19, 20, 21, 22, 23, 24, 25, 26, 27, 28, 29, 30, 31, 32, 33, 34, 35, 36, 37, 38, 39, 40, 41] (by decide +kernel) (by decide +kernel)
set_option maxRecDepth 20000 in
theorem gX11_estimated_X11_many : GoodIn wsX11_estimated (wsV RX11 90 RX11 yX11_many wsX11_many) := goodIn_app (goodIn_of _ (by decide +kernel)) ggX11_estimated_X11_many
set_option maxRecDepth 20000 in
theorem ggX11_estimates_X11_count0 : GoodIn wsX11_estimates wsX11_count0 := goodIn_r _ [10, 11, 12, 13, 14, 9, 15, 24, 25, 26, 27, 28, 29, 30, 31, 32, 33, 34, 35, 36, 37, 38, 39, 40, 41, 42, 43, 44, 45, 46, 47, 48, 49, 50, 51, 52, 53, 54, 55, 56, 57, 58] (by decide +kernel) (by decide +kernel)
set_option maxRecDepth 20000 in
theorem gX11_estimates_X11_count0 : GoodIn wsX11_estimates (wsV RX11 98 RX11 yX11_count0 wsX11_count0) := goodIn_app (goodIn_of _ (by decide +kernel)) ggX11_estimates_X11_count0
set_option maxRecDepth 20000 in
theorem ggX11_estimates_X11_estimated : GoodIn wsX11_estimates wsX11_estimated := goodIn_r _ [19, 20, 21, 22, 9, 23, 11, 24, 25, 26, 27, 28, 29, 30, 31, 32, 33, 34, 35, 36, 37, 38, 39, 40, 41, 42, 43, 44, 45, 46, 47, 48, 49, 50, 51, 52, 53, 54, 55, 56, 57, 58] (by decide +kernel) (by decide +kernel)
set_option maxRecDepth 20000 in
theorem gX11_estimates_X11_estimated : GoodIn wsX11_estimates (wsV RX11 131 RX11 yX11_estimated wsX11_estimated) := goodIn_app (goodIn_of _ (by decide +kernel)) ggX11_estimates_X11_estimated
set_option maxRecDepth 20000 in
theorem ggX11_makes_X11_plainly : GoodIn wsX11_makes wsX11_plainly := goodIn_r _ [14, 15, 16, 17, 18, 19, 20, 21, 7, 22, 23, 24, 13, 25, 66, 67, 68, 69, 70, 71, 72, 73, 74, 75, 76, 77, 78, 79, 80, 81, 82, 83, 84, 85, 86, 87, 88, 89, 90, 91, 92, 93, 94, 95, 96, 97, 98, 99, 100] (by decide +kernel) (by decide +kernel)
set_option maxRecDepth 20000 in
theorem gX11_makes_X11_plainly : GoodIn wsX11_makes (wsV RX11 144 RX11 yX11_plainly wsX11_plainly) := goodIn_app (goodIn_of _ (by decide +kernel)) ggX11_makes_X11_plainly
set_option maxRecDepth 20000 in
theorem ggX11_makes_X11_in : GoodIn wsX11_makes wsX11_in := goodIn_r _ [28] (by decide +kernel) (by decide +kernel)
set_option maxRecDepth 20000 in
theorem gX11_makes_X11_in : GoodIn wsX11_makes (va_wsS RX11 78 yX11_in wsX11_in) := goodIn_app (goodIn_of _ (by decide +kernel)) ggX11_makes_X11_in
set_option maxRecDepth 20000 in
theorem ggX11_makes_X11_thins : GoodIn wsX11_makes wsX11_thins := goodIn_r _ [32, 17, 20, 7, 33, 34, 35, 13, 36, 66, 67, 68, 69, 70, 71, 72, 73, 74, 75, 76, 77, 78, 79, 80, 81, 82, 83, 84, 85, 86, 87, 88, 89, 90, 91, 92, 93, 94, 95, 96, 97, 98, 99, 100] (by decide +kernel) (by decide +kernel)
set_option maxRecDepth 20000 in
theorem gX11_makes_X11_thins : GoodIn wsX11_makes (wsV RX11 148 RX11 yX11_thins wsX11_thins) := goodIn_app (goodIn_of _ (by decide +kernel)) ggX11_makes_X11_thins
set_option maxRecDepth 20000 in
theorem ggX11_makes_X11_sorts : GoodIn wsX11_makes wsX11_sorts := goodIn_r _ [40, 17, 20, 41, 42, 43, 13, 44, 45, 46, 47, 48, 49, 50, 51, 52, 53, 66, 67, 68, 69, 70, 71, 72, 73, 74, 75, 76, 77, 78, 79, 80, 81, 82, 83, 84, 85, 86, 87, 88, 89, 90, 91, 92, 93, 94, 95, 96, 97, 98, 99, 100] (by decide +kernel) (by decide +kernel)
set_option maxRecDepth 20000 in
theorem gX11_makes_X11_sorts : GoodIn wsX11_makes (wsV RX11 151 RX11 yX11_sorts wsX11_sorts) := goodIn_app (goodIn_of _ (by decide +kernel)) ggX11_makes_X11_sorts
set_option maxRecDepth 20000 in
theorem ggX11_makes_X11_estimates : GoodIn wsX11_makes wsX11_estimates := goodIn_r _ [57, 17, 20, 9, 7, 22, 45, 46, 47, 13, 48, 49, 50, 51, 52, 53, 58, 59, 60, 61, 62, 63, 64, 65, 66, 67, 68, 69, 70, 71, 72, 73, 74, 75, 76, 77, 78, 79, 80, 81, 82, 83, 84, 85, 86, 87, 88, 89, 90, 91, 92, 93, 94, 95, 96, 97, 98, 99, 100] (by decide +kernel) (by decide +kernel)
set_option maxRecDepth 20000 in
theorem gX11_makes_X11_estimates : GoodIn wsX11_makes (wsV RX11 154 RX11 yX11_estimates wsX11_estimates) := goodIn_app (goodIn_of _ (by decide +kernel)) ggX11_makes_X11_estimates
set_option maxRecDepth 20000 in
theorem ggX11_makes_X11_some : GoodIn wsX11_makes wsX11_some := goodIn_r _ [25] (by decide +kernel) (by decide +kernel)
set_option maxRecDepth 20000 in
theorem gX11_makes_X11_some : GoodIn wsX11_makes (va_wsS RX11 121 yX11_some wsX11_some) := goodIn_app (goodIn_of _ (by decide +kernel)) ggX11_makes_X11_some
set_option maxRecDepth 20000 in
theorem ggX11_planEstimate_X11_estimated : GoodIn wsX11_planEstimate wsX11_estimated := goodIn_r _ [10, 11, 12, 13, 9, 14, 15, 16, 17, 18, 19, 20, 21, 22, 23, 24, 25, 26, 27, 28, 29, 30, 31, 32, 33, 34, 35, 36, 37, 38, 39, 40, 41, 42, 43, 44, 45, 46, 47, 48, 49, 50] (by decide +kernel) (by decide +kernel)
set_option maxRecDepth 20000 in
theorem gX11_planEstimate_X11_estimated : GoodIn wsX11_planEstimate (wsV RX11 131 RX11 yX11_estimated wsX11_estimated) := goodIn_app (goodIn_of _ (by decide +kernel)) ggX11_planEstimate_X11_estimated
set_option maxRecDepth 20000 in
theorem ggX11_planKind_X11_makes : GoodIn wsX11_planKind wsX11_makes := goodIn_r _ [7, 8, 2, 9, 10, 11, 12, 13, 14, 15, 16, 17, 18, 6, 19, 20, 21, 22, 23, 24, 25, 26, 27, 28, 29, 30, 31, 32, 33, 34, 35, 36, 37, 38, 39, 40, 41, 42, 43, 44, 45, 46, 47, 48, 49, 50, 51, 52, 53, 54, 55, 56, 57, 58, 59, 60, 61, 62, 63, 64, 65, 66, 67, 68, 69, 70, 71, 72, 73, 74, 75, 76, 77, 78, 79, 80, 81, 82, 83, 84, 85, 86, 87, 88, 89, 90, 91, 92, 93, 94, 95, 96, 97, 98, 99, 100, 101, 102, 103, 104, 105] (by decide +kernel) (by decide +kernel)
set_option maxRecDepth 20000 in
theorem gX11_planKind_X11_makes : GoodIn wsX11_planKind (wsV RX11 156 RX11 yX11_makes wsX11_makes) := goodIn_app (goodIn_of _ (by decide +kernel)) ggX11_planKind_X11_makes
set_option maxRecDepth 20000 in
theorem ggX11_planNeed_X11_makes : GoodIn wsX11_planNeed wsX11_makes := goodIn_r _ [7, 8, 9, 10, 2, 11, 12, 13, 14, 15, 16, 17, 18, 6, 19, 20, 21, 22, 23, 24, 25, 26, 27, 28, 29, 30, 31, 32, 33, 34, 35, 36, 37, 38, 39, 40, 41, 42, 43, 44, 45, 46, 47, 48, 49, 50, 51, 52, 53, 54, 55, 56, 57, 58, 59, 60, 61, 62, 63, 64, 65, 66, 67, 68, 69, 70, 71, 72, 73, 74, 75, 76, 77, 78, 79, 80, 81, 82, 83, 84, 85, 86, 87, 88, 89, 90, 91, 92, 93, 94, 95, 96, 97, 98, 99, 100, 101, 102, 103, 104, 105] (by decide +kernel) (by decide +kernel)
set_option maxRecDepth 20000 in
theorem gX11_planNeed_X11_makes : GoodIn wsX11_planNeed (wsV RX11 156 RX11 yX11_makes wsX11_makes) := goodIn_app (goodIn_of _ (by decide +kernel)) ggX11_planNeed_X11_makes
set_option maxRecDepth 20000 in
theorem ggX11_planSize_X11_makes : GoodIn wsX11_planSize wsX11_makes := goodIn_r _ [7, 8, 9, 10, 11, 2, 12, 13, 14, 15, 16, 17, 18, 6, 19, 20, 21, 22, 23, 24, 25, 26, 27, 28, 29, 30, 31, 32, 33, 34, 35, 36, 37, 38, 39, 40, 41, 42, 43, 44, 45, 46, 47, 48, 49, 50, 51, 52, 53, 54, 55, 56, 57, 58, 59, 60, 61, 62, 63, 64, 65, 66, 67, 68, 69, 70, 71, 72, 73, 74, 75, 76, 77, 78, 79, 80, 81, 82, 83, 84, 85, 86, 87, 88, 89, 90, 91, 92, 93, 94, 95, 96, 97, 98, 99, 100, 101, 102, 103, 104, 105] (by decide +kernel) (by decide +kernel)
set_option maxRecDepth 20000 in
theorem gX11_planSize_X11_makes : GoodIn wsX11_planSize (wsV RX11 156 RX11 yX11_makes wsX11_makes) := goodIn_app (goodIn_of _ (by decide +kernel)) ggX11_planSize_X11_makes
set_option maxRecDepth 20000 in
theorem ggX11_estimate_X11_makes : GoodIn wsX11_estimate wsX11_makes := goodIn_r _ [6, 7, 8, 9, 10, 11, 12, 13, 14, 15, 16, 17, 18, 5, 19, 20, 21, 22, 23, 24, 25, 26, 27, 28, 29, 30, 31, 32, 33, 34, 35, 36, 37, 38, 39, 40, 41, 42, 43, 44, 45, 46, 47, 48, 49, 50, 51, 52, 53, 54, 55, 56, 57, 58, 59, 60, 61, 62, 63, 64, 65, 66, 67, 68, 69, 70, 75, 76, 77, 78, 79, 80, 81, 82, 83, 84, 85, 86, 87, 88, 89, 90, 91, 92, 93, 94, 95, 96, 97, 98, 99, 100, 101, 102, 103, 104, 105, 106, 107, 108, 109] (by decide +kernel) (by decide +kernel)
set_option maxRecDepth 20000 in
theorem gX11_estimate_X11_makes : GoodIn wsX11_estimate (wsV RX11 156 RX11 yX11_makes wsX11_makes) := goodIn_app (goodIn_of _ (by decide +kernel)) ggX11_estimate_X11_makes
set_option maxRecDepth 20000 in
theorem ggX11_estimate_X11_planEstimate : GoodIn wsX11_estimate wsX11_planEstimate := goodIn_r _ [74, 11, 15, 14, 8, 10, 63, 64, 65, 5, 66, 67, 68, 69, 70, 54, 75, 76, 77, 78, 79, 80, 81, 82, 83, 84, 85, 86, 87, 88, 89, 90, 91, 92, 93, 94, 95, 96, 97, 98, 99, 100, 101, 102, 103, 104, 105, 106, 107, 108, 109] (by decide +kernel) (by decide +kernel)
set_option maxRecDepth 20000 in
theorem gX11_estimate_X11_planEstimate : GoodIn wsX11_estimate (wsV RX11 159 RX11 yX11_planEstimate wsX11_planEstimate) := goodIn_app (goodIn_of _ (by decide +kernel)) ggX11_estimate_X11_planEstimate
set_option maxRecDepth 20000 in
theorem ggX11_isPlace_X11_makes : GoodIn wsX11_isPlace wsX11_makes := goodIn_r _ [6, 7, 8, 9, 10, 1, 11, 12, 13, 14, 15, 16, 17, 5, 18, 19, 20, 21, 22, 23, 24, 25, 26, 27, 28, 29, 30, 31, 32, 33, 34, 35, 36, 37, 38, 39, 40, 41, 42, 43, 44, 45, 46, 47, 48, 49, 50, 51, 52, 53, 54, 55, 56, 57, 58, 59, 60, 61, 62, 63, 64, 65, 66, 67, 68, 69, 75, 76, 77, 78, 79, 80, 81, 82, 83, 84, 85, 86, 87, 88, 89, 90, 91, 92, 93, 94, 95, 96, 97, 98, 99, 100, 101, 102, 103, 104, 105, 106, 107, 108, 109] (by decide +kernel) (by decide +kernel)
set_option maxRecDepth 20000 in
theorem gX11_isPlace_X11_makes : GoodIn wsX11_isPlace (wsV RX11 156 RX11 yX11_makes wsX11_makes) := goodIn_app (goodIn_of _ (by decide +kernel)) ggX11_isPlace_X11_makes
set_option maxRecDepth 20000 in
theorem ggX11_isPlace_X11_in : GoodIn wsX11_isPlace wsX11_in := goodIn_r _ [32] (by decide +kernel) (by decide +kernel)
set_option maxRecDepth 20000 in
theorem gX11_isPlace_X11_in : GoodIn wsX11_isPlace (va_wsS RX11 78 yX11_in wsX11_in) := goodIn_app (goodIn_of _ (by decide +kernel)) ggX11_isPlace_X11_in
set_option maxRecDepth 20000 in
theorem ggX11_isPlace_X11_goes : GoodIn wsX11_isPlace wsX11_goes := goodIn_r _ [73, 74, 75, 76, 77, 78, 79, 80, 81, 82, 83, 84, 85, 86, 87, 88, 89, 90, 91, 92, 93, 94, 95, 96, 97, 98, 99, 100, 101, 102, 103, 104, 105, 106, 107, 108, 109] (by decide +kernel) (by decide +kernel)
set_option maxRecDepth 20000 in
theorem gX11_isPlace_X11_goes : GoodIn wsX11_isPlace (wsV RX11 86 RX11 yX11_goes wsX11_goes) := goodIn_app (goodIn_of _ (by decide +kernel)) ggX11_isPlace_X11_goes
set_option maxRecDepth 20000 in
theorem ggX11_clauseAt_X11_isPlace : GoodIn wsX11_clauseAt wsX11_isPlace := goodIn_r _ [6, 7, 8, 9, 10, 5, 11, 12, 13, 14, 15, 16, 17, 1, 18, 19, 20, 21, 22, 23, 24, 25, 26, 27, 28, 29, 30, 31, 32, 33, 34, 35, 36, 37, 38, 39, 40, 41, 42, 43, 44, 45, 46, 47, 48, 49, 50, 51, 52, 53, 54, 55, 56, 57, 58, 59, 60, 61, 62, 63, 64, 65, 66, 67, 68, 69, 70, 71, 72, 73, 74, 75, 76, 77, 78, 79, 80, 81, 82, 83, 84, 85, 86, 87, 88, 89, 90, 91, 92, 93, 94, 95, 96, 97, 98, 99, 100, 101, 102, 103, 104, 105, 106, 107, 108, 109, 110, 111, 112, 113] (by decide +kernel) (by decide +kernel)
set_option maxRecDepth 20000 in
theorem gX11_clauseAt_X11_isPlace : GoodIn wsX11_clauseAt (wsV RX11 162 RX11 yX11_isPlace wsX11_isPlace) := goodIn_app (goodIn_of _ (by decide +kernel)) ggX11_clauseAt_X11_isPlace
set_option maxRecDepth 20000 in
theorem ggX11_kindAt_X11_isPlace : GoodIn wsX11_kindAt wsX11_isPlace := goodIn_r _ [7, 8, 9, 10, 11, 6, 12, 13, 14, 15, 16, 17, 1, 2, 18, 19, 20, 21, 22, 23, 24, 25, 26, 27, 28, 29, 30, 31, 32, 33, 34, 35, 36, 37, 38, 39, 40, 41, 42, 43, 44, 45, 46, 47, 48, 49, 50, 51, 52, 53, 54, 55, 56, 57, 58, 59, 60, 61, 62, 63, 64, 65, 66, 67, 68, 69, 70, 71, 72, 73, 74, 75, 76, 77, 78, 79, 80, 81, 82, 83, 84, 85, 86, 87, 88, 89, 90, 91, 92, 93, 94, 95, 96, 97, 98, 99, 100, 101, 102, 103, 104, 105, 106, 107, 108, 109, 110, 111, 112, 113] (by decide +kernel) (by decide +kernel)
set_option maxRecDepth 20000 in
theorem gX11_kindAt_X11_isPlace : GoodIn wsX11_kindAt (wsV RX11 162 RX11 yX11_isPlace wsX11_isPlace) := goodIn_app (goodIn_of _ (by decide +kernel)) ggX11_kindAt_X11_isPlace
set_option maxRecDepth 20000 in
theorem ggX11_estimateAt_X11_isPlace : GoodIn wsX11_estimateAt wsX11_isPlace := goodIn_r _ [7, 8, 9, 10, 11, 6, 12, 13, 14, 15, 16, 17, 18, 2, 1, 19, 20, 21, 22, 23, 24, 25, 26, 27, 28, 29, 30, 31, 32, 33, 34, 35, 36, 37, 38, 39, 40, 41, 42, 43, 44, 45, 46, 47, 48, 49, 50, 51, 52, 53, 54, 55, 56, 57, 58, 59, 60, 61, 62, 63, 64, 65, 66, 67, 68, 69, 70, 71, 72, 73, 74, 75, 76, 77, 78, 79, 80, 81, 82, 83, 84, 85, 86, 87, 88, 89, 90, 91, 92, 93, 94, 95, 96, 97, 98, 99, 100, 101, 102, 103, 104, 105, 106, 107, 108, 109, 110, 111, 112, 113] (by decide +kernel) (by decide +kernel)
set_option maxRecDepth 20000 in
theorem gX11_estimateAt_X11_isPlace : GoodIn wsX11_estimateAt (wsV RX11 162 RX11 yX11_isPlace wsX11_isPlace) := goodIn_app (goodIn_of _ (by decide +kernel)) ggX11_estimateAt_X11_isPlace
set_option maxRecDepth 20000 in
theorem ggX11_literalAt_X11_isPlace : GoodIn wsX11_literalAt wsX11_isPlace := goodIn_r _ [8, 9, 10, 11, 12, 7, 13, 14, 15, 16, 17, 18, 19, 2, 20, 21, 22, 23, 24, 25, 26, 1, 27, 28, 3, 29, 30, 31, 32, 33, 34, 35, 36, 37, 38, 39, 40, 41, 42, 43, 44, 45, 46, 47, 48, 49, 50, 51, 52, 53, 54, 55, 56, 57, 58, 59, 60, 61, 62, 63, 64, 65, 66, 67, 68, 69, 70, 71, 72, 73, 74, 75, 76, 77, 78, 79, 80, 81, 82, 83, 84, 85, 86, 87, 88, 89, 90, 91, 92, 93, 94, 95, 96, 97, 98, 99, 100, 101, 102, 103, 104, 105, 106, 107, 108, 109, 110, 111, 112, 113] (by decide +kernel) (by decide +kernel)
set_option maxRecDepth 20000 in
theorem gX11_literalAt_X11_isPlace : GoodIn wsX11_literalAt (wsV RX11 162 RX11 yX11_isPlace wsX11_isPlace) := goodIn_app (goodIn_of _ (by decide +kernel)) ggX11_literalAt_X11_isPlace
set_option maxRecDepth 20000 in
theorem ggX11_literalAt_X11_in : GoodIn wsX11_literalAt wsX11_in := goodIn_r _ [36] (by decide +kernel) (by decide +kernel)
set_option maxRecDepth 20000 in
theorem gX11_literalAt_X11_in : GoodIn wsX11_literalAt (va_wsS RX11 78 yX11_in wsX11_in) := goodIn_app (goodIn_of _ (by decide +kernel)) ggX11_literalAt_X11_in
set_option maxRecDepth 20000 in
theorem ggX11_literalAt_X11_goes : GoodIn wsX11_literalAt wsX11_goes := goodIn_r _ [77, 78, 79, 80, 81, 82, 83, 84, 85, 86, 87, 88, 89, 90, 91, 92, 93, 94, 95, 96, 97, 98, 99, 100, 101, 102, 103, 104, 105, 106, 107, 108, 109, 110, 111, 112, 113] (by decide +kernel) (by decide +kernel)
set_option maxRecDepth 20000 in
theorem gX11_literalAt_X11_goes : GoodIn wsX11_literalAt (wsV RX11 86 RX11 yX11_goes wsX11_goes) := goodIn_app (goodIn_of _ (by decide +kernel)) ggX11_literalAt_X11_goes
set_option maxRecDepth 20000 in
theorem ggX11_begin_X11_makes : GoodIn wsX11_begin wsX11_makes := goodIn_r _ [31, 32, 7, 33, 9, 11, 34, 15, 13, 35, 36, 37, 38, 30, 39, 40, 41, 19, 42, 43, 22, 44, 17, 45, 46, 47, 48, 49, 50, 51, 52, 53, 54, 55, 56, 57, 58, 59, 60, 61, 62, 63, 64, 65, 66, 67, 68, 69, 70, 4, 6, 71, 72, 73, 74, 75, 76, 77, 78, 79, 80, 81, 82, 83, 84, 85, 90, 91, 92, 93, 94, 95, 96, 97, 98, 99, 100, 101, 102, 103, 104, 105, 106, 107, 108, 109, 110, 111, 112, 113, 114, 115, 116, 117, 118, 119, 120, 121, 122, 123, 124] (by decide +kernel) (by decide +kernel)
set_option maxRecDepth 20000 in
theorem gX11_begin_X11_makes : GoodIn wsX11_begin (wsV RX11 156 RX11 yX11_makes wsX11_makes) := goodIn_app (goodIn_of _ (by decide +kernel)) ggX11_begin_X11_makes
set_option maxRecDepth 20000 in
theorem ggX11_begin_X11_planEstimate : GoodIn wsX11_begin wsX11_planEstimate := goodIn_r _ [89, 11, 35, 13, 7, 9, 78, 79, 80, 30, 81, 82, 83, 84, 85, 4, 90, 91, 92, 93, 94, 95, 96, 97, 98, 99, 100, 101, 102, 103, 104, 105, 106, 107, 108, 109, 110, 111, 112, 113, 114, 115, 116, 117, 118, 119, 120, 121, 122, 123, 124] (by decide +kernel) (by decide +kernel)
set_option maxRecDepth 20000 in
theorem gX11_begin_X11_planEstimate : GoodIn wsX11_begin (wsV RX11 159 RX11 yX11_planEstimate wsX11_planEstimate) := goodIn_app (goodIn_of _ (by decide +kernel)) ggX11_begin_X11_planEstimate
set_option maxRecDepth 20000 in
theorem ggX11_seeksLiteral_X11_isTrue : GoodIn wsX11_seeksLiteral wsX11_isTrue := goodIn_r _ [9] (by decide +kernel) (by decide +kernel)
set_option maxRecDepth 20000 in
theorem gX11_seeksLiteral_X11_isTrue : GoodIn wsX11_seeksLiteral (va_wsS RX11 94 yX11_isTrue wsX11_isTrue) := goodIn_app (goodIn_of _ (by decide +kernel)) ggX11_seeksLiteral_X11_isTrue
set_option maxRecDepth 20000 in
theorem ggX11_seeksClause_X11_seeksLiteral : GoodIn wsX11_seeksClause wsX11_seeksLiteral := goodIn_r _ [10, 4, 11, 12, 13, 14, 15, 16, 9, 17, 22, 23, 24, 25, 26, 27, 28, 29, 30, 31, 32, 33, 34, 35, 36, 37, 38, 39, 40, 41, 42, 43, 44, 45, 46, 47, 48, 49, 50, 51, 52, 53, 54, 55, 56] (by decide +kernel) (by decide +kernel)
set_option maxRecDepth 20000 in
theorem gX11_seeksClause_X11_seeksLiteral : GoodIn wsX11_seeksClause (wsV RX11 187 RX11 yX11_seeksLiteral wsX11_seeksLiteral) := goodIn_app (goodIn_of _ (by decide +kernel)) ggX11_seeksClause_X11_seeksLiteral
set_option maxRecDepth 20000 in
theorem ggX11_seeksClause_X11_nthLiteral : GoodIn wsX11_seeksClause wsX11_nthLiteral := goodIn_r _ [21, 4, 22, 23, 24, 25, 26, 27, 28, 29, 30, 31, 32, 33, 34, 35, 36, 37, 38, 39, 40, 41, 42, 43, 44, 45, 46, 47, 48, 49, 50, 51, 52, 53, 54, 55, 56] (by decide +kernel) (by decide +kernel)
set_option maxRecDepth 20000 in
theorem gX11_seeksClause_X11_nthLiteral : GoodIn wsX11_seeksClause (wsV RX11 191 RX11 yX11_nthLiteral wsX11_nthLiteral) := goodIn_app (goodIn_of _ (by decide +kernel)) ggX11_seeksClause_X11_nthLiteral
set_option maxRecDepth 20000 in
theorem ggX11_seeksPlan_X11_seeksClause : GoodIn wsX11_seeksPlan wsX11_seeksClause := goodIn_r _ [10, 4, 11, 12, 13, 14, 15, 16, 17, 9, 18, 19, 2, 20, 21, 22, 23, 24, 25, 26, 27, 28, 33, 34, 35, 36, 37, 38, 39, 40, 41, 42, 43, 44, 45, 46, 47, 48, 49, 50, 51, 52, 53, 54, 55, 56, 57, 58, 59, 60, 61, 62, 63, 64, 65, 66, 67] (by decide +kernel) (by decide +kernel)
set_option maxRecDepth 20000 in
theorem gX11_seeksPlan_X11_seeksClause : GoodIn wsX11_seeksPlan (wsV RX11 195 RX11 yX11_seeksClause wsX11_seeksClause) := goodIn_app (goodIn_of _ (by decide +kernel)) ggX11_seeksPlan_X11_seeksClause
set_option maxRecDepth 20000 in
theorem ggX11_seeksPlan_X11_nthClause : GoodIn wsX11_seeksPlan wsX11_nthClause := goodIn_r _ [32, 3, 4, 33, 34, 35, 36, 37, 38, 39, 40, 41, 42, 43, 44, 45, 46, 47, 48, 49, 50, 51, 52, 53, 54, 55, 56, 57, 58, 59, 60, 61, 62, 63, 64, 65, 66, 67] (by decide +kernel) (by decide +kernel)
set_option maxRecDepth 20000 in
theorem gX11_seeksPlan_X11_nthClause : GoodIn wsX11_seeksPlan (wsV RX11 198 RX11 yX11_nthClause wsX11_nthClause) := goodIn_app (goodIn_of _ (by decide +kernel)) ggX11_seeksPlan_X11_nthClause
set_option maxRecDepth 20000 in
theorem ggX11_leaps_X11_seeksPlan : GoodIn wsX11_leaps wsX11_seeksPlan := goodIn_r _ [7, 8, 9, 10, 11, 12, 13, 14, 15, 6, 16, 17, 18, 19, 20, 21, 22, 23, 24, 25, 26, 27, 28, 29, 30, 31, 32, 33, 34, 35, 36, 37, 38, 39, 40, 41, 42, 43, 44, 45, 46, 47, 48, 49, 50, 51, 52, 53, 54, 55, 56, 57, 58, 59, 60, 61, 62, 63, 64, 65, 66, 67, 68, 69, 70, 71, 72, 73] (by decide +kernel) (by decide +kernel)
set_option maxRecDepth 20000 in
theorem gX11_leaps_X11_seeksPlan : GoodIn wsX11_leaps (wsV RX11 201 RX11 yX11_seeksPlan wsX11_seeksPlan) := goodIn_app (goodIn_of _ (by decide +kernel)) ggX11_leaps_X11_seeksPlan
set_option maxRecDepth 20000 in
theorem ggX11_leap_X11_isDocument : GoodIn wsX11_leap wsX11_isDocument := goodIn_r _ [5, 6, 7, 4, 8] (by decide +kernel) (by decide +kernel)
set_option maxRecDepth 20000 in
theorem gX11_leap_X11_isDocument : GoodIn wsX11_leap (va_wsS RX11 82 yX11_isDocument wsX11_isDocument) := goodIn_app (goodIn_of _ (by decide +kernel)) ggX11_leap_X11_isDocument
set_option maxRecDepth 20000 in
theorem ggX11_leap_X11_goes : GoodIn wsX11_leap wsX11_goes := goodIn_r _ [12, 13, 55, 56, 57, 58, 59, 60, 61, 62, 63, 64, 65, 66, 67, 68, 69, 70, 71, 72, 73, 74, 75, 76, 77, 78, 79, 80, 81, 82, 83, 84, 85, 86, 87, 88, 89] (by decide +kernel) (by decide +kernel)
set_option maxRecDepth 20000 in
theorem gX11_leap_X11_goes : GoodIn wsX11_leap (wsV RX11 86 RX11 yX11_goes wsX11_goes) := goodIn_app (goodIn_of _ (by decide +kernel)) ggX11_leap_X11_goes
set_option maxRecDepth 20000 in
theorem ggX11_leap_X11_leaps : GoodIn wsX11_leap wsX11_leaps := goodIn_r _ [17, 18, 19, 20, 21, 22, 4, 23, 24, 25, 26, 27, 28, 29, 30, 31, 32, 33, 34, 35, 36, 37, 38, 39, 40, 41, 42, 43, 44, 45, 46, 47, 48, 49, 50, 51, 52, 53, 54, 55, 56, 57, 58, 59, 60, 61, 62, 63, 64, 65, 66, 67, 68, 69, 70, 71, 72, 73, 74, 75, 76, 77, 78, 79, 80, 81, 82, 83, 84, 85, 86, 87, 88, 89] (by decide +kernel) (by decide +kernel)
set_option maxRecDepth 20000 in
theorem gX11_leap_X11_leaps : GoodIn wsX11_leap (wsV RX11 204 RX11 yX11_leaps wsX11_leaps) := goodIn_app (goodIn_of _ (by decide +kernel)) ggX11_leap_X11_leaps
set_option maxRecDepth 20000 in
theorem ggX11_next_X11_goes : GoodIn wsX11_next wsX11_goes := goodIn_r _ [6, 7, 49, 50, 51, 52, 53, 54, 55, 56, 57, 58, 59, 60, 61, 62, 63, 64, 65, 66, 67, 68, 69, 70, 71, 72, 73, 74, 75, 76, 77, 78, 79, 80, 81, 82, 83] (by decide +kernel) (by decide +kernel)
set_option maxRecDepth 20000 in
theorem gX11_next_X11_goes : GoodIn wsX11_next (wsV RX11 86 RX11 yX11_goes wsX11_goes) := goodIn_app (goodIn_of _ (by decide +kernel)) ggX11_next_X11_goes
set_option maxRecDepth 20000 in
theorem ggX11_next_X11_leaps : GoodIn wsX11_next wsX11_leaps := goodIn_r _ [11, 12, 13, 14, 15, 16, 5, 17, 18, 19, 20, 21, 22, 23, 24, 25, 26, 27, 28, 29, 30, 31, 32, 33, 34, 35, 36, 37, 38, 39, 40, 41, 42, 43, 44, 45, 46, 47, 48, 49, 50, 51, 52, 53, 54, 55, 56, 57, 58, 59, 60, 61, 62, 63, 64, 65, 66, 67, 68, 69, 70, 71, 72, 73, 74, 75, 76, 77, 78, 79, 80, 81, 82, 83] (by decide +kernel) (by decide +kernel)
set_option maxRecDepth 20000 in
theorem gX11_next_X11_leaps : GoodIn wsX11_next (wsV RX11 204 RX11 yX11_leaps wsX11_leaps) := goodIn_app (goodIn_of _ (by decide +kernel)) ggX11_next_X11_leaps
set_option maxRecDepth 20000 in
theorem ggX11_readings_X11_goes : GoodIn wsX11_readings wsX11_goes := goodIn_r _ [7, 8, 9, 10, 11, 12, 13, 14, 15, 16, 17, 18, 19, 20, 21, 22, 23, 24, 25, 26, 27, 28, 29, 30, 31, 32, 33, 34, 35, 36, 37, 38, 39, 40, 41, 42, 43] (by decide +kernel) (by decide +kernel)
set_option maxRecDepth 20000 in
theorem gX11_readings_X11_goes : GoodIn wsX11_readings (wsV RX11 86 RX11 yX11_goes wsX11_goes) := goodIn_app (goodIn_of _ (by decide +kernel)) ggX11_readings_X11_goes
set_option maxRecDepth 20000 in
theorem ggL_put_X10_put : GoodIn wsL_put wsX10_put := goodIn_ca (goodIn_ca (goodIn_r _ [7, 8, 9, 10, 11, 12, 13, 6, 14, 15, 16, 17, 18, 19, 20, 21, 22, 23, 24, 25, 26, 27] (by decide +kernel) (by decide +kernel)) (goodIn_sub (fun _ h => List.mem_cons_of_mem _ (List.mem_append_left _ (List.mem_append_right _ h))) (by decide +kernel))) (goodIn_sub (fun _ h => List.mem_cons_of_mem _ (List.mem_append_right _ h)) (by decide +kernel))
set_option maxRecDepth 20000 in
theorem gL_put_X10_put : GoodIn wsL_put (wsV RL 7 RX10 yX10_put wsX10_put) := goodIn_app (goodIn_of _ (by decide +kernel)) ggL_put_X10_put
set_option maxRecDepth 20000 in
theorem ggL_drop_X10_drop : GoodIn wsL_drop wsX10_drop := goodIn_ca (goodIn_r _ [6, 7, 8, 9, 10, 5, 11, 12, 13, 14, 15, 16, 17, 18, 19, 20, 21, 22, 23, 24] (by decide +kernel) (by decide +kernel)) (goodIn_sub (fun _ h => List.mem_cons_of_mem _ (List.mem_append_right _ h)) (by decide +kernel))
set_option maxRecDepth 20000 in
theorem gL_drop_X10_drop : GoodIn wsL_drop (wsV RL 17 RX10 yX10_drop wsX10_drop) := goodIn_app (goodIn_of _ (by decide +kernel)) ggL_drop_X10_drop
set_option maxRecDepth 20000 in
theorem ggL_count_X10_count : GoodIn wsL_count wsX10_count := goodIn_ca (goodIn_r _ [6, 7, 8, 9, 10, 5, 11, 12, 13, 14, 15, 16, 17, 18, 19, 20, 21, 22, 23, 24, 25, 26, 27, 28, 29, 30, 31, 32, 33, 34, 35, 36] (by decide +kernel) (by decide +kernel)) (goodIn_sub (fun _ h => List.mem_cons_of_mem _ (List.mem_append_right _ h)) (by decide +kernel))
set_option maxRecDepth 20000 in
theorem gL_count_X10_count : GoodIn wsL_count (wsV RL 21 RX10 yX10_count wsX10_count) := goodIn_app (goodIn_of _ (by decide +kernel)) ggL_count_X10_count
set_option maxRecDepth 20000 in
theorem ggL_ask_X10_ask : GoodIn wsL_ask wsX10_ask := goodIn_ca (goodIn_r _ [6, 7, 8, 9, 10, 5, 11, 12, 13, 14, 15, 16, 17, 18, 19, 20, 21, 22, 23, 24, 25, 26, 27, 28, 29] (by decide +kernel) (by decide +kernel)) (goodIn_sub (fun _ h => List.mem_cons_of_mem _ (List.mem_append_right _ h)) (by decide +kernel))
set_option maxRecDepth 20000 in
theorem gL_ask_X10_ask : GoodIn wsL_ask (wsV RL 25 RX10 yX10_ask wsX10_ask) := goodIn_app (goodIn_of _ (by decide +kernel)) ggL_ask_X10_ask
set_option maxRecDepth 20000 in
theorem ggL_clause_X10_clause : GoodIn wsL_clause wsX10_clause := goodIn_ca (goodIn_ca (goodIn_r _ [7, 8, 9, 10, 11, 12, 13, 6, 14, 15, 16, 17, 18, 19, 20, 21, 22, 23, 24, 25, 26, 27, 28, 29, 30, 31, 32, 33, 34, 35, 36, 37, 38, 39, 40, 41, 42, 43, 44, 45] (by decide +kernel) (by decide +kernel)) (goodIn_sub (fun _ h => List.mem_cons_of_mem _ (List.mem_append_left _ (List.mem_append_right _ h))) (by decide +kernel))) (goodIn_sub (fun _ h => List.mem_cons_of_mem _ (List.mem_append_right _ h)) (by decide +kernel))
set_option maxRecDepth 20000 in
theorem gL_clause_X10_clause : GoodIn wsL_clause (wsV RL 29 RX10 yX10_clause wsX10_clause) := goodIn_app (goodIn_of _ (by decide +kernel)) ggL_clause_X10_clause
set_option maxRecDepth 20000 in
theorem ggL_literal_X10_literal : GoodIn wsL_literal wsX10_literal := goodIn_ca (goodIn_ca (goodIn_r _ [7, 8, 9, 10, 11, 12, 13, 14, 15, 16, 17, 18, 19, 20, 21, 22, 23, 6, 24, 25, 26, 27, 28, 29, 30, 31, 32, 33, 34, 35, 36, 37, 38, 39, 40, 41, 42, 43, 44, 45, 46, 47] (by decide +kernel) (by decide +kernel)) (goodIn_sub (fun _ h => List.mem_cons_of_mem _ (List.mem_append_left _ (List.mem_append_right _ h))) (by decide +kernel))) (goodIn_sub (fun _ h => List.mem_cons_of_mem _ (List.mem_append_right _ h)) (by decide +kernel))
set_option maxRecDepth 20000 in
theorem gL_literal_X10_literal : GoodIn wsL_literal (wsV RL 35 RX10 yX10_literal wsX10_literal) := goodIn_app (goodIn_of _ (by decide +kernel)) ggL_literal_X10_literal
set_option maxRecDepth 20000 in
theorem ggL_matches_X10_matches : GoodIn wsL_matches wsX10_matches := goodIn_ca (goodIn_r _ [6, 7, 8, 9, 5, 10, 11, 12, 13, 14, 15, 16, 17, 18, 19, 20, 21, 22, 23, 24, 25, 26, 27, 28, 29, 30, 31, 32, 33, 34, 35, 36, 37, 38, 39, 40, 41, 42, 43, 44, 45, 46, 47, 48, 49, 50, 51, 52, 53, 54, 55, 56, 57, 58, 59, 60, 61, 62, 63, 64, 65] (by decide +kernel) (by decide +kernel)) (goodIn_sub (fun _ h => List.mem_cons_of_mem _ (List.mem_append_right _ h)) (by decide +kernel))
set_option maxRecDepth 20000 in
theorem gL_matches_X10_matches : GoodIn wsL_matches (wsV RL 38 RX10 yX10_matches wsX10_matches) := goodIn_app (goodIn_of _ (by decide +kernel)) ggL_matches_X10_matches
set_option maxRecDepth 20000 in
theorem ggL_clauseAt_X10_clauseAt : GoodIn wsL_clauseAt wsX10_clauseAt := goodIn_ca (goodIn_r _ [6, 7, 8, 9, 10, 11, 5, 12, 13, 14, 15, 16, 17, 18, 19, 20, 21, 22, 23, 24, 25, 26, 27, 28, 29, 30, 31, 32, 33, 34, 35, 36, 37, 38, 39, 40, 41, 42, 43, 44, 45, 46, 47, 48, 49, 50, 51, 52, 53, 54, 55, 56, 57, 58, 59, 60, 61, 62, 63, 64, 65, 66, 67, 68, 69, 70, 71, 72, 73, 74, 75, 76, 77, 78, 79, 80, 81, 82, 83, 84, 85, 86, 87, 88, 89, 90, 91, 92, 93, 94, 95, 96, 97, 98, 99, 100, 101, 102, 103, 104, 105, 106, 107, 108, 109, 110, 111, 112, 113, 114, 115, 116, 117, 118, 119, 120, 121, 122, 123, 124, 125, 126, 127, 128, 129, 130, 131, 132, 133, 134, 135, 136, 137, 138, 139, 140, 141, 142, 143, 144, 145, 146, 147, 148, 149, 150, 151, 152, 153, 154, 155, 156, 157, 158, 159, 160, 161, 162, 163, 164, 165, 166, 167, 168, 169, 170, 171, 172, 173, 174, 175, 176, 177, 178, 179, 180, 181, 182, 183, 184, 185, 186, 187, 188, 189, 190, 191, 192, 193, 194, 195, 196, 197, 198, 199, 200, 201, 202, 203, 204, 205, 206, 207, 208, 209, 210, 211, 212, 213, 214, 215, 216, 217, 218, 219, 220, 221, 222, 223, 224, 225, 226, 227, 228, 229, 230, 231, 232, 233, 234, 235, 236, 237, 238, 239, 240, 241, 242, 243, 244, 245, 246, 247, 248, 249, 250, 251, 252, 253, 254, 255, 256, 257, 258, 259, 260, 261, 262, 263, 264, 265, 266, 267, 268, 269, 270, 271] (by decide +kernel) (by decide +kernel)) (goodIn_sub (fun _ h => List.mem_cons_of_mem _ (List.mem_append_right _ h)) (by decide +kernel))
set_option maxRecDepth 20000 in
theorem gL_clauseAt_X10_clauseAt : GoodIn wsL_clauseAt (wsV RL 41 RX10 yX10_clauseAt wsX10_clauseAt) := goodIn_app (goodIn_of _ (by decide +kernel)) ggL_clauseAt_X10_clauseAt
set_option maxRecDepth 20000 in
theorem ggL_kindAt_X10_kindAt : GoodIn wsL_kindAt wsX10_kindAt := goodIn_ca (goodIn_r _ [6, 7, 8, 9, 10, 11, 5, 12, 13, 14, 15, 16, 17, 18, 19, 20, 21, 22, 23, 24, 25, 26, 27, 28, 29, 30, 31, 32, 33, 34, 35, 36, 37, 38, 39, 40, 41, 42, 43, 44, 45, 46, 47, 48, 49, 50, 51, 52, 53, 54, 55, 56, 57, 58, 59, 60, 61, 62, 63, 64, 65, 66, 67, 68, 69, 70, 71, 72, 73, 74, 75, 76, 77, 78, 79, 80, 81, 82, 83, 84, 85, 86, 87, 88, 89, 90, 91, 92, 93, 94, 95, 96, 97, 98, 99, 100, 101, 102, 103, 104, 105, 106, 107, 108, 109, 110, 111, 112, 113, 114, 115, 116, 117, 118, 119, 120, 121, 122, 123, 124, 125, 126, 127, 128, 129, 130, 131, 132, 133, 134, 135, 136, 137, 138, 139, 140, 141, 142, 143, 144, 145, 146, 147, 148, 149, 150, 151, 152, 153, 154, 155, 156, 157, 158, 159, 160, 161, 162, 163, 164, 165, 166, 167, 168, 169, 170, 171, 172, 173, 174, 175, 176, 177, 178, 179, 180, 181, 182, 183, 184, 185, 186, 187, 188, 189, 190, 191, 192, 193, 194, 195, 196, 197, 198, 199, 200, 201, 202, 203, 204, 205, 206, 207, 208, 209, 210, 211, 212, 213, 214, 215, 216, 217, 218, 219, 220, 221, 222, 223, 224, 225, 226, 227, 228, 229, 230, 231, 232, 233, 234, 235, 236, 237, 238, 239, 240, 241, 242, 243, 244, 245, 246, 247, 248, 249, 250, 251, 252, 253, 254, 255, 256, 257, 258, 259, 260, 261, 262, 263, 264, 265, 266, 267, 268, 269, 270] (by decide +kernel) (by decide +kernel)) (goodIn_sub (fun _ h => List.mem_cons_of_mem _ (List.mem_append_right _ h)) (by decide +kernel))
set_option maxRecDepth 20000 in
theorem gL_kindAt_X10_kindAt : GoodIn wsL_kindAt (wsV RL 44 RX10 yX10_kindAt wsX10_kindAt) := goodIn_app (goodIn_of _ (by decide +kernel)) ggL_kindAt_X10_kindAt
set_option maxRecDepth 20000 in
theorem ggL_estimateAt_X10_estimateAt : GoodIn wsL_estimateAt wsX10_estimateAt := goodIn_ca (goodIn_r _ [6, 7, 8, 9, 10, 11, 5, 12, 13, 14, 15, 16, 17, 18, 19, 20, 21, 22, 23, 24, 25, 26, 27, 28, 29, 30, 31, 32, 33, 34, 35, 36, 37, 38, 39, 40, 41, 42, 43, 44, 45, 46, 47, 48, 49, 50, 51, 52, 53, 54, 55, 56, 57, 58, 59, 60, 61, 62, 63, 64, 65, 66, 67, 68, 69, 70, 71, 72, 73, 74, 75, 76, 77, 78, 79, 80, 81, 82, 83, 84, 85, 86, 87, 88, 89, 90, 91, 92, 93, 94, 95, 96, 97, 98, 99, 100, 101, 102, 103, 104, 105, 106, 107, 108, 109, 110, 111, 112, 113, 114, 115, 116, 117, 118, 119, 120, 121, 122, 123, 124, 125, 126, 127, 128, 129, 130, 131, 132, 133, 134, 135, 136, 137, 138, 139, 140, 141, 142, 143, 144, 145, 146, 147, 148, 149, 150, 151, 152, 153, 154, 155, 156, 157, 158, 159, 160, 161, 162, 163, 164, 165, 166, 167, 168, 169, 170, 171, 172, 173, 174, 175, 176, 177, 178, 179, 180, 181, 182, 183, 184, 185, 186, 187, 188, 189, 190, 191, 192, 193, 194, 195, 196, 197, 198, 199, 200, 201, 202, 203, 204, 205, 206, 207, 208, 209, 210, 211, 212, 213, 214, 215, 216, 217, 218, 219, 220, 221, 222, 223, 224, 225, 226, 227, 228, 229, 230, 231, 232, 233, 234, 235, 236, 237, 238, 239, 240, 241, 242, 243, 244, 245, 246, 247, 248, 249, 250, 251, 252, 253, 254, 255, 256, 257, 258, 259, 260, 261, 262, 263, 264, 265, 266, 267, 268, 269, 270, 271] (by decide +kernel) (by decide +kernel)) (goodIn_sub (fun _ h => List.mem_cons_of_mem _ (List.mem_append_right _ h)) (by decide +kernel))
set_option maxRecDepth 20000 in
theorem gL_estimateAt_X10_estimateAt : GoodIn wsL_estimateAt (wsV RL 47 RX10 yX10_estimateAt wsX10_estimateAt) := goodIn_app (goodIn_of _ (by decide +kernel)) ggL_estimateAt_X10_estimateAt
set_option maxRecDepth 20000 in
theorem ggL_literalAt_X10_literalAt : GoodIn wsL_literalAt wsX10_literalAt := goodIn_ca (goodIn_r _ [6, 7, 8, 9, 10, 11, 12, 5, 13, 14, 15, 16, 17, 18, 19, 20, 21, 22, 23, 24, 25, 26, 27, 28, 29, 30, 31, 32, 33, 34, 35, 36, 37, 38, 39, 40, 41, 42, 43, 44, 45, 46, 47, 48, 49, 50, 51, 52, 53, 54, 55, 56, 57, 58, 59, 60, 61, 62, 63, 64, 65, 66, 67, 68, 69, 70, 71, 72, 73, 74, 75, 76, 77, 78, 79, 80, 81, 82, 83, 84, 85, 86, 87, 88, 89, 90, 91, 92, 93, 94, 95, 96, 97, 98, 99, 100, 101, 102, 103, 104, 105, 106, 107, 108, 109, 110, 111, 112, 113, 114, 115, 116, 117, 118, 119, 120, 121, 122, 123, 124, 125, 126, 127, 128, 129, 130, 131, 132, 133, 134, 135, 136, 137, 138, 139, 140, 141, 142, 143, 144, 145, 146, 147, 148, 149, 150, 151, 152, 153, 154, 155, 156, 157, 158, 159, 160, 161, 162, 163, 164, 165, 166, 167, 168, 169, 170, 171, 172, 173, 174, 175, 176, 177, 178, 179, 180, 181, 182, 183, 184, 185, 186, 187, 188, 189, 190, 191, 192, 193, 194, 195, 196, 197, 198, 199, 200, 201, 202, 203, 204, 205, 206, 207, 208, 209, 210, 211, 212, 213, 214, 215, 216, 217, 218, 219, 220, 221, 222, 223, 224, 225, 226, 227, 228, 229, 230, 231, 232, 233, 234, 235, 236, 237, 238, 239, 240, 241, 242, 243, 244, 245, 246, 247, 248, 249, 250, 251, 252, 253, 254, 255, 256, 257, 258, 259, 260, 261, 262, 263, 264, 265, 266, 267, 268, 269, 270, 271] (by decide +kernel) (by decide +kernel)) (goodIn_sub (fun _ h => List.mem_cons_of_mem _ (List.mem_append_right _ h)) (by decide +kernel))
set_option maxRecDepth 20000 in
theorem gL_literalAt_X10_literalAt : GoodIn wsL_literalAt (wsV RL 50 RX10 yX10_literalAt wsX10_literalAt) := goodIn_app (goodIn_of _ (by decide +kernel)) ggL_literalAt_X10_literalAt
set_option maxRecDepth 20000 in
theorem ggL_leap_X10_leap : GoodIn wsL_leap wsX10_leap := goodIn_ca (goodIn_ca (goodIn_r _ [7, 8, 9, 10, 11, 6, 12, 13, 14, 15, 16, 17, 18, 19, 20, 21, 22, 23, 24, 25, 26, 27, 28, 29, 30, 31, 32, 33, 34, 35, 36, 37, 38, 39, 40, 41, 42, 43, 44, 45, 46, 47, 48, 49, 50, 51, 52, 53, 54, 55, 56, 57, 58, 59, 60, 61, 62, 63, 64, 65, 66, 67, 68, 69, 70, 71, 72, 73, 74, 75, 76, 77, 78, 79, 80, 81, 82, 83, 84, 85, 86, 87, 88, 89, 90, 91, 92, 93, 94, 95, 96, 97, 98, 99, 100, 101, 102, 103, 104, 105, 106, 107, 108, 109, 110, 111, 112, 113, 114, 115, 116, 117, 118, 119, 120, 121, 122, 123, 124, 125, 126, 127, 128, 129, 130, 131, 132, 133, 134, 135, 136, 137, 138, 139, 140, 141, 142, 143, 144, 145, 146, 147] (by decide +kernel) (by decide +kernel)) (goodIn_sub (fun _ h => List.mem_cons_of_mem _ (List.mem_append_left _ (List.mem_append_right _ h))) (by decide +kernel))) (goodIn_sub (fun _ h => List.mem_cons_of_mem _ (List.mem_append_right _ h)) (by decide +kernel))
set_option maxRecDepth 20000 in
theorem gL_leap_X10_leap : GoodIn wsL_leap (wsV RL 53 RX10 yX10_leap wsX10_leap) := goodIn_app (goodIn_of _ (by decide +kernel)) ggL_leap_X10_leap
set_option maxRecDepth 20000 in
theorem ggL_next_X10_next : GoodIn wsL_next wsX10_next := goodIn_ca (goodIn_r _ [6, 7, 8, 9, 10, 5, 11, 12, 13, 14, 15, 16, 17, 18, 19, 20, 21, 22, 23, 24, 25, 26, 27, 28, 29, 30, 31, 32, 33, 34, 35, 36, 37, 38, 39, 40, 41, 42, 43, 44, 45, 46, 47, 48, 49, 50, 51, 52, 53, 54, 55, 56, 57, 58, 59, 60, 61, 62, 63, 64, 65, 66, 67, 68, 69, 70, 71, 72, 73, 74, 75, 76, 77, 78, 79, 80, 81, 82, 83, 84, 85, 86, 87, 88, 89, 90, 91, 92, 93, 94, 95, 96, 97, 98, 99, 100, 101, 102, 103, 104, 105, 106, 107, 108, 109, 110, 111, 112, 113, 114, 115, 116, 117, 118, 119, 120, 121, 122, 123, 124, 125, 126, 127, 128, 129, 130, 131, 132, 133, 134, 135, 136, 137, 138, 139, 140] (by decide +kernel) (by decide +kernel)) (goodIn_sub (fun _ h => List.mem_cons_of_mem _ (List.mem_append_right _ h)) (by decide +kernel))
set_option maxRecDepth 20000 in
theorem gL_next_X10_next : GoodIn wsL_next (wsV RL 56 RX10 yX10_next wsX10_next) := goodIn_app (goodIn_of _ (by decide +kernel)) ggL_next_X10_next
set_option maxRecDepth 20000 in
theorem ggL_readings_X10_readings : GoodIn wsL_readings wsX10_readings := goodIn_ca (goodIn_r _ [6, 7, 8, 9, 10, 11, 12, 5, 13, 14, 15, 16, 17, 18, 19, 20, 21, 22, 23, 24, 25] (by decide +kernel) (by decide +kernel)) (goodIn_sub (fun _ h => List.mem_cons_of_mem _ (List.mem_append_right _ h)) (by decide +kernel))
set_option maxRecDepth 20000 in
theorem gL_readings_X10_readings : GoodIn wsL_readings (wsV RL 60 RX10 yX10_readings wsX10_readings) := goodIn_app (goodIn_of _ (by decide +kernel)) ggL_readings_X10_readings
set_option maxRecDepth 20000 in
theorem ggL_law_X10_init : GoodIn wsL_law wsX10_init := goodIn_r _ [9, 10, 11, 12, 13, 14, 15, 16, 17, 18, 19, 20, 21, 22, 23, 24, 25, 26, 27, 28, 29, 30, 31, 32, 33, 34, 35, 36, 37, 38, 39, 40, 41, 42, 43, 44, 45, 46, 47, 48, 49, 50, 51, 52, 53, 54, 55, 56, 57, 58, 59, 60, 61, 62, 63, 64, 65, 66, 67, 68, 69, 70, 71, 72, 73, 74, 75, 76, 77, 78, 79, 80, 81, 82, 83, 84, 85, 86, 87, 88, 89, 90, 91, 92, 93, 94, 95, 96, 97, 98, 857, 818, 819, 820, 821, 858, 859, 860, 861, 862, 863, 864, 865, 866, 867, 868, 869, 870, 871, 872, 873, 874, 875, 876, 877, 878, 879, 880, 881, 882, 883, 884, 885, 886, 887, 888, 889, 890, 891, 892, 893, 894, 895] (by decide +kernel) (by decide +kernel)
set_option maxRecDepth 20000 in
theorem gL_law_X10_init : GoodIn wsL_law (wsX10_init) := ggL_law_X10_init
set_option maxRecDepth 20000 in
theorem ggL_law_X11_init : GoodIn wsL_law wsX11_init := goodIn_r _ [101, 102, 11, 12, 103, 104, 36, 105, 106, 107, 108, 109, 110, 111, 112, 113, 114, 115, 116, 117, 118, 119, 120, 121, 122, 123, 124, 822, 823, 824, 825, 826, 827, 828, 829, 830, 831, 832, 833, 834, 835, 836, 837, 838, 839, 840, 841, 842, 843, 844, 845, 846, 847, 848, 849, 850, 851, 852, 853, 854, 855, 856] (by decide +kernel) (by decide +kernel)
set_option maxRecDepth 20000 in
theorem gL_law_X11_init : GoodIn wsL_law (wsX11_init) := ggL_law_X11_init
set_option maxRecDepth 20000 in
theorem ggL_law_L_put : GoodIn wsL_law wsL_put := goodIn_ca (goodIn_ca (goodIn_r _ [128, 129, 130, 131, 132, 133, 2, 134, 135, 136, 16, 137, 138, 139, 140, 141, 142, 143, 144, 145, 15, 146, 37, 818, 819, 820, 821, 857] (by decide +kernel) (by decide +kernel)) (goodIn_sub (fun _ h => List.mem_append_left _ (List.mem_append_left _ (List.mem_append_right _ h))) (by decide +kernel))) (goodIn_sub (fun _ h => List.mem_append_left _ (List.mem_append_right _ h)) (by decide +kernel))
set_option maxRecDepth 20000 in
theorem gL_law_L_put : GoodIn wsL_law (va_wsS RL 67 yL_put wsL_put) := goodIn_app (goodIn_of _ (by decide +kernel)) ggL_law_L_put
set_option maxRecDepth 20000 in
theorem ggL_law_X11_put : GoodIn wsL_law wsX11_put := goodIn_r _ [150, 104, 105, 151, 152, 5, 153, 154, 155, 156, 157, 158, 159, 160, 161, 822, 823, 824, 825, 826, 827, 828, 829, 830, 831, 832, 833, 834, 835, 836, 837, 838, 839, 840, 841, 842, 843, 844, 845, 846, 847, 848, 849, 850, 851, 852, 853, 854, 855, 856] (by decide +kernel) (by decide +kernel)
set_option maxRecDepth 20000 in
theorem gL_law_X11_put : GoodIn wsL_law (wsV RL 72 RX11 yX11_put wsX11_put) := goodIn_app (goodIn_of _ (by decide +kernel)) ggL_law_X11_put
set_option maxRecDepth 20000 in
theorem ggL_law_X11_thrown : GoodIn wsL_law wsX11_thrown := goodIn_r _ [165, 161, 822, 823, 824, 825, 826, 827, 828, 829, 830, 831, 832, 833, 834, 835, 836, 837, 838, 839, 840, 841, 842, 843, 844, 845, 846, 847, 848, 849, 850, 851, 852, 853, 854, 855, 856] (by decide +kernel) (by decide +kernel)
set_option maxRecDepth 20000 in
theorem gL_law_X11_thrown : GoodIn wsL_law (wsV RL 73 RX11 yX11_thrown wsX11_thrown) := goodIn_app (goodIn_of _ (by decide +kernel)) ggL_law_X11_thrown
set_option maxRecDepth 20000 in
theorem ggL_law_L_drop : GoodIn wsL_law wsL_drop := goodIn_ca (goodIn_r _ [168, 129, 169, 170, 171, 2, 172, 16, 137, 138, 139, 140, 141, 142, 143, 144, 145, 15, 146, 37, 818, 819, 820, 821, 857] (by decide +kernel) (by decide +kernel)) (goodIn_sub (fun _ h => List.mem_append_left _ (List.mem_append_right _ h)) (by decide +kernel))
set_option maxRecDepth 20000 in
theorem gL_law_L_drop : GoodIn wsL_law (va_wsS RL 76 yL_drop wsL_drop) := goodIn_app (goodIn_of _ (by decide +kernel)) ggL_law_L_drop
set_option maxRecDepth 20000 in
theorem ggL_law_X11_drop : GoodIn wsL_law wsX11_drop := goodIn_r _ [176, 104, 151, 152, 5, 153, 154, 155, 156, 157, 158, 159, 160, 161, 822, 823, 824, 825, 826, 827, 828, 829, 830, 831, 832, 833, 834, 835, 836, 837, 838, 839, 840, 841, 842, 843, 844, 845, 846, 847, 848, 849, 850, 851, 852, 853, 854, 855, 856] (by decide +kernel) (by decide +kernel)
set_option maxRecDepth 20000 in
theorem gL_law_X11_drop : GoodIn wsL_law (wsV RL 79 RX11 yX11_drop wsX11_drop) := goodIn_app (goodIn_of _ (by decide +kernel)) ggL_law_X11_drop
set_option maxRecDepth 20000 in
theorem ggL_law_X10_documents : GoodIn wsL_law wsX10_documents := goodIn_r _ [180, 16, 181, 182, 183, 15, 184, 37, 185, 186, 187, 188, 189, 190, 191, 818, 819, 820, 821, 857] (by decide +kernel) (by decide +kernel)
set_option maxRecDepth 20000 in
theorem gL_law_X10_documents : GoodIn wsL_law (wsV RL 80 RX10 yX10_documents wsX10_documents) := goodIn_app (goodIn_of _ (by decide +kernel)) ggL_law_X10_documents
set_option maxRecDepth 20000 in
theorem ggL_law_X11_documents : GoodIn wsL_law wsX11_documents := goodIn_r _ [195, 161, 196, 197, 198, 5, 199, 104, 822, 823, 824, 825, 826, 827, 828, 829, 830, 831, 832, 833, 834, 835, 836, 837, 838, 839, 840, 841, 842, 843, 844, 845, 846, 847, 848, 849, 850, 851, 852, 853, 854, 855, 856] (by decide +kernel) (by decide +kernel)
set_option maxRecDepth 20000 in
theorem gL_law_X11_documents : GoodIn wsL_law (wsV RL 83 RX11 yX11_documents wsX11_documents) := goodIn_app (goodIn_of _ (by decide +kernel)) ggL_law_X11_documents
set_option maxRecDepth 20000 in
theorem ggL_law_L_count : GoodIn wsL_law wsL_count := goodIn_ca (goodIn_r _ [202, 129, 203, 204, 205, 2, 206, 16, 207, 208, 209, 210, 141, 142, 211, 212, 213, 214, 215, 216, 15, 217, 37, 218, 219, 185, 186, 187, 188, 189, 190, 191, 818, 819, 820, 821, 857] (by decide +kernel) (by decide +kernel)) (goodIn_sub (fun _ h => List.mem_append_left _ (List.mem_append_right _ h)) (by decide +kernel))
set_option maxRecDepth 20000 in
theorem gL_law_L_count : GoodIn wsL_law (va_wsS RL 84 yL_count wsL_count) := goodIn_app (goodIn_of _ (by decide +kernel)) ggL_law_L_count
set_option maxRecDepth 20000 in
theorem ggL_law_X11_count : GoodIn wsL_law wsX11_count := goodIn_r _ [223, 154, 155, 5, 156, 157, 158, 159, 160, 161, 224, 225, 226, 227, 104, 105, 228, 229, 230, 822, 823, 824, 825, 826, 827, 828, 829, 830, 831, 832, 833, 834, 835, 836, 837, 838, 839, 840, 841, 842, 843, 844, 845, 846, 847, 848, 849, 850, 851, 852, 853, 854, 855, 856] (by decide +kernel) (by decide +kernel)
set_option maxRecDepth 20000 in
theorem gL_law_X11_count : GoodIn wsL_law (wsV RL 86 RX11 yX11_count wsX11_count) := goodIn_app (goodIn_of _ (by decide +kernel)) ggL_law_X11_count
set_option maxRecDepth 20000 in
theorem ggL_law_L_ask : GoodIn wsL_law wsL_ask := goodIn_ca (goodIn_r _ [233, 130, 234, 235, 236, 2, 237, 20, 238, 239, 240, 241, 135, 136, 242, 243, 244, 19, 245, 246, 50, 247, 818, 819, 820, 821, 858, 859, 860, 861] (by decide +kernel) (by decide +kernel)) (goodIn_sub (fun _ h => List.mem_append_left _ (List.mem_append_left _ (List.mem_append_right _ h))) (by decide +kernel))
set_option maxRecDepth 20000 in
theorem gL_law_L_ask : GoodIn wsL_law (va_wsS RL 87 yL_ask wsL_ask) := goodIn_app (goodIn_of _ (by decide +kernel)) ggL_law_L_ask
set_option maxRecDepth 20000 in
theorem ggL_law_X11_ask : GoodIn wsL_law wsX11_ask := goodIn_r _ [251, 252, 253, 254, 255, 256, 5, 257, 154, 155, 156, 157, 158, 159, 160, 161, 822, 823, 824, 825, 826, 827, 828, 829, 830, 831, 832, 833, 834, 835, 836, 837, 838, 839, 840, 841, 842, 843, 844, 845, 846, 847, 848, 849, 850, 851, 852, 853, 854, 855, 856] (by decide +kernel) (by decide +kernel)
set_option maxRecDepth 20000 in
theorem gL_law_X11_ask : GoodIn wsL_law (wsV RL 89 RX11 yX11_ask wsX11_ask) := goodIn_app (goodIn_of _ (by decide +kernel)) ggL_law_X11_ask
set_option maxRecDepth 20000 in
theorem ggL_law_L_clause : GoodIn wsL_law wsL_clause := goodIn_ca (goodIn_ca (goodIn_r _ [260, 130, 261, 262, 263, 264, 2, 265, 266, 267, 20, 238, 239, 240, 241, 135, 136, 268, 269, 270, 19, 271, 246, 47, 272, 273, 274, 49, 275, 276, 277, 278, 279, 818, 819, 820, 821, 858, 859, 860, 861, 876, 877, 878, 879, 880] (by decide +kernel) (by decide +kernel)) (goodIn_sub (fun _ h => List.mem_append_right _ h) (by decide +kernel))) (goodIn_sub (fun _ h => List.mem_append_left _ (List.mem_append_left _ (List.mem_append_right _ h))) (by decide +kernel))
set_option maxRecDepth 20000 in
theorem gL_law_L_clause : GoodIn wsL_law (va_wsS RL 90 yL_clause wsL_clause) := goodIn_app (goodIn_of _ (by decide +kernel)) ggL_law_L_clause
set_option maxRecDepth 20000 in
theorem ggL_law_X11_clause : GoodIn wsL_law wsX11_clause := goodIn_r _ [283, 252, 106, 107, 108, 109, 255, 256, 5, 257, 154, 155, 156, 157, 158, 159, 160, 161, 822, 823, 824, 825, 826, 827, 828, 829, 830, 831, 832, 833, 834, 835, 836, 837, 838, 839, 840, 841, 842, 843, 844, 845, 846, 847, 848, 849, 850, 851, 852, 853, 854, 855, 856] (by decide +kernel) (by decide +kernel)
set_option maxRecDepth 20000 in
theorem gL_law_X11_clause : GoodIn wsL_law (wsV RL 93 RX11 yX11_clause wsX11_clause) := goodIn_app (goodIn_of _ (by decide +kernel)) ggL_law_X11_clause
set_option maxRecDepth 20000 in
theorem ggL_law_L_literal : GoodIn wsL_law wsL_literal := goodIn_ca (goodIn_ca (goodIn_r _ [286, 129, 261, 287, 288, 289, 2, 290, 141, 142, 266, 267, 20, 291, 292, 293, 294, 19, 295, 246, 47, 207, 208, 209, 210, 211, 212, 213, 296, 297, 298, 49, 299, 279, 55, 818, 819, 820, 821, 876, 877, 878, 879, 880, 858, 859, 860, 861] (by decide +kernel) (by decide +kernel)) (goodIn_sub (fun _ h => List.mem_append_left _ (List.mem_append_right _ h)) (by decide +kernel))) (goodIn_sub (fun _ h => List.mem_append_right _ h) (by decide +kernel))
set_option maxRecDepth 20000 in
theorem gL_law_L_literal : GoodIn wsL_law (va_wsS RL 94 yL_literal wsL_literal) := goodIn_app (goodIn_of _ (by decide +kernel)) ggL_law_L_literal
set_option maxRecDepth 20000 in
theorem ggL_law_X11_literal : GoodIn wsL_law wsX11_literal := goodIn_r _ [303, 252, 109, 110, 154, 155, 5, 156, 157, 158, 159, 160, 161, 822, 823, 824, 825, 826, 827, 828, 829, 830, 831, 832, 833, 834, 835, 836, 837, 838, 839, 840, 841, 842, 843, 844, 845, 846, 847, 848, 849, 850, 851, 852, 853, 854, 855, 856] (by decide +kernel) (by decide +kernel)
set_option maxRecDepth 20000 in
theorem gL_law_X11_literal : GoodIn wsL_law (wsV RL 96 RX11 yX11_literal wsX11_literal) := goodIn_app (goodIn_of _ (by decide +kernel)) ggL_law_X11_literal
set_option maxRecDepth 20000 in
theorem ggL_law_L_matches : GoodIn wsL_law wsL_matches := goodIn_ca (goodIn_r _ [306, 129, 307, 308, 309, 2, 310, 137, 138, 139, 140, 141, 142, 311, 312, 313, 314, 16, 20, 315, 316, 317, 15, 318, 37, 319, 320, 321, 19, 322, 246, 50, 247, 323, 293, 294, 295, 47, 324, 325, 326, 49, 327, 279, 55, 276, 277, 278, 218, 219, 328, 329, 818, 819, 820, 821, 857, 858, 859, 860, 861, 876, 877, 878, 879, 880] (by decide +kernel) (by decide +kernel)) (goodIn_sub (fun _ h => List.mem_append_left _ (List.mem_append_right _ h)) (by decide +kernel))
set_option maxRecDepth 20000 in
theorem gL_law_L_matches : GoodIn wsL_law (va_wsS RL 97 yL_matches wsL_matches) := goodIn_app (goodIn_of _ (by decide +kernel)) ggL_law_L_matches
set_option maxRecDepth 20000 in
theorem ggL_law_X11_matches : GoodIn wsL_law wsX11_matches := goodIn_r _ [333, 151, 152, 5, 153, 154, 155, 156, 157, 158, 159, 160, 161, 334, 335, 336, 337, 252, 109, 105, 110, 106, 107, 108, 104, 253, 254, 228, 229, 230, 338, 339, 340, 822, 823, 824, 825, 826, 827, 828, 829, 830, 831, 832, 833, 834, 835, 836, 837, 838, 839, 840, 841, 842, 843, 844, 845, 846, 847, 848, 849, 850, 851, 852, 853, 854, 855, 856] (by decide +kernel) (by decide +kernel)
set_option maxRecDepth 20000 in
theorem gL_law_X11_matches : GoodIn wsL_law (wsV RL 99 RX11 yX11_matches wsX11_matches) := goodIn_app (goodIn_of _ (by decide +kernel)) ggL_law_X11_matches
set_option maxRecDepth 20000 in
theorem ggL_law_X10_hits : GoodIn wsL_law wsX10_hits := goodIn_r _ [344, 311, 312, 313, 2, 314, 16, 20, 315, 316, 317, 15, 318, 37, 319, 320, 321, 19, 322, 246, 50, 247, 323, 293, 294, 295, 47, 324, 325, 326, 49, 327, 279, 55, 276, 277, 278, 218, 219, 328, 329, 818, 819, 820, 821, 857, 858, 859, 860, 861, 876, 877, 878, 879, 880] (by decide +kernel) (by decide +kernel)
set_option maxRecDepth 20000 in
theorem gL_law_X10_hits : GoodIn wsL_law (wsV RL 100 RX10 yX10_hits wsX10_hits) := goodIn_app (goodIn_of _ (by decide +kernel)) ggL_law_X10_hits
set_option maxRecDepth 20000 in
theorem ggL_law_X11_hits : GoodIn wsL_law wsX11_hits := goodIn_r _ [348, 161, 334, 335, 336, 5, 337, 252, 109, 105, 110, 106, 107, 108, 104, 253, 254, 228, 229, 230, 338, 339, 340, 822, 823, 824, 825, 826, 827, 828, 829, 830, 831, 832, 833, 834, 835, 836, 837, 838, 839, 840, 841, 842, 843, 844, 845, 846, 847, 848, 849, 850, 851, 852, 853, 854, 855, 856] (by decide +kernel) (by decide +kernel)
set_option maxRecDepth 20000 in
theorem gL_law_X11_hits : GoodIn wsL_law (wsV RL 103 RX11 yX11_hits wsX11_hits) := goodIn_app (goodIn_of _ (by decide +kernel)) ggL_law_X11_hits
set_option maxRecDepth 20000 in
theorem ggL_law_X10_planKind : GoodIn wsL_law wsX10_planKind := goodIn_r _ [352, 27, 20, 16, 353, 354, 355, 356, 357, 23, 358, 359, 360, 63, 361, 362, 363, 182, 183, 15, 184, 37, 364, 365, 366, 367, 68, 368, 369, 370, 371, 372, 373, 374, 375, 376, 377, 378, 379, 380, 293, 294, 19, 295, 246, 47, 381, 382, 383, 65, 384, 385, 386, 387, 388, 389, 390, 391, 392, 393, 394, 395, 396, 397, 398, 399, 400, 401, 402, 403, 404, 405, 406, 407, 408, 409, 410, 411, 412, 413, 414, 415, 82, 416, 417, 418, 419, 2, 420, 421, 422, 423, 424, 425, 426, 427, 428, 429, 430, 431, 71, 432, 433, 215, 216, 217, 218, 219, 434, 435, 436, 84, 437, 438, 439, 440, 441, 442, 443, 444, 445, 446, 186, 187, 188, 189, 190, 191, 447, 448, 449, 450, 451, 452, 453, 454, 455, 456, 457, 458, 459, 460, 461, 462, 463, 464, 465, 466, 467, 468, 469, 470, 471, 472, 473, 474, 475, 476, 477, 478, 479, 480, 481, 482, 483, 484, 485, 486, 487, 488, 489, 490, 491, 492, 493, 494, 495, 496, 497, 498, 499, 500, 501, 502, 503, 504, 505, 506, 507, 508, 509, 510, 511, 512, 513, 514, 515, 516, 517, 518, 519, 520, 521, 522, 523, 524, 525, 526, 527, 528, 529, 530, 531, 532, 818, 819, 820, 821, 862, 863, 864, 865, 866, 867, 868, 869, 870, 881, 882, 883, 884, 885, 886, 887, 888, 889, 858, 859, 860, 861, 857, 890, 891, 892, 893, 894, 895, 876, 877, 878, 879, 880] (by decide +kernel) (by decide +kernel)
set_option maxRecDepth 20000 in
theorem gL_law_X10_planKind : GoodIn wsL_law (wsV RL 104 RX10 yX10_planKind wsX10_planKind) := goodIn_app (goodIn_of _ (by decide +kernel)) ggL_law_X10_planKind
set_option maxRecDepth 20000 in
theorem ggL_law_X11_planKind : GoodIn wsL_law wsX11_planKind := goodIn_r _ [536, 161, 537, 538, 539, 540, 5, 541, 253, 254, 542, 543, 252, 111, 116, 115, 544, 545, 546, 547, 106, 107, 113, 109, 110, 114, 108, 112, 548, 549, 550, 154, 155, 156, 551, 552, 553, 554, 555, 556, 557, 558, 559, 560, 561, 562, 563, 564, 565, 566, 224, 225, 226, 227, 104, 105, 228, 229, 230, 567, 568, 569, 570, 571, 572, 573, 574, 196, 197, 198, 199, 822, 823, 824, 825, 826, 827, 828, 829, 830, 831, 832, 833, 834, 835, 836, 837, 838, 839, 840, 841, 842, 843, 844, 845, 846, 847, 848, 849, 850, 851, 852, 853, 854, 855, 856] (by decide +kernel) (by decide +kernel)
set_option maxRecDepth 20000 in
theorem gL_law_X11_planKind : GoodIn wsL_law (wsV RL 107 RX11 yX11_planKind wsX11_planKind) := goodIn_app (goodIn_of _ (by decide +kernel)) ggL_law_X11_planKind
set_option maxRecDepth 20000 in
theorem ggL_law_X10_planNeed : GoodIn wsL_law wsX10_planNeed := goodIn_r _ [578, 27, 20, 16, 353, 354, 579, 513, 355, 356, 357, 23, 358, 359, 360, 63, 361, 362, 363, 182, 183, 15, 184, 37, 364, 365, 366, 367, 68, 368, 369, 370, 371, 372, 373, 374, 375, 376, 377, 378, 379, 380, 293, 294, 19, 295, 246, 47, 381, 382, 383, 65, 384, 385, 386, 387, 388, 389, 390, 391, 392, 393, 394, 395, 396, 397, 398, 399, 400, 401, 402, 403, 404, 405, 406, 407, 408, 409, 410, 411, 412, 413, 414, 415, 82, 416, 417, 418, 419, 2, 420, 421, 422, 423, 424, 425, 426, 427, 428, 429, 430, 431, 71, 432, 433, 215, 216, 217, 218, 219, 434, 435, 436, 84, 437, 438, 439, 440, 441, 442, 443, 444, 445, 446, 186, 187, 188, 189, 190, 191, 447, 448, 449, 450, 451, 452, 453, 454, 455, 456, 457, 458, 459, 460, 461, 462, 463, 464, 465, 466, 467, 468, 469, 470, 471, 472, 473, 474, 475, 476, 477, 478, 479, 480, 481, 482, 483, 484, 485, 486, 487, 488, 489, 490, 491, 492, 493, 494, 495, 496, 497, 498, 499, 500, 501, 502, 503, 504, 505, 506, 507, 508, 509, 510, 511, 512, 514, 515, 516, 517, 518, 519, 520, 521, 522, 523, 524, 525, 526, 527, 528, 529, 530, 531, 532, 818, 819, 820, 821, 862, 863, 864, 865, 866, 867, 868, 869, 870, 881, 882, 883, 884, 885, 886, 887, 888, 889, 858, 859, 860, 861, 857, 890, 891, 892, 893, 894, 895, 876, 877, 878, 879, 880] (by decide +kernel) (by decide +kernel)
set_option maxRecDepth 20000 in
theorem gL_law_X10_planNeed : GoodIn wsL_law (wsV RL 108 RX10 yX10_planNeed wsX10_planNeed) := goodIn_app (goodIn_of _ (by decide +kernel)) ggL_law_X10_planNeed
set_option maxRecDepth 20000 in
theorem ggL_law_X11_planNeed : GoodIn wsL_law wsX11_planNeed := goodIn_r _ [583, 161, 542, 538, 539, 540, 5, 541, 253, 537, 254, 543, 252, 111, 116, 115, 544, 545, 546, 547, 106, 107, 113, 109, 110, 114, 108, 112, 548, 549, 550, 154, 155, 156, 551, 552, 553, 554, 555, 556, 557, 558, 559, 560, 561, 562, 563, 564, 565, 566, 224, 225, 226, 227, 104, 105, 228, 229, 230, 567, 568, 569, 570, 571, 572, 573, 574, 196, 197, 198, 199, 822, 823, 824, 825, 826, 827, 828, 829, 830, 831, 832, 833, 834, 835, 836, 837, 838, 839, 840, 841, 842, 843, 844, 845, 846, 847, 848, 849, 850, 851, 852, 853, 854, 855, 856] (by decide +kernel) (by decide +kernel)
set_option maxRecDepth 20000 in
theorem gL_law_X11_planNeed : GoodIn wsL_law (wsV RL 111 RX11 yX11_planNeed wsX11_planNeed) := goodIn_app (goodIn_of _ (by decide +kernel)) ggL_law_X11_planNeed
set_option maxRecDepth 20000 in
theorem ggL_law_X10_planSize : GoodIn wsL_law wsX10_planSize := goodIn_r _ [587, 27, 20, 16, 588, 362, 355, 356, 357, 23, 358, 359, 360, 63, 361, 363, 182, 183, 15, 184, 37, 364, 365, 366, 367, 68, 368, 369, 370, 371, 372, 373, 374, 375, 376, 377, 378, 379, 380, 293, 294, 19, 295, 246, 47, 381, 382, 383, 65, 384, 385, 386, 387, 388, 389, 390, 391, 392, 393, 394, 395, 396, 397, 398, 399, 400, 401, 402, 403, 404, 405, 406, 407, 408, 409, 410, 411, 412, 413, 414, 415, 82, 416, 417, 418, 419, 2, 420, 421, 422, 423, 424, 425, 426, 427, 428, 429, 430, 431, 71, 432, 433, 215, 216, 217, 218, 219, 434, 435, 436, 84, 437, 438, 439, 440, 441, 442, 443, 444, 445, 446, 186, 187, 188, 189, 190, 191, 447, 448, 449, 450, 451, 452, 453, 454, 455, 456, 457, 458, 459, 460, 461, 462, 463, 464, 465, 466, 467, 468, 469, 470, 471, 472, 473, 474, 475, 476, 477, 478, 479, 480, 481, 482, 483, 484, 485, 486, 487, 488, 489, 490, 491, 492, 493, 494, 495, 496, 497, 498, 499, 500, 501, 502, 503, 504, 505, 506, 507, 508, 509, 510, 511, 354, 512, 513, 514, 515, 516, 517, 518, 519, 520, 521, 522, 523, 524, 525, 526, 527, 528, 529, 530, 531, 532, 818, 819, 820, 821, 862, 863, 864, 865, 866, 867, 868, 869, 870, 881, 882, 883, 884, 885, 886, 887, 888, 889, 858, 859, 860, 861, 857, 890, 891, 892, 893, 894, 895, 876, 877, 878, 879, 880] (by decide +kernel) (by decide +kernel)
set_option maxRecDepth 20000 in
theorem gL_law_X10_planSize : GoodIn wsL_law (wsV RL 112 RX10 yX10_planSize wsX10_planSize) := goodIn_app (goodIn_of _ (by decide +kernel)) ggL_law_X10_planSize
set_option maxRecDepth 20000 in
theorem ggL_law_X11_planSize : GoodIn wsL_law wsX11_planSize := goodIn_r _ [592, 161, 543, 538, 539, 540, 5, 541, 253, 537, 254, 542, 252, 111, 116, 115, 544, 545, 546, 547, 106, 107, 113, 109, 110, 114, 108, 112, 548, 549, 550, 154, 155, 156, 551, 552, 553, 554, 555, 556, 557, 558, 559, 560, 561, 562, 563, 564, 565, 566, 224, 225, 226, 227, 104, 105, 228, 229, 230, 567, 568, 569, 570, 571, 572, 573, 574, 196, 197, 198, 199, 822, 823, 824, 825, 826, 827, 828, 829, 830, 831, 832, 833, 834, 835, 836, 837, 838, 839, 840, 841, 842, 843, 844, 845, 846, 847, 848, 849, 850, 851, 852, 853, 854, 855, 856] (by decide +kernel) (by decide +kernel)
set_option maxRecDepth 20000 in
theorem gL_law_X11_planSize : GoodIn wsL_law (wsV RL 115 RX11 yX11_planSize wsX11_planSize) := goodIn_app (goodIn_of _ (by decide +kernel)) ggL_law_X11_planSize
set_option maxRecDepth 20000 in
theorem ggL_law_X10_estimate : GoodIn wsL_law wsX10_estimate := goodIn_r _ [596, 27, 20, 16, 597, 598, 355, 356, 357, 23, 358, 359, 360, 63, 361, 362, 363, 182, 183, 15, 184, 37, 364, 365, 366, 367, 68, 368, 369, 370, 371, 372, 373, 374, 375, 376, 377, 378, 379, 380, 293, 294, 19, 295, 246, 47, 381, 382, 383, 65, 384, 385, 386, 387, 388, 389, 390, 391, 392, 393, 394, 395, 396, 397, 398, 399, 400, 401, 402, 403, 404, 405, 406, 407, 408, 409, 410, 411, 412, 413, 414, 415, 82, 416, 417, 418, 419, 2, 420, 421, 422, 423, 424, 425, 426, 427, 428, 429, 430, 431, 71, 432, 433, 215, 216, 217, 218, 219, 434, 435, 436, 84, 437, 438, 439, 440, 441, 442, 443, 444, 445, 446, 186, 187, 188, 189, 190, 191, 447, 448, 449, 450, 451, 452, 453, 454, 455, 456, 457, 458, 459, 460, 461, 462, 463, 464, 465, 466, 467, 468, 469, 470, 471, 472, 473, 474, 475, 476, 477, 478, 479, 480, 481, 482, 483, 484, 485, 486, 487, 488, 489, 490, 491, 492, 493, 494, 495, 496, 497, 498, 499, 500, 501, 502, 503, 504, 505, 506, 507, 508, 509, 510, 511, 354, 512, 513, 514, 515, 516, 517, 518, 519, 520, 521, 522, 523, 524, 525, 526, 527, 528, 529, 530, 531, 532, 818, 819, 820, 821, 862, 863, 864, 865, 866, 867, 868, 869, 870, 881, 882, 883, 884, 885, 886, 887, 888, 889, 890, 891, 892, 893, 894, 895, 858, 859, 860, 861, 857, 876, 877, 878, 879, 880] (by decide +kernel) (by decide +kernel)
set_option maxRecDepth 20000 in
theorem gL_law_X10_estimate : GoodIn wsL_law (wsV RL 116 RX10 yX10_estimate wsX10_estimate) := goodIn_app (goodIn_of _ (by decide +kernel)) ggL_law_X10_estimate
set_option maxRecDepth 20000 in
theorem ggL_law_X11_estimate : GoodIn wsL_law wsX11_estimate := goodIn_r _ [602, 161, 538, 539, 540, 5, 541, 253, 537, 254, 542, 543, 252, 111, 116, 115, 544, 545, 546, 547, 106, 107, 113, 109, 110, 114, 108, 112, 548, 549, 550, 154, 155, 156, 551, 552, 553, 554, 555, 556, 557, 558, 559, 560, 561, 562, 563, 564, 565, 566, 224, 225, 226, 227, 104, 105, 228, 229, 230, 567, 568, 569, 570, 571, 572, 573, 574, 196, 197, 198, 199, 603, 604, 605, 606, 822, 823, 824, 825, 826, 827, 828, 829, 830, 831, 832, 833, 834, 835, 836, 837, 838, 839, 840, 841, 842, 843, 844, 845, 846, 847, 848, 849, 850, 851, 852, 853, 854, 855, 856] (by decide +kernel) (by decide +kernel)
set_option maxRecDepth 20000 in
theorem gL_law_X11_estimate : GoodIn wsL_law (wsV RL 119 RX11 yX11_estimate wsX11_estimate) := goodIn_app (goodIn_of _ (by decide +kernel)) ggL_law_X11_estimate
set_option maxRecDepth 20000 in
theorem ggL_law_L_clauseAt : GoodIn wsL_law wsL_clauseAt := goodIn_ca (goodIn_r _ [609, 130, 610, 611, 612, 2, 613, 614, 80, 615, 616, 617, 618, 135, 136, 27, 20, 16, 355, 356, 357, 23, 358, 359, 360, 63, 361, 362, 363, 182, 183, 15, 184, 37, 364, 365, 366, 367, 68, 368, 369, 370, 371, 372, 373, 374, 375, 376, 377, 378, 379, 380, 293, 294, 19, 295, 246, 47, 381, 382, 383, 65, 384, 385, 386, 387, 388, 389, 390, 391, 392, 393, 394, 395, 396, 397, 398, 399, 400, 401, 402, 403, 404, 405, 406, 407, 408, 409, 410, 411, 412, 413, 414, 415, 82, 416, 417, 418, 419, 420, 421, 422, 423, 424, 425, 426, 427, 428, 429, 430, 431, 71, 432, 433, 215, 216, 217, 218, 219, 434, 435, 436, 84, 437, 438, 439, 440, 441, 442, 443, 444, 445, 446, 186, 187, 188, 189, 190, 191, 447, 448, 449, 450, 451, 452, 453, 454, 455, 456, 457, 458, 459, 460, 461, 462, 463, 464, 465, 466, 467, 468, 469, 470, 471, 472, 473, 474, 475, 476, 477, 478, 479, 480, 481, 482, 483, 484, 485, 486, 487, 488, 489, 490, 491, 492, 493, 494, 495, 496, 497, 498, 499, 500, 501, 502, 503, 504, 505, 506, 507, 508, 509, 510, 511, 354, 512, 513, 514, 515, 516, 517, 518, 519, 520, 521, 522, 523, 524, 525, 526, 527, 528, 529, 530, 531, 532, 619, 620, 621, 622, 623, 624, 625, 626, 862, 863, 864, 865, 866, 867, 868, 869, 870, 881, 882, 883, 884, 885, 886, 887, 888, 889, 890, 891, 892, 893, 894, 895, 818, 819, 820, 821, 858, 859, 860, 861, 857, 876, 877, 878, 879, 880] (by decide +kernel) (by decide +kernel)) (goodIn_sub (fun _ h => List.mem_append_left _ (List.mem_append_left _ (List.mem_append_right _ h))) (by decide +kernel))
set_option maxRecDepth 20000 in
theorem gL_law_L_clauseAt : GoodIn wsL_law (va_wsS RL 120 yL_clauseAt wsL_clauseAt) := goodIn_app (goodIn_of _ (by decide +kernel)) ggL_law_L_clauseAt
set_option maxRecDepth 20000 in
theorem ggL_law_X11_clauseAt : GoodIn wsL_law wsX11_clauseAt := goodIn_r _ [630, 116, 631, 632, 633, 5, 634, 543, 538, 539, 540, 541, 253, 537, 254, 542, 252, 111, 115, 544, 545, 546, 547, 106, 107, 113, 109, 110, 114, 108, 112, 548, 549, 550, 154, 155, 156, 551, 552, 553, 554, 555, 556, 557, 558, 559, 560, 561, 562, 563, 564, 565, 566, 224, 225, 226, 227, 104, 105, 228, 229, 230, 567, 568, 569, 570, 571, 572, 573, 574, 196, 197, 198, 199, 157, 158, 159, 160, 161, 822, 823, 824, 825, 826, 827, 828, 829, 830, 831, 832, 833, 834, 835, 836, 837, 838, 839, 840, 841, 842, 843, 844, 845, 846, 847, 848, 849, 850, 851, 852, 853, 854, 855, 856] (by decide +kernel) (by decide +kernel)
set_option maxRecDepth 20000 in
theorem gL_law_X11_clauseAt : GoodIn wsL_law (wsV RL 122 RX11 yX11_clauseAt wsX11_clauseAt) := goodIn_app (goodIn_of _ (by decide +kernel)) ggL_law_X11_clauseAt
set_option maxRecDepth 20000 in
theorem ggL_law_L_kindAt : GoodIn wsL_law wsL_kindAt := goodIn_ca (goodIn_r _ [637, 130, 638, 639, 640, 2, 641, 642, 397, 615, 616, 617, 618, 135, 136, 27, 20, 16, 355, 356, 357, 23, 358, 359, 360, 63, 361, 362, 363, 182, 183, 15, 184, 37, 364, 365, 366, 367, 68, 368, 369, 370, 371, 372, 373, 374, 375, 376, 377, 378, 379, 380, 293, 294, 19, 295, 246, 47, 381, 382, 383, 65, 384, 385, 386, 387, 388, 389, 390, 391, 392, 393, 394, 395, 396, 398, 399, 400, 401, 402, 403, 404, 405, 406, 407, 408, 409, 410, 411, 412, 413, 414, 415, 82, 416, 417, 418, 419, 420, 421, 422, 423, 424, 425, 426, 427, 428, 429, 430, 431, 71, 432, 433, 215, 216, 217, 218, 219, 434, 435, 436, 84, 437, 438, 439, 440, 441, 442, 443, 444, 445, 446, 186, 187, 188, 189, 190, 191, 447, 448, 449, 450, 451, 452, 453, 454, 455, 456, 457, 458, 459, 460, 461, 462, 463, 464, 465, 466, 467, 468, 469, 470, 471, 472, 473, 474, 475, 476, 477, 478, 479, 480, 481, 482, 483, 484, 485, 486, 487, 488, 489, 490, 491, 492, 493, 494, 495, 496, 497, 498, 499, 500, 501, 502, 503, 504, 505, 506, 507, 508, 509, 510, 511, 354, 512, 513, 514, 515, 516, 517, 518, 519, 520, 521, 522, 523, 524, 525, 526, 527, 528, 529, 530, 531, 532, 619, 620, 621, 622, 623, 624, 625, 626, 862, 863, 864, 865, 866, 867, 868, 869, 870, 881, 882, 883, 884, 885, 886, 887, 888, 889, 818, 819, 820, 821, 858, 859, 860, 861, 857, 890, 891, 892, 893, 894, 895, 876, 877, 878, 879, 880] (by decide +kernel) (by decide +kernel)) (goodIn_sub (fun _ h => List.mem_append_left _ (List.mem_append_left _ (List.mem_append_right _ h))) (by decide +kernel))
set_option maxRecDepth 20000 in
theorem gL_law_L_kindAt : GoodIn wsL_law (va_wsS RL 123 yL_kindAt wsL_kindAt) := goodIn_app (goodIn_of _ (by decide +kernel)) ggL_law_L_kindAt
set_option maxRecDepth 20000 in
theorem ggL_law_X11_kindAt : GoodIn wsL_law wsX11_kindAt := goodIn_r _ [646, 111, 116, 631, 632, 633, 5, 634, 543, 538, 539, 540, 541, 253, 537, 254, 542, 252, 115, 544, 545, 546, 547, 106, 107, 113, 109, 110, 114, 108, 112, 548, 549, 550, 154, 155, 156, 551, 552, 553, 554, 555, 556, 557, 558, 559, 560, 561, 562, 563, 564, 565, 566, 224, 225, 226, 227, 104, 105, 228, 229, 230, 567, 568, 569, 570, 571, 572, 573, 574, 196, 197, 198, 199, 157, 158, 159, 160, 161, 822, 823, 824, 825, 826, 827, 828, 829, 830, 831, 832, 833, 834, 835, 836, 837, 838, 839, 840, 841, 842, 843, 844, 845, 846, 847, 848, 849, 850, 851, 852, 853, 854, 855, 856] (by decide +kernel) (by decide +kernel)
set_option maxRecDepth 20000 in
theorem gL_law_X11_kindAt : GoodIn wsL_law (wsV RL 125 RX11 yX11_kindAt wsX11_kindAt) := goodIn_app (goodIn_of _ (by decide +kernel)) ggL_law_X11_kindAt
set_option maxRecDepth 20000 in
theorem ggL_law_L_estimateAt : GoodIn wsL_law wsL_estimateAt := goodIn_ca (goodIn_r _ [649, 130, 650, 651, 652, 2, 653, 654, 655, 615, 616, 617, 618, 135, 136, 27, 20, 16, 355, 356, 357, 23, 358, 359, 360, 63, 361, 362, 363, 182, 183, 15, 184, 37, 364, 365, 366, 367, 68, 368, 369, 370, 371, 372, 373, 374, 375, 376, 377, 378, 379, 380, 293, 294, 19, 295, 246, 47, 381, 382, 383, 65, 384, 385, 386, 387, 388, 389, 390, 391, 392, 393, 394, 395, 396, 397, 398, 399, 400, 401, 402, 403, 404, 405, 406, 407, 408, 409, 410, 411, 412, 413, 414, 415, 82, 416, 417, 418, 419, 420, 421, 422, 423, 424, 425, 426, 427, 428, 429, 430, 431, 71, 432, 433, 215, 216, 217, 218, 219, 434, 435, 436, 84, 437, 438, 439, 440, 441, 442, 443, 444, 445, 446, 186, 187, 188, 189, 190, 191, 447, 448, 449, 450, 451, 452, 453, 454, 455, 456, 457, 458, 459, 460, 461, 462, 463, 464, 465, 466, 467, 468, 469, 470, 471, 472, 473, 474, 475, 476, 477, 478, 479, 480, 481, 482, 483, 484, 485, 486, 487, 488, 489, 490, 491, 492, 493, 494, 495, 496, 497, 498, 499, 500, 501, 502, 503, 504, 505, 506, 507, 508, 509, 510, 511, 354, 512, 513, 514, 515, 516, 517, 518, 519, 520, 521, 522, 523, 524, 525, 526, 527, 528, 529, 530, 531, 532, 619, 620, 621, 622, 623, 624, 625, 626, 862, 863, 864, 865, 866, 867, 868, 869, 870, 881, 882, 883, 884, 885, 886, 887, 888, 889, 890, 891, 892, 893, 894, 895, 818, 819, 820, 821, 858, 859, 860, 861, 857, 876, 877, 878, 879, 880] (by decide +kernel) (by decide +kernel)) (goodIn_sub (fun _ h => List.mem_append_left _ (List.mem_append_left _ (List.mem_append_right _ h))) (by decide +kernel))
set_option maxRecDepth 20000 in
theorem gL_law_L_estimateAt : GoodIn wsL_law (va_wsS RL 126 yL_estimateAt wsL_estimateAt) := goodIn_app (goodIn_of _ (by decide +kernel)) ggL_law_L_estimateAt
set_option maxRecDepth 20000 in
theorem ggL_law_X11_estimateAt : GoodIn wsL_law wsX11_estimateAt := goodIn_r _ [659, 115, 116, 631, 632, 633, 5, 634, 543, 538, 539, 540, 541, 253, 537, 254, 542, 252, 111, 544, 545, 546, 547, 106, 107, 113, 109, 110, 114, 108, 112, 548, 549, 550, 154, 155, 156, 551, 552, 553, 554, 555, 556, 557, 558, 559, 560, 561, 562, 563, 564, 565, 566, 224, 225, 226, 227, 104, 105, 228, 229, 230, 567, 568, 569, 570, 571, 572, 573, 574, 196, 197, 198, 199, 157, 158, 159, 160, 161, 822, 823, 824, 825, 826, 827, 828, 829, 830, 831, 832, 833, 834, 835, 836, 837, 838, 839, 840, 841, 842, 843, 844, 845, 846, 847, 848, 849, 850, 851, 852, 853, 854, 855, 856] (by decide +kernel) (by decide +kernel)
set_option maxRecDepth 20000 in
theorem gL_law_X11_estimateAt : GoodIn wsL_law (wsV RL 128 RX11 yX11_estimateAt wsX11_estimateAt) := goodIn_app (goodIn_of _ (by decide +kernel)) ggL_law_X11_estimateAt
set_option maxRecDepth 20000 in
theorem ggL_law_L_literalAt : GoodIn wsL_law wsL_literalAt := goodIn_ca (goodIn_r _ [662, 130, 663, 664, 665, 2, 666, 135, 136, 667, 615, 616, 617, 618, 27, 20, 16, 355, 356, 357, 23, 358, 359, 360, 63, 361, 362, 363, 182, 183, 15, 184, 37, 364, 365, 366, 367, 68, 368, 369, 370, 371, 372, 373, 374, 375, 376, 377, 378, 379, 380, 293, 294, 19, 295, 246, 47, 381, 382, 383, 65, 384, 385, 386, 387, 388, 389, 390, 391, 392, 393, 394, 395, 396, 397, 398, 399, 400, 401, 402, 403, 404, 405, 406, 407, 408, 409, 410, 411, 412, 413, 414, 415, 82, 416, 417, 418, 419, 420, 421, 422, 423, 424, 425, 426, 427, 428, 429, 430, 431, 71, 432, 433, 215, 216, 217, 218, 219, 434, 435, 436, 84, 437, 438, 439, 440, 441, 442, 443, 444, 445, 446, 186, 187, 188, 189, 190, 191, 447, 448, 449, 450, 451, 452, 453, 454, 455, 456, 457, 458, 459, 460, 461, 462, 463, 464, 465, 466, 467, 468, 469, 470, 471, 472, 473, 474, 475, 476, 477, 478, 479, 480, 481, 482, 483, 484, 485, 486, 487, 488, 489, 490, 491, 492, 493, 494, 495, 496, 497, 498, 499, 500, 501, 502, 503, 504, 505, 506, 507, 508, 509, 510, 511, 354, 512, 513, 514, 515, 516, 517, 518, 519, 520, 521, 522, 523, 524, 525, 526, 527, 528, 529, 530, 531, 532, 619, 620, 621, 622, 623, 624, 625, 626, 668, 862, 863, 864, 865, 866, 867, 868, 869, 870, 881, 882, 883, 884, 885, 886, 887, 888, 889, 890, 891, 892, 893, 894, 895, 818, 819, 820, 821, 858, 859, 860, 861, 857, 876, 877, 878, 879, 880] (by decide +kernel) (by decide +kernel)) (goodIn_sub (fun _ h => List.mem_append_left _ (List.mem_append_left _ (List.mem_append_right _ h))) (by decide +kernel))
set_option maxRecDepth 20000 in
theorem gL_law_L_literalAt : GoodIn wsL_law (va_wsS RL 129 yL_literalAt wsL_literalAt) := goodIn_app (goodIn_of _ (by decide +kernel)) ggL_law_L_literalAt
set_option maxRecDepth 20000 in
theorem ggL_law_X11_literalAt : GoodIn wsL_law wsX11_literalAt := goodIn_r _ [672, 113, 116, 114, 631, 632, 633, 5, 634, 543, 538, 539, 540, 541, 253, 537, 254, 542, 252, 111, 115, 544, 545, 546, 547, 106, 107, 109, 110, 108, 112, 548, 549, 550, 154, 155, 156, 551, 552, 553, 554, 555, 556, 557, 558, 559, 560, 561, 562, 563, 564, 565, 566, 224, 225, 226, 227, 104, 105, 228, 229, 230, 567, 568, 569, 570, 571, 572, 573, 574, 196, 197, 198, 199, 157, 158, 159, 160, 161, 822, 823, 824, 825, 826, 827, 828, 829, 830, 831, 832, 833, 834, 835, 836, 837, 838, 839, 840, 841, 842, 843, 844, 845, 846, 847, 848, 849, 850, 851, 852, 853, 854, 855, 856] (by decide +kernel) (by decide +kernel)
set_option maxRecDepth 20000 in
theorem gL_law_X11_literalAt : GoodIn wsL_law (wsV RL 131 RX11 yX11_literalAt wsX11_literalAt) := goodIn_app (goodIn_of _ (by decide +kernel)) ggL_law_X11_literalAt
set_option maxRecDepth 20000 in
theorem ggL_law_X10_begin : GoodIn wsL_law wsX10_begin := goodIn_r _ [676, 31, 20, 16, 677, 678, 679, 30, 680, 97, 95, 681, 682, 683, 684, 598, 685, 356, 357, 23, 358, 359, 360, 63, 361, 362, 363, 182, 183, 15, 184, 37, 364, 365, 366, 367, 68, 368, 369, 370, 371, 372, 373, 374, 375, 376, 377, 378, 379, 380, 293, 294, 19, 295, 246, 47, 381, 382, 383, 65, 384, 385, 386, 387, 388, 389, 390, 391, 392, 393, 394, 395, 396, 397, 398, 399, 400, 401, 402, 403, 404, 405, 406, 407, 408, 409, 410, 411, 412, 413, 414, 415, 82, 416, 417, 418, 419, 2, 420, 421, 422, 423, 424, 425, 426, 427, 428, 429, 430, 431, 71, 432, 433, 215, 216, 217, 218, 219, 434, 435, 436, 84, 437, 438, 439, 440, 441, 442, 443, 444, 445, 446, 186, 187, 188, 189, 190, 191, 447, 448, 449, 450, 451, 452, 453, 454, 455, 456, 457, 458, 459, 460, 461, 462, 463, 464, 465, 466, 467, 468, 469, 470, 471, 472, 473, 474, 475, 476, 477, 478, 479, 480, 481, 482, 483, 484, 485, 486, 487, 488, 489, 490, 491, 492, 493, 494, 495, 496, 497, 498, 499, 500, 501, 502, 503, 504, 505, 506, 507, 508, 509, 510, 511, 354, 512, 513, 514, 515, 516, 517, 518, 519, 520, 521, 522, 523, 524, 525, 526, 527, 528, 529, 530, 531, 532, 818, 819, 820, 821, 872, 873, 874, 875, 871, 862, 863, 864, 865, 866, 867, 868, 869, 870, 881, 882, 883, 884, 885, 886, 887, 888, 889, 890, 891, 892, 893, 894, 895, 858, 859, 860, 861, 857, 876, 877, 878, 879, 880] (by decide +kernel) (by decide +kernel)
set_option maxRecDepth 20000 in
theorem gL_law_X10_begin : GoodIn wsL_law (wsV RL 132 RX10 yX10_begin wsX10_begin) := goodIn_app (goodIn_of _ (by decide +kernel)) ggL_law_X10_begin
set_option maxRecDepth 20000 in
theorem ggL_law_X11_begin : GoodIn wsL_law wsX11_begin := goodIn_r _ [689, 161, 690, 117, 104, 118, 105, 537, 691, 542, 692, 543, 693, 116, 119, 111, 120, 112, 121, 113, 124, 122, 114, 123, 694, 695, 696, 538, 539, 540, 5, 541, 253, 254, 252, 115, 544, 545, 546, 547, 106, 107, 109, 110, 108, 548, 549, 550, 154, 155, 156, 551, 552, 553, 554, 555, 556, 557, 558, 559, 560, 561, 562, 563, 564, 565, 566, 224, 225, 226, 227, 228, 229, 230, 567, 568, 569, 570, 571, 572, 573, 574, 196, 197, 198, 199, 603, 604, 605, 606, 822, 823, 824, 825, 826, 827, 828, 829, 830, 831, 832, 833, 834, 835, 836, 837, 838, 839, 840, 841, 842, 843, 844, 845, 846, 847, 848, 849, 850, 851, 852, 853, 854, 855, 856] (by decide +kernel) (by decide +kernel)
set_option maxRecDepth 20000 in
theorem gL_law_X11_begin : GoodIn wsL_law (wsV RL 135 RX11 yX11_begin wsX11_begin) := goodIn_app (goodIn_of _ (by decide +kernel)) ggL_law_X11_begin
set_option maxRecDepth 20000 in
theorem ggL_law_L_leap : GoodIn wsL_law wsL_leap := goodIn_ca (goodIn_ca (goodIn_r _ [699, 129, 261, 700, 701, 702, 2, 703, 31, 137, 138, 139, 140, 141, 142, 704, 705, 706, 707, 266, 267, 708, 709, 710, 711, 30, 712, 683, 713, 714, 479, 715, 97, 716, 717, 718, 719, 68, 720, 373, 374, 369, 372, 721, 722, 723, 724, 725, 726, 727, 728, 729, 730, 731, 732, 733, 734, 735, 736, 737, 738, 371, 427, 428, 429, 430, 431, 71, 432, 739, 740, 741, 742, 743, 744, 84, 745, 444, 445, 439, 89, 746, 747, 748, 749, 750, 440, 441, 438, 446, 186, 187, 188, 189, 190, 191, 751, 477, 478, 480, 752, 753, 754, 755, 756, 757, 758, 370, 759, 760, 761, 762, 763, 764, 765, 818, 819, 820, 821, 872, 873, 874, 875, 862, 863, 864, 865, 866, 867, 868, 869, 870, 881, 882, 883, 884, 885, 886, 887, 888, 889, 890, 891, 892, 893, 894, 895, 871] (by decide +kernel) (by decide +kernel)) (goodIn_sub (fun _ h => List.mem_append_left _ (List.mem_append_right _ h)) (by decide +kernel))) (goodIn_sub (fun _ h => List.mem_append_right _ h) (by decide +kernel))
set_option maxRecDepth 20000 in
theorem gL_law_L_leap : GoodIn wsL_law (va_wsS RL 136 yL_leap wsL_leap) := goodIn_app (goodIn_of _ (by decide +kernel)) ggL_law_L_leap
set_option maxRecDepth 20000 in
theorem ggL_law_X11_leap : GoodIn wsL_law wsX11_leap := goodIn_r _ [769, 690, 151, 152, 5, 153, 154, 155, 156, 157, 158, 159, 160, 161, 770, 771, 772, 773, 694, 695, 774, 775, 776, 777, 691, 117, 693, 124, 692, 778, 779, 780, 781, 119, 121, 123, 120, 782, 783, 784, 785, 122, 118, 696, 228, 229, 230, 786, 787, 788, 789, 790, 791, 792, 793, 822, 823, 824, 825, 826, 827, 828, 829, 830, 831, 832, 833, 834, 835, 836, 837, 838, 839, 840, 841, 842, 843, 844, 845, 846, 847, 848, 849, 850, 851, 852, 853, 854, 855, 856] (by decide +kernel) (by decide +kernel)
set_option maxRecDepth 20000 in
theorem gL_law_X11_leap : GoodIn wsL_law (wsV RL 138 RX11 yX11_leap wsX11_leap) := goodIn_app (goodIn_of _ (by decide +kernel)) ggL_law_X11_leap
set_option maxRecDepth 20000 in
theorem ggL_law_L_next : GoodIn wsL_law wsL_next := goodIn_ca (goodIn_r _ [796, 261, 797, 798, 799, 2, 800, 31, 704, 705, 706, 707, 266, 267, 708, 709, 710, 711, 30, 712, 683, 713, 714, 479, 715, 97, 716, 717, 718, 719, 68, 720, 373, 374, 369, 372, 721, 722, 723, 724, 725, 726, 727, 728, 729, 730, 731, 732, 733, 734, 735, 736, 737, 738, 371, 427, 428, 429, 430, 431, 71, 432, 739, 740, 741, 742, 743, 744, 84, 745, 444, 445, 439, 89, 746, 747, 748, 749, 750, 440, 441, 438, 446, 186, 187, 188, 189, 190, 191, 751, 477, 478, 480, 752, 753, 754, 755, 756, 757, 758, 370, 759, 760, 761, 762, 763, 764, 765, 818, 819, 820, 821, 872, 873, 874, 875, 862, 863, 864, 865, 866, 867, 868, 869, 870, 881, 882, 883, 884, 885, 886, 887, 888, 889, 890, 891, 892, 893, 894, 895, 871] (by decide +kernel) (by decide +kernel)) (goodIn_sub (fun _ h => List.mem_append_right _ h) (by decide +kernel))
set_option maxRecDepth 20000 in
theorem gL_law_L_next : GoodIn wsL_law (va_wsS RL 139 yL_next wsL_next) := goodIn_app (goodIn_of _ (by decide +kernel)) ggL_law_L_next
set_option maxRecDepth 20000 in
theorem ggL_law_X11_next : GoodIn wsL_law wsX11_next := goodIn_r _ [804, 690, 157, 158, 159, 5, 160, 161, 770, 771, 772, 773, 694, 695, 774, 775, 776, 777, 691, 117, 693, 124, 692, 778, 779, 780, 781, 119, 121, 123, 120, 782, 783, 784, 785, 122, 118, 696, 228, 229, 230, 786, 787, 788, 789, 790, 791, 792, 793, 822, 823, 824, 825, 826, 827, 828, 829, 830, 831, 832, 833, 834, 835, 836, 837, 838, 839, 840, 841, 842, 843, 844, 845, 846, 847, 848, 849, 850, 851, 852, 853, 854, 855, 856] (by decide +kernel) (by decide +kernel)
set_option maxRecDepth 20000 in
theorem gL_law_X11_next : GoodIn wsL_law (wsV RL 142 RX11 yX11_next wsX11_next) := goodIn_app (goodIn_of _ (by decide +kernel)) ggL_law_X11_next
set_option maxRecDepth 20000 in
theorem ggL_law_L_readings : GoodIn wsL_law wsL_readings := goodIn_ca (goodIn_r _ [807, 261, 808, 809, 810, 2, 811, 31, 812, 813, 704, 705, 706, 707, 266, 267, 708, 818, 819, 820, 821, 872, 873, 874, 875, 871] (by decide +kernel) (by decide +kernel)) (goodIn_sub (fun _ h => List.mem_append_right _ h) (by decide +kernel))
set_option maxRecDepth 20000 in
theorem gL_law_L_readings : GoodIn wsL_law (va_wsS RL 143 yL_readings wsL_readings) := goodIn_app (goodIn_of _ (by decide +kernel)) ggL_law_L_readings
set_option maxRecDepth 20000 in
theorem ggL_law_X11_readings : GoodIn wsL_law wsX11_readings := goodIn_r _ [817, 690, 696, 157, 158, 159, 5, 160, 161, 822, 823, 824, 825, 826, 827, 828, 829, 830, 831, 832, 833, 834, 835, 836, 837, 838, 839, 840, 841, 842, 843, 844, 845, 846, 847, 848, 849, 850, 851, 852, 853, 854, 855, 856] (by decide +kernel) (by decide +kernel)
set_option maxRecDepth 20000 in
theorem gL_law_X11_readings : GoodIn wsL_law (wsV RL 145 RX11 yX11_readings wsX11_readings) := goodIn_app (goodIn_of _ (by decide +kernel)) ggL_law_X11_readings
