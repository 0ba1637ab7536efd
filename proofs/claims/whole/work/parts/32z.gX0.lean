set_option maxRecDepth 20000 in
theorem ggX0_init_X1_init : GoodIn wsX0_init wsX1_init := goodIn_r _ [5, 6, 7, 8] (by decide +kernel) (by decide +kernel)
set_option maxRecDepth 20000 in
theorem gX0_init_X1_init_n3 : GoodIn wsX0_init (wsX1_init) := ggX0_init_X1_init
set_option maxRecDepth 20000 in
theorem ggX0_hasRank_X0_partAt : GoodIn wsX0_hasRank wsX0_partAt := goodIn_r _ [8, 1, 9, 11, 12, 13, 14, 15, 16, 17, 18, 19, 20, 21, 22, 23, 24, 25, 26, 27, 28] (by decide +kernel) (by decide +kernel)
set_option maxRecDepth 20000 in
theorem gX0_hasRank_X0_partAt_u32X2 : GoodIn wsX0_hasRank (va_wsU RX0 32 RX2 "PostingPlanner$Group" ⟨"PostingPlanner$Group", "partAt", "(I)LPostingPlanner$Part;"⟩ yX0_partAt wsX0_partAt) := goodIn_app (goodIn_of _ (by decide +kernel)) ggX0_hasRank_X0_partAt
set_option maxRecDepth 20000 in
theorem gX0_hasRank_X0_partAt_u32X3 : GoodIn wsX0_hasRank (va_wsU RX0 32 RX3 "PostingPlanner$Group" ⟨"PostingPlanner$Group", "partAt", "(I)LPostingPlanner$Part;"⟩ yX0_partAt wsX0_partAt) := goodIn_app (goodIn_of _ (by decide +kernel)) ggX0_hasRank_X0_partAt
set_option maxRecDepth 20000 in
theorem ggX0_settleSome_X0_fix : GoodIn wsX0_settleSome wsX0_fix := goodIn_r _ [8, 1, 9, 11, 12, 13, 14, 15, 16, 17, 18, 19, 20, 21, 22, 23, 24, 25, 26, 27, 28] (by decide +kernel) (by decide +kernel)
set_option maxRecDepth 20000 in
theorem gX0_settleSome_X0_fix_u39X2 : GoodIn wsX0_settleSome (va_wsU RX0 39 RX2 "PostingPlanner$Group" ⟨"PostingPlanner$Group", "fix", "(I)V"⟩ yX0_fix wsX0_fix) := goodIn_app (goodIn_of _ (by decide +kernel)) ggX0_settleSome_X0_fix
set_option maxRecDepth 20000 in
theorem gX0_settleSome_X0_fix_u39X3 : GoodIn wsX0_settleSome (va_wsU RX0 39 RX3 "PostingPlanner$Group" ⟨"PostingPlanner$Group", "fix", "(I)V"⟩ yX0_fix wsX0_fix) := goodIn_app (goodIn_of _ (by decide +kernel)) ggX0_settleSome_X0_fix
set_option maxRecDepth 20000 in
theorem ggX0_settleEmpty_X0_fix : GoodIn wsX0_settleEmpty wsX0_fix := goodIn_r _ [8, 2, 1, 10, 11, 12, 13, 14, 15, 16, 17, 18, 19, 20, 21, 22, 23, 24, 25, 26, 27] (by decide +kernel) (by decide +kernel)
set_option maxRecDepth 20000 in
theorem gX0_settleEmpty_X0_fix_u39X2 : GoodIn wsX0_settleEmpty (va_wsU RX0 39 RX2 "PostingPlanner$Group" ⟨"PostingPlanner$Group", "fix", "(I)V"⟩ yX0_fix wsX0_fix) := goodIn_app (goodIn_of _ (by decide +kernel)) ggX0_settleEmpty_X0_fix
set_option maxRecDepth 20000 in
theorem gX0_settleEmpty_X0_fix_u39X3 : GoodIn wsX0_settleEmpty (va_wsU RX0 39 RX3 "PostingPlanner$Group" ⟨"PostingPlanner$Group", "fix", "(I)V"⟩ yX0_fix wsX0_fix) := goodIn_app (goodIn_of _ (by decide +kernel)) ggX0_settleEmpty_X0_fix
set_option maxRecDepth 20000 in
theorem ggX0_appraise_J13_bitCount_95d88 : GoodIn wsX0_appraise wsJ13_bitCount_95d88 := goodIn_r _ [13, 14, 15, 16] (by decide +kernel) (by decide +kernel)
set_option maxRecDepth 20000 in
theorem gX0_appraise_J13_bitCount_95d88 : GoodIn wsX0_appraise (va_wsS RX0 43 yJ13_bitCount_95d88 wsJ13_bitCount_95d88) := goodIn_app (goodIn_of _ (by decide +kernel)) ggX0_appraise_J13_bitCount_95d88
set_option maxRecDepth 20000 in
theorem ggX0_appraise_X0_leastEstimate : GoodIn wsX0_appraise wsX0_leastEstimate := goodIn_r _ [22, 23, 24, 5, 6, 7, 8, 25, 26, 27, 28, 21, 29, 30, 31, 39, 40, 41, 42, 43, 44, 45, 46, 47, 48, 49, 50, 51, 52, 53, 54, 55, 56, 57, 58, 59, 60, 61, 62] (by decide +kernel) (by decide +kernel)
set_option maxRecDepth 20000 in
theorem gX0_appraise_X0_leastEstimate_u49X2 : GoodIn wsX0_appraise (va_wsU RX0 49 RX2 "PostingPlanner$Group" ⟨"PostingPlanner$Group", "leastEstimate", "(I)I"⟩ yX0_leastEstimate wsX0_leastEstimate) := goodIn_app (goodIn_of _ (by decide +kernel)) ggX0_appraise_X0_leastEstimate
set_option maxRecDepth 20000 in
theorem gX0_appraise_X0_leastEstimate_u49X3 : GoodIn wsX0_appraise (va_wsU RX0 49 RX3 "PostingPlanner$Group" ⟨"PostingPlanner$Group", "leastEstimate", "(I)I"⟩ yX0_leastEstimate wsX0_leastEstimate) := goodIn_app (goodIn_of _ (by decide +kernel)) ggX0_appraise_X0_leastEstimate
set_option maxRecDepth 20000 in
theorem ggX0_appraise_X0_sumOfEstimates : GoodIn wsX0_appraise wsX0_sumOfEstimates := goodIn_r _ [37, 23, 24, 25, 26, 27, 28, 21, 29, 30, 31, 39, 40, 41, 42, 43, 44, 45, 46, 47, 48, 49, 50, 51, 52, 53, 54, 55, 56, 57, 58, 59, 60, 61, 62] (by decide +kernel) (by decide +kernel)
set_option maxRecDepth 20000 in
theorem gX0_appraise_X0_sumOfEstimates_u56X2 : GoodIn wsX0_appraise (va_wsU RX0 56 RX2 "PostingPlanner$Group" ⟨"PostingPlanner$Group", "sumOfEstimates", "()I"⟩ yX0_sumOfEstimates wsX0_sumOfEstimates) := goodIn_app (goodIn_of _ (by decide +kernel)) ggX0_appraise_X0_sumOfEstimates
set_option maxRecDepth 20000 in
theorem gX0_appraise_X0_sumOfEstimates_u56X3 : GoodIn wsX0_appraise (va_wsU RX0 56 RX3 "PostingPlanner$Group" ⟨"PostingPlanner$Group", "sumOfEstimates", "()I"⟩ yX0_sumOfEstimates wsX0_sumOfEstimates) := goodIn_app (goodIn_of _ (by decide +kernel)) ggX0_appraise_X0_sumOfEstimates
set_option maxRecDepth 20000 in
theorem ggX0_leastEstimate_X0_partAt : GoodIn wsX0_leastEstimate wsX0_partAt := goodIn_r _ [12, 1, 13, 15, 16, 17, 18, 19, 20, 21, 22, 23, 24, 25, 26, 27, 28, 29, 30, 31, 32] (by decide +kernel) (by decide +kernel)
set_option maxRecDepth 20000 in
theorem gX0_leastEstimate_X0_partAt_u32X2 : GoodIn wsX0_leastEstimate (va_wsU RX0 32 RX2 "PostingPlanner$Group" ⟨"PostingPlanner$Group", "partAt", "(I)LPostingPlanner$Part;"⟩ yX0_partAt wsX0_partAt) := goodIn_app (goodIn_of _ (by decide +kernel)) ggX0_leastEstimate_X0_partAt
set_option maxRecDepth 20000 in
theorem gX0_leastEstimate_X0_partAt_u32X3 : GoodIn wsX0_leastEstimate (va_wsU RX0 32 RX3 "PostingPlanner$Group" ⟨"PostingPlanner$Group", "partAt", "(I)LPostingPlanner$Part;"⟩ yX0_partAt wsX0_partAt) := goodIn_app (goodIn_of _ (by decide +kernel)) ggX0_leastEstimate_X0_partAt
set_option maxRecDepth 20000 in
theorem ggX0_sumOfEstimates_X0_partAt : GoodIn wsX0_sumOfEstimates wsX0_partAt := goodIn_r _ [8, 1, 9, 11, 12, 13, 14, 15, 16, 17, 18, 19, 20, 21, 22, 23, 24, 25, 26, 27, 28] (by decide +kernel) (by decide +kernel)
set_option maxRecDepth 20000 in
theorem gX0_sumOfEstimates_X0_partAt_u32X2 : GoodIn wsX0_sumOfEstimates (va_wsU RX0 32 RX2 "PostingPlanner$Group" ⟨"PostingPlanner$Group", "partAt", "(I)LPostingPlanner$Part;"⟩ yX0_partAt wsX0_partAt) := goodIn_app (goodIn_of _ (by decide +kernel)) ggX0_sumOfEstimates_X0_partAt
set_option maxRecDepth 20000 in
theorem gX0_sumOfEstimates_X0_partAt_u32X3 : GoodIn wsX0_sumOfEstimates (va_wsU RX0 32 RX3 "PostingPlanner$Group" ⟨"PostingPlanner$Group", "partAt", "(I)LPostingPlanner$Part;"⟩ yX0_partAt wsX0_partAt) := goodIn_app (goodIn_of _ (by decide +kernel)) ggX0_sumOfEstimates_X0_partAt
set_option maxRecDepth 20000 in
theorem ggX0_order_X0_isBefore : GoodIn wsX0_order wsX0_isBefore := goodIn_r _ [9, 10, 11, 13, 14, 15, 16, 17, 18, 19, 20, 21, 22, 23, 24, 25, 26, 27, 28, 29, 30, 31, 32, 33, 34, 35, 36] (by decide +kernel) (by decide +kernel)
set_option maxRecDepth 20000 in
theorem gX0_order_X0_isBefore_u67X2 : GoodIn wsX0_order (va_wsU RX0 67 RX2 "PostingPlanner$Group" ⟨"PostingPlanner$Group", "isBefore", "(LPostingPlanner$Part;LPostingPlanner$Part;)Z"⟩ yX0_isBefore wsX0_isBefore) := goodIn_app (goodIn_of _ (by decide +kernel)) ggX0_order_X0_isBefore
set_option maxRecDepth 20000 in
theorem gX0_order_X0_isBefore_u67X3 : GoodIn wsX0_order (va_wsU RX0 67 RX3 "PostingPlanner$Group" ⟨"PostingPlanner$Group", "isBefore", "(LPostingPlanner$Part;LPostingPlanner$Part;)Z"⟩ yX0_isBefore wsX0_isBefore) := goodIn_app (goodIn_of _ (by decide +kernel)) ggX0_order_X0_isBefore
set_option maxRecDepth 20000 in
theorem ggX0_seek_X0_seekAll : GoodIn wsX0_seek wsX0_seekAll := goodIn_r _ [24, 25, 26, 27, 28, 29, 9, 30, 31, 32, 33, 34, 35, 36, 37, 38, 39, 40, 41, 42, 43, 44, 45, 46, 21, 22, 23, 47, 48, 49, 50, 51, 52, 53, 54, 55, 56, 57, 58, 59, 60, 0, 1, 2, 3, 4, 5, 6, 7, 8, 10, 11, 12, 13, 14, 15, 16, 17, 18, 19, 20, 61, 62, 63, 64, 65, 66, 67, 68, 69, 70, 71, 72, 73, 74, 75, 76, 77, 78, 79, 80, 81, 82, 83, 84, 85, 86, 87, 88, 89, 90, 91, 92, 93, 94, 95, 96, 97, 98, 99, 100, 101, 102, 103, 104, 105] (by decide +kernel) (by decide +kernel)
set_option maxRecDepth 20000 in
theorem gX0_seek_X0_seekAll_u71X2 : GoodIn wsX0_seek (va_wsU RX0 71 RX2 "PostingPlanner$Group" ⟨"PostingPlanner$Group", "seekAll", "(II)I"⟩ yX0_seekAll wsX0_seekAll) := goodIn_app (goodIn_of _ (by decide +kernel)) ggX0_seek_X0_seekAll
set_option maxRecDepth 20000 in
theorem gX0_seek_X0_seekAll_u71X3 : GoodIn wsX0_seek (va_wsU RX0 71 RX3 "PostingPlanner$Group" ⟨"PostingPlanner$Group", "seekAll", "(II)I"⟩ yX0_seekAll wsX0_seekAll) := goodIn_app (goodIn_of _ (by decide +kernel)) ggX0_seek_X0_seekAll
set_option maxRecDepth 20000 in
theorem ggX0_seek_X0_seekAny : GoodIn wsX0_seek wsX0_seekAny := goodIn_r _ [61, 25, 62, 63, 64, 65, 26, 27, 28, 29, 9, 30, 31, 32, 33, 34, 35, 36, 37, 38, 39, 40, 41, 42, 43, 44, 45, 46, 21, 22, 23, 47, 48, 49, 50, 51, 52, 53, 54, 55, 56, 57, 58, 59, 60, 0, 1, 2, 3, 4, 5, 6, 7, 8, 10, 11, 12, 13, 14, 15, 16, 17, 18, 19, 20, 24, 66, 67, 68, 69, 70, 71, 72, 73, 74, 75, 76, 77, 78, 79, 80, 81, 82, 83, 84, 85, 86, 87, 88, 89, 90, 91, 92, 93, 94, 95, 96, 97, 98, 99, 100, 101, 102, 103, 104, 105] (by decide +kernel) (by decide +kernel)
set_option maxRecDepth 20000 in
theorem gX0_seek_X0_seekAny_u74X2 : GoodIn wsX0_seek (va_wsU RX0 74 RX2 "PostingPlanner$Group" ⟨"PostingPlanner$Group", "seekAny", "(II)I"⟩ yX0_seekAny wsX0_seekAny) := goodIn_app (goodIn_of _ (by decide +kernel)) ggX0_seek_X0_seekAny
set_option maxRecDepth 20000 in
theorem gX0_seek_X0_seekAny_u74X3 : GoodIn wsX0_seek (va_wsU RX0 74 RX3 "PostingPlanner$Group" ⟨"PostingPlanner$Group", "seekAny", "(II)I"⟩ yX0_seekAny wsX0_seekAny) := goodIn_app (goodIn_of _ (by decide +kernel)) ggX0_seek_X0_seekAny
set_option maxRecDepth 20000 in
theorem ggX0_seek_X0_seekSome : GoodIn wsX0_seek wsX0_seekSome := goodIn_r _ [66, 11, 12, 13, 14, 9, 15, 67, 68, 69, 70, 71, 25, 72, 73, 26, 27, 28, 29, 30, 31, 32, 74, 75, 76, 77, 78, 79, 80, 0, 1, 2, 3, 4, 5, 6, 7, 8, 10, 16, 17, 18, 19, 20, 21, 22, 23, 24, 33, 34, 35, 36, 37, 38, 39, 40, 41, 42, 43, 44, 45, 46, 47, 48, 49, 50, 51, 52, 53, 54, 55, 56, 57, 58, 59, 60, 61, 62, 63, 64, 65, 81, 82, 83, 84, 85, 86, 87, 88, 89, 90, 91, 92, 93, 94, 95, 96, 97, 98, 99, 100, 101, 102, 103, 104, 105] (by decide +kernel) (by decide +kernel)
set_option maxRecDepth 20000 in
theorem gX0_seek_X0_seekSome_u77X2 : GoodIn wsX0_seek (va_wsU RX0 77 RX2 "PostingPlanner$Group" ⟨"PostingPlanner$Group", "seekSome", "(II)I"⟩ yX0_seekSome wsX0_seekSome) := goodIn_app (goodIn_of _ (by decide +kernel)) ggX0_seek_X0_seekSome
set_option maxRecDepth 20000 in
theorem gX0_seek_X0_seekSome_u77X3 : GoodIn wsX0_seek (va_wsU RX0 77 RX3 "PostingPlanner$Group" ⟨"PostingPlanner$Group", "seekSome", "(II)I"⟩ yX0_seekSome wsX0_seekSome) := goodIn_app (goodIn_of _ (by decide +kernel)) ggX0_seek_X0_seekSome
set_option maxRecDepth 20000 in
theorem ggX0_seek_X10_firstOf : GoodIn wsX0_seek wsX10_firstOf := goodIn_r _ [23] (by decide +kernel) (by decide +kernel)
set_option maxRecDepth 20000 in
theorem gX0_seek_X10_firstOf_n80 : GoodIn wsX0_seek (wsX10_firstOf) := ggX0_seek_X10_firstOf
set_option maxRecDepth 20000 in
theorem ggX0_seekAll_X0_partAt : GoodIn wsX0_seekAll wsX0_partAt := goodIn_r _ [7, 1, 8, 81, 82, 83, 84, 85, 86, 87, 88, 89, 90, 91, 92, 93, 94, 95, 96, 97, 98] (by decide +kernel) (by decide +kernel)
set_option maxRecDepth 20000 in
theorem gX0_seekAll_X0_partAt_u32X2 : GoodIn wsX0_seekAll (va_wsU RX0 32 RX2 "PostingPlanner$Group" ⟨"PostingPlanner$Group", "partAt", "(I)LPostingPlanner$Part;"⟩ yX0_partAt wsX0_partAt) := goodIn_app (goodIn_of _ (by decide +kernel)) ggX0_seekAll_X0_partAt
set_option maxRecDepth 20000 in
theorem gX0_seekAll_X0_partAt_u32X3 : GoodIn wsX0_seekAll (va_wsU RX0 32 RX3 "PostingPlanner$Group" ⟨"PostingPlanner$Group", "partAt", "(I)LPostingPlanner$Part;"⟩ yX0_partAt wsX0_partAt) := goodIn_app (goodIn_of _ (by decide +kernel)) ggX0_seekAll_X0_partAt
set_option maxRecDepth 20000 in
theorem ggX0_seekAll_X0_seek : GoodIn wsX0_seekAll wsX0_seek := goodIn_r _ [41, 42, 43, 44, 45, 46, 47, 48, 49, 6, 50, 51, 52, 53, 54, 55, 56, 57, 58, 59, 60, 24, 25, 26, 0, 1, 2, 3, 4, 5, 7, 8, 9, 10, 11, 12, 13, 14, 15, 16, 17, 18, 19, 20, 21, 22, 23, 27, 28, 29, 30, 31, 32, 33, 34, 35, 36, 37, 38, 39, 40, 61, 62, 63, 64, 65, 66, 67, 68, 69, 70, 71, 72, 73, 74, 75, 76, 77, 78, 79, 80, 81, 82, 83, 84, 85, 86, 87, 88, 89, 90, 91, 92, 93, 94, 95, 96, 97, 98, 99, 100, 101, 102, 103, 104, 105] (by decide +kernel) (by decide +kernel)
set_option maxRecDepth 20000 in
theorem gX0_seekAll_X0_seek_u84X2 : GoodIn wsX0_seekAll (va_wsU RX0 84 RX2 "PostingPlanner$Part" ⟨"PostingPlanner$Part", "seek", "(II)I"⟩ yX0_seek wsX0_seek) := goodIn_app (goodIn_of _ (by decide +kernel)) ggX0_seekAll_X0_seek
set_option maxRecDepth 20000 in
theorem gX0_seekAll_X0_seek_u84X3 : GoodIn wsX0_seekAll (va_wsU RX0 84 RX3 "PostingPlanner$Part" ⟨"PostingPlanner$Part", "seek", "(II)I"⟩ yX0_seek wsX0_seek) := goodIn_app (goodIn_of _ (by decide +kernel)) ggX0_seekAll_X0_seek
set_option maxRecDepth 20000 in
theorem ggX0_seekAll_X4_seek : GoodIn wsX0_seekAll wsX4_seek := goodIn_r _ [18, 19, 20, 21, 22, 23, 24, 25, 26, 27, 28, 29, 17, 30, 31, 32, 33, 34, 35, 36, 37, 38, 39, 40, 81, 82, 83, 84, 85, 86, 87, 88, 89, 90, 91, 92, 93, 94, 95, 96, 97, 98, 99, 100, 101, 102, 103, 104, 105] (by decide +kernel) (by decide +kernel)
set_option maxRecDepth 20000 in
theorem gX0_seekAll_X4_seek_u84X4 : GoodIn wsX0_seekAll (va_wsU RX0 84 RX4 "PostingPlanner$Part" ⟨"PostingPlanner$Part", "seek", "(II)I"⟩ yX4_seek wsX4_seek) := goodIn_app (goodIn_of _ (by decide +kernel)) ggX0_seekAll_X4_seek
set_option maxRecDepth 20000 in
theorem ggX0_seekAny_X0_partAt : GoodIn wsX0_seekAny wsX0_partAt := goodIn_r _ [11, 1, 12, 81, 82, 83, 84, 85, 86, 87, 88, 89, 90, 91, 92, 93, 94, 95, 96, 97, 98] (by decide +kernel) (by decide +kernel)
set_option maxRecDepth 20000 in
theorem gX0_seekAny_X0_partAt_u32X2 : GoodIn wsX0_seekAny (va_wsU RX0 32 RX2 "PostingPlanner$Group" ⟨"PostingPlanner$Group", "partAt", "(I)LPostingPlanner$Part;"⟩ yX0_partAt wsX0_partAt) := goodIn_app (goodIn_of _ (by decide +kernel)) ggX0_seekAny_X0_partAt
set_option maxRecDepth 20000 in
theorem gX0_seekAny_X0_partAt_u32X3 : GoodIn wsX0_seekAny (va_wsU RX0 32 RX3 "PostingPlanner$Group" ⟨"PostingPlanner$Group", "partAt", "(I)LPostingPlanner$Part;"⟩ yX0_partAt wsX0_partAt) := goodIn_app (goodIn_of _ (by decide +kernel)) ggX0_seekAny_X0_partAt
set_option maxRecDepth 20000 in
theorem ggX0_seekAny_X0_seek : GoodIn wsX0_seekAny wsX0_seek := goodIn_r _ [45, 46, 47, 48, 49, 50, 51, 52, 53, 10, 54, 55, 56, 57, 58, 59, 60, 61, 62, 63, 64, 28, 29, 30, 65, 1, 6, 7, 8, 9, 11, 12, 13, 14, 15, 16, 17, 18, 19, 20, 21, 22, 23, 24, 25, 26, 27, 31, 32, 33, 34, 35, 36, 37, 38, 39, 40, 41, 42, 43, 44, 0, 2, 3, 4, 5, 66, 67, 68, 69, 70, 71, 72, 73, 74, 75, 76, 77, 78, 79, 80, 81, 82, 83, 84, 85, 86, 87, 88, 89, 90, 91, 92, 93, 94, 95, 96, 97, 98, 99, 100, 101, 102, 103, 104, 105] (by decide +kernel) (by decide +kernel)
set_option maxRecDepth 20000 in
theorem gX0_seekAny_X0_seek_u84X2 : GoodIn wsX0_seekAny (va_wsU RX0 84 RX2 "PostingPlanner$Part" ⟨"PostingPlanner$Part", "seek", "(II)I"⟩ yX0_seek wsX0_seek) := goodIn_app (goodIn_of _ (by decide +kernel)) ggX0_seekAny_X0_seek
set_option maxRecDepth 20000 in
theorem gX0_seekAny_X0_seek_u84X3 : GoodIn wsX0_seekAny (va_wsU RX0 84 RX3 "PostingPlanner$Part" ⟨"PostingPlanner$Part", "seek", "(II)I"⟩ yX0_seek wsX0_seek) := goodIn_app (goodIn_of _ (by decide +kernel)) ggX0_seekAny_X0_seek
set_option maxRecDepth 20000 in
theorem ggX0_seekAny_X4_seek : GoodIn wsX0_seekAny wsX4_seek := goodIn_r _ [22, 23, 24, 25, 26, 27, 28, 29, 30, 31, 32, 33, 21, 34, 35, 36, 37, 38, 39, 40, 41, 42, 43, 44, 81, 82, 83, 84, 85, 86, 87, 88, 89, 90, 91, 92, 93, 94, 95, 96, 97, 98, 99, 100, 101, 102, 103, 104, 105] (by decide +kernel) (by decide +kernel)
set_option maxRecDepth 20000 in
theorem gX0_seekAny_X4_seek_u84X4 : GoodIn wsX0_seekAny (va_wsU RX0 84 RX4 "PostingPlanner$Part" ⟨"PostingPlanner$Part", "seek", "(II)I"⟩ yX4_seek wsX4_seek) := goodIn_app (goodIn_of _ (by decide +kernel)) ggX0_seekAny_X4_seek
set_option maxRecDepth 20000 in
theorem ggX0_seekSome_X0_seekAny : GoodIn wsX0_seekSome wsX0_seekAny := goodIn_r _ [76, 12, 77, 78, 79, 80, 15, 16, 17, 18, 5, 19, 20, 21, 48, 49, 50, 51, 52, 53, 54, 55, 56, 57, 58, 59, 60, 61, 44, 45, 46, 62, 63, 64, 65, 66, 67, 68, 69, 70, 71, 72, 73, 74, 75, 29, 30, 31, 32, 33, 34, 35, 36, 37, 38, 1, 2, 3, 4, 6, 39, 40, 41, 42, 43, 47, 0, 7, 8, 9, 10, 11, 13, 14, 22, 23, 24, 25, 26, 27, 28, 81, 82, 83, 84, 85, 86, 87, 88, 89, 90, 91, 92, 93, 94, 95, 96, 97, 98, 99, 100, 101, 102, 103, 104, 105] (by decide +kernel) (by decide +kernel)
set_option maxRecDepth 20000 in
theorem gX0_seekSome_X0_seekAny_u74X2 : GoodIn wsX0_seekSome (va_wsU RX0 74 RX2 "PostingPlanner$Group" ⟨"PostingPlanner$Group", "seekAny", "(II)I"⟩ yX0_seekAny wsX0_seekAny) := goodIn_app (goodIn_of _ (by decide +kernel)) ggX0_seekSome_X0_seekAny
set_option maxRecDepth 20000 in
theorem gX0_seekSome_X0_seekAny_u74X3 : GoodIn wsX0_seekSome (va_wsU RX0 74 RX3 "PostingPlanner$Group" ⟨"PostingPlanner$Group", "seekAny", "(II)I"⟩ yX0_seekAny wsX0_seekAny) := goodIn_app (goodIn_of _ (by decide +kernel)) ggX0_seekSome_X0_seekAny
set_option maxRecDepth 20000 in
theorem ggX0_seekSome_X0_neededPlace : GoodIn wsX0_seekSome wsX0_neededPlace := goodIn_r _ [11, 12, 13, 14, 15, 16, 17, 18, 5, 19, 20, 21, 22, 23, 24, 25, 26, 27, 81, 82, 83, 84, 85, 86, 87, 88, 89, 90, 91, 92, 93, 94, 95, 96, 97, 98, 99, 100, 101, 102, 103, 104] (by decide +kernel) (by decide +kernel)
set_option maxRecDepth 20000 in
theorem gX0_seekSome_X0_neededPlace_u87X2 : GoodIn wsX0_seekSome (va_wsU RX0 87 RX2 "PostingPlanner$Group" ⟨"PostingPlanner$Group", "neededPlace", "()I"⟩ yX0_neededPlace wsX0_neededPlace) := goodIn_app (goodIn_of _ (by decide +kernel)) ggX0_seekSome_X0_neededPlace
set_option maxRecDepth 20000 in
theorem gX0_seekSome_X0_neededPlace_u87X3 : GoodIn wsX0_seekSome (va_wsU RX0 87 RX3 "PostingPlanner$Group" ⟨"PostingPlanner$Group", "neededPlace", "()I"⟩ yX0_neededPlace wsX0_neededPlace) := goodIn_app (goodIn_of _ (by decide +kernel)) ggX0_seekSome_X0_neededPlace
set_option maxRecDepth 20000 in
theorem ggX0_neededPlace_X0_partAt : GoodIn wsX0_neededPlace wsX0_partAt := goodIn_r _ [9, 1, 10, 18, 19, 20, 21, 22, 23, 24, 25, 26, 27, 28, 29, 30, 31, 32, 33, 34, 35] (by decide +kernel) (by decide +kernel)
set_option maxRecDepth 20000 in
theorem gX0_neededPlace_X0_partAt_u32X2 : GoodIn wsX0_neededPlace (va_wsU RX0 32 RX2 "PostingPlanner$Group" ⟨"PostingPlanner$Group", "partAt", "(I)LPostingPlanner$Part;"⟩ yX0_partAt wsX0_partAt) := goodIn_app (goodIn_of _ (by decide +kernel)) ggX0_neededPlace_X0_partAt
set_option maxRecDepth 20000 in
theorem gX0_neededPlace_X0_partAt_u32X3 : GoodIn wsX0_neededPlace (va_wsU RX0 32 RX3 "PostingPlanner$Group" ⟨"PostingPlanner$Group", "partAt", "(I)LPostingPlanner$Part;"⟩ yX0_partAt wsX0_partAt) := goodIn_app (goodIn_of _ (by decide +kernel)) ggX0_neededPlace_X0_partAt
set_option maxRecDepth 20000 in
theorem ggX0_neededPlace_X0_placesUpTo : GoodIn wsX0_neededPlace wsX0_placesUpTo := goodIn_r _ [16, 1, 2, 4, 5, 6, 7, 8, 9, 10, 11, 18, 19, 20, 21, 22, 23, 24, 25, 26, 27, 28, 29, 30, 31, 32, 33, 34, 35, 36, 37, 38, 39, 40, 41] (by decide +kernel) (by decide +kernel)
set_option maxRecDepth 20000 in
theorem gX0_neededPlace_X0_placesUpTo_u91X2 : GoodIn wsX0_neededPlace (va_wsU RX0 91 RX2 "PostingPlanner$Group" ⟨"PostingPlanner$Group", "placesUpTo", "(I)I"⟩ yX0_placesUpTo wsX0_placesUpTo) := goodIn_app (goodIn_of _ (by decide +kernel)) ggX0_neededPlace_X0_placesUpTo
set_option maxRecDepth 20000 in
theorem gX0_neededPlace_X0_placesUpTo_u91X3 : GoodIn wsX0_neededPlace (va_wsU RX0 91 RX3 "PostingPlanner$Group" ⟨"PostingPlanner$Group", "placesUpTo", "(I)I"⟩ yX0_placesUpTo wsX0_placesUpTo) := goodIn_app (goodIn_of _ (by decide +kernel)) ggX0_neededPlace_X0_placesUpTo
set_option maxRecDepth 20000 in
theorem ggX0_placesUpTo_X0_partAt : GoodIn wsX0_placesUpTo wsX0_partAt := goodIn_r _ [8, 1, 9, 11, 12, 13, 14, 15, 16, 17, 18, 19, 20, 21, 22, 23, 24, 25, 26, 27, 28] (by decide +kernel) (by decide +kernel)
set_option maxRecDepth 20000 in
theorem gX0_placesUpTo_X0_partAt_u32X2 : GoodIn wsX0_placesUpTo (va_wsU RX0 32 RX2 "PostingPlanner$Group" ⟨"PostingPlanner$Group", "partAt", "(I)LPostingPlanner$Part;"⟩ yX0_partAt wsX0_partAt) := goodIn_app (goodIn_of _ (by decide +kernel)) ggX0_placesUpTo_X0_partAt
set_option maxRecDepth 20000 in
theorem gX0_placesUpTo_X0_partAt_u32X3 : GoodIn wsX0_placesUpTo (va_wsU RX0 32 RX3 "PostingPlanner$Group" ⟨"PostingPlanner$Group", "partAt", "(I)LPostingPlanner$Part;"⟩ yX0_partAt wsX0_partAt) := goodIn_app (goodIn_of _ (by decide +kernel)) ggX0_placesUpTo_X0_partAt
