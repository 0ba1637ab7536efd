set_option maxRecDepth 20000 in
theorem ggX3_init_X0_init : GoodIn wsX3_init wsX0_init := goodIn_r _ [10, 11, 12, 13, 14, 15, 16, 17, 18, 23, 24, 25, 26, 27, 28, 29, 30, 31, 32, 33, 34, 35, 36, 37, 38, 39, 40] (by decide +kernel) (by decide +kernel)
set_option maxRecDepth 20000 in
theorem gX3_init_X0_init : GoodIn wsX3_init (wsX0_init) := ggX3_init_X0_init
set_option maxRecDepth 20000 in
theorem ggX3_init_X4_init : GoodIn wsX3_init wsX4_init := goodIn_r _ [21, 22, 13, 14, 15, 16, 17, 18, 41, 42, 43, 44, 45, 46] (by decide +kernel) (by decide +kernel)
set_option maxRecDepth 20000 in
theorem gX3_init_X4_init : GoodIn wsX3_init (wsX4_init) := ggX3_init_X4_init
set_option maxRecDepth 20000 in
theorem ggX3_make_X0_restart : GoodIn wsX3_make wsX0_restart := goodIn_r _ [10, 11, 12, 13, 14, 15, 16, 156, 157, 158, 159, 160, 161, 162, 163, 164, 165, 166, 167, 168, 169, 170, 171, 172, 173, 174, 175, 176, 177, 178, 179] (by decide +kernel) (by decide +kernel)
set_option maxRecDepth 20000 in
theorem gX3_make_X0_restart_u32X3 : GoodIn wsX3_make (va_wsU RX3 32 RX3 "PostingPlanner$Group" ⟨"PostingPlanner$PlannedClause", "restart", "(IIJ)V"⟩ yX0_restart wsX0_restart) := goodIn_app (goodIn_of _ (by decide +kernel)) ggX3_make_X0_restart
set_option maxRecDepth 20000 in
theorem ggX3_make_X3_turn : GoodIn wsX3_make wsX3_turn := goodIn_r _ [21, 22, 23, 24, 25, 156, 157, 158, 159, 160, 161, 162, 163, 164, 165, 166, 167, 168, 169, 170, 171, 172, 173] (by decide +kernel) (by decide +kernel)
set_option maxRecDepth 20000 in
theorem gX3_make_X3_turn : GoodIn wsX3_make (wsV RX3 43 RX3 yX3_turn wsX3_turn) := goodIn_app (goodIn_of _ (by decide +kernel)) ggX3_make_X3_turn
set_option maxRecDepth 20000 in
theorem ggX3_make_X0_settleSome : GoodIn wsX3_make wsX0_settleSome := goodIn_r _ [30, 11, 12, 31, 32, 33, 34, 9, 35, 13, 36, 156, 157, 158, 159, 160, 161, 162, 163, 164, 165, 166, 167, 168, 169, 170, 171, 172, 173] (by decide +kernel) (by decide +kernel)
set_option maxRecDepth 20000 in
theorem gX3_make_X0_settleSome_u47X3 : GoodIn wsX3_make (va_wsU RX3 47 RX3 "PostingPlanner$Group" ⟨"PostingPlanner$PlannedClause", "settleSome", "(I)V"⟩ yX0_settleSome wsX0_settleSome) := goodIn_app (goodIn_of _ (by decide +kernel)) ggX3_make_X0_settleSome
set_option maxRecDepth 20000 in
theorem ggX3_make_X3_keepLiterals : GoodIn wsX3_make wsX3_keepLiterals := goodIn_r _ [40, 4, 41, 42, 3, 22, 23, 43, 44, 45, 46, 9, 47, 11, 48, 49, 50, 51, 52, 53, 54, 55, 13, 56, 57, 58, 59, 60, 61, 62, 63, 64, 65, 66, 67, 68, 69, 70, 71, 72, 73, 74, 75, 76, 77, 78, 79, 80, 81, 82, 83, 84, 85, 86, 87, 88, 89, 90, 91, 92, 93, 94, 95, 96, 151, 152, 153, 154, 155, 165, 166, 167, 168, 169, 170, 171, 172, 173, 156, 157, 158, 159, 160, 161, 162, 163, 164, 174, 175, 176, 177, 178, 179, 180] (by decide +kernel) (by decide +kernel)
set_option maxRecDepth 20000 in
theorem gX3_make_X3_keepLiterals : GoodIn wsX3_make (wsV RX3 50 RX3 yX3_keepLiterals wsX3_keepLiterals) := goodIn_app (goodIn_of _ (by decide +kernel)) ggX3_make_X3_keepLiterals
set_option maxRecDepth 20000 in
theorem ggX3_make_X3_settleContraries : GoodIn wsX3_make wsX3_settleContraries := goodIn_r _ [100, 22, 23, 101, 102, 103, 104, 105, 106, 60, 9, 61, 13, 62, 48, 49, 50, 51, 52, 53, 54, 55, 56, 57, 58, 59, 63, 107, 108, 109, 34, 35, 11, 156, 157, 158, 159, 160, 161, 162, 163, 164, 165, 166, 167, 168, 169, 170, 171, 172, 173, 174, 175, 176, 177, 178, 179] (by decide +kernel) (by decide +kernel)
set_option maxRecDepth 20000 in
theorem gX3_make_X3_settleContraries : GoodIn wsX3_make (wsV RX3 54 RX3 yX3_settleContraries wsX3_settleContraries) := goodIn_app (goodIn_of _ (by decide +kernel)) ggX3_make_X3_settleContraries
set_option maxRecDepth 20000 in
theorem ggX3_make_X0_settleEmpty : GoodIn wsX3_make wsX0_settleEmpty := goodIn_r _ [114, 13, 11, 31, 32, 33, 34, 9, 35, 36, 156, 157, 158, 159, 160, 161, 162, 163, 164, 165, 166, 167, 168, 169, 170, 171, 172, 173] (by decide +kernel) (by decide +kernel)
set_option maxRecDepth 20000 in
theorem gX3_make_X0_settleEmpty_u57X3 : GoodIn wsX3_make (va_wsU RX3 57 RX3 "PostingPlanner$Group" ⟨"PostingPlanner$PlannedClause", "settleEmpty", "()V"⟩ yX0_settleEmpty wsX0_settleEmpty) := goodIn_app (goodIn_of _ (by decide +kernel)) ggX3_make_X0_settleEmpty
set_option maxRecDepth 20000 in
theorem ggX3_make_X0_appraise : GoodIn wsX3_make wsX0_appraise := goodIn_r _ [119, 14, 11, 120, 121, 122, 123, 124, 125, 12, 126, 86, 87, 88, 89, 90, 91, 127, 128, 129, 130, 9, 131, 13, 132, 57, 58, 59, 60, 61, 62, 63, 133, 134, 135, 136, 137, 138, 139, 156, 157, 158, 159, 160, 161, 162, 163, 164, 165, 166, 167, 168, 169, 170, 171, 172, 173, 174, 175, 176, 177, 178, 179] (by decide +kernel) (by decide +kernel)
set_option maxRecDepth 20000 in
theorem gX3_make_X0_appraise_u60X3 : GoodIn wsX3_make (va_wsU RX3 60 RX3 "PostingPlanner$Group" ⟨"PostingPlanner$PlannedClause", "appraise", "()V"⟩ yX0_appraise wsX0_appraise) := goodIn_app (goodIn_of _ (by decide +kernel)) ggX3_make_X0_appraise
set_option maxRecDepth 20000 in
theorem ggX3_make_X0_order : GoodIn wsX3_make wsX0_order := goodIn_r _ [144, 11, 13, 62, 145, 146, 147, 148, 9, 149, 132, 56, 150, 156, 157, 158, 159, 160, 161, 162, 163, 164, 165, 166, 167, 168, 169, 170, 171, 172, 173, 174, 175, 176, 177, 178, 179] (by decide +kernel) (by decide +kernel)
set_option maxRecDepth 20000 in
theorem gX3_make_X0_order_u63X3 : GoodIn wsX3_make (va_wsU RX3 63 RX3 "PostingPlanner$Group" ⟨"PostingPlanner$PlannedClause", "order", "()V"⟩ yX0_order wsX0_order) := goodIn_app (goodIn_of _ (by decide +kernel)) ggX3_make_X0_order
set_option maxRecDepth 20000 in
theorem ggX3_keepLiterals_X0_isFixed : GoodIn wsX3_keepLiterals wsX0_isFixed := goodIn_r _ [12, 13, 78, 79, 80, 81, 82, 83, 84, 85, 86, 69, 70, 71, 72, 73, 74, 75, 76, 77] (by decide +kernel) (by decide +kernel)
set_option maxRecDepth 20000 in
theorem gX3_keepLiterals_X0_isFixed_u68X3 : GoodIn wsX3_keepLiterals (va_wsU RX3 68 RX3 "PostingPlanner$Group" ⟨"PostingPlanner$PlannedClause", "isFixed", "()Z"⟩ yX0_isFixed wsX0_isFixed) := goodIn_app (goodIn_of _ (by decide +kernel)) ggX3_keepLiterals_X0_isFixed
set_option maxRecDepth 20000 in
theorem ggX3_keepLiterals_X10_contraryOf : GoodIn wsX3_keepLiterals wsX10_contraryOf := goodIn_r _ [16] (by decide +kernel) (by decide +kernel)
set_option maxRecDepth 20000 in
theorem gX3_keepLiterals_X10_contraryOf_n76 : GoodIn wsX3_keepLiterals (wsX10_contraryOf) := ggX3_keepLiterals_X10_contraryOf
set_option maxRecDepth 20000 in
theorem ggX3_keepLiterals_X0_hasRank : GoodIn wsX3_keepLiterals wsX0_hasRank := goodIn_r _ [21, 22, 23, 24, 25, 26, 27, 11, 28, 29, 30, 78, 79, 80, 81, 82, 83, 84, 85, 86, 69, 70, 71, 72, 73, 74, 75, 76, 77, 87, 88, 89, 90, 91, 92] (by decide +kernel) (by decide +kernel)
set_option maxRecDepth 20000 in
theorem gX3_keepLiterals_X0_hasRank_u80X3 : GoodIn wsX3_keepLiterals (va_wsU RX3 80 RX3 "PostingPlanner$Group" ⟨"PostingPlanner$PlannedClause", "hasRank", "(I)Z"⟩ yX0_hasRank wsX0_hasRank) := goodIn_app (goodIn_of _ (by decide +kernel)) ggX3_keepLiterals_X0_hasRank
set_option maxRecDepth 20000 in
theorem ggX3_keepLiterals_X7_truthsOf : GoodIn wsX3_keepLiterals wsX7_truthsOf := goodIn_r _ [35, 36, 37, 15, 38, 93] (by decide +kernel) (by decide +kernel)
set_option maxRecDepth 20000 in
theorem gX3_keepLiterals_X7_truthsOf : GoodIn wsX3_keepLiterals (wsV RX3 84 RX7 yX7_truthsOf wsX7_truthsOf) := goodIn_app (goodIn_of _ (by decide +kernel)) ggX3_keepLiterals_X7_truthsOf
set_option maxRecDepth 20000 in
theorem ggX3_keepLiterals_X4_make : GoodIn wsX3_keepLiterals wsX4_make := goodIn_r _ [43, 44, 45, 46, 47, 48, 49, 50, 51, 52, 53, 54, 55, 56, 57, 58, 87, 88, 89, 90, 91, 92, 78, 79, 80, 81, 82, 83, 84, 85, 86, 69, 70, 71, 72, 73, 74, 75, 76, 77] (by decide +kernel) (by decide +kernel)
set_option maxRecDepth 20000 in
theorem gX3_keepLiterals_X4_make : GoodIn wsX3_keepLiterals (wsV RX3 90 RX4 yX4_make wsX4_make) := goodIn_app (goodIn_of _ (by decide +kernel)) ggX3_keepLiterals_X4_make
set_option maxRecDepth 20000 in
theorem ggX3_keepLiterals_X0_keep : GoodIn wsX3_keepLiterals wsX0_keep := goodIn_r _ [63, 22, 29, 78, 79, 80, 81, 82, 83, 84, 85, 86, 69, 70, 71, 72, 73, 74, 75, 76, 77] (by decide +kernel) (by decide +kernel)
set_option maxRecDepth 20000 in
theorem gX3_keepLiterals_X0_keep_u94X3 : GoodIn wsX3_keepLiterals (va_wsU RX3 94 RX3 "PostingPlanner$Group" ⟨"PostingPlanner$PlannedClause", "keep", "(LPostingPlanner$Part;)V"⟩ yX0_keep wsX0_keep) := goodIn_app (goodIn_of _ (by decide +kernel)) ggX3_keepLiterals_X0_keep
set_option maxRecDepth 20000 in
theorem ggX3_settleContraries_X0_partAt : GoodIn wsX3_settleContraries wsX0_partAt := goodIn_r _ [11, 12, 13, 33, 34, 35, 36, 37, 38, 39, 40, 41, 42, 43, 44, 45, 46, 47, 48, 49, 50] (by decide +kernel) (by decide +kernel)
set_option maxRecDepth 20000 in
theorem gX3_settleContraries_X0_partAt_u99X3 : GoodIn wsX3_settleContraries (va_wsU RX3 99 RX3 "PostingPlanner$Group" ⟨"PostingPlanner$PlannedClause", "partAt", "(I)LPostingPlanner$Part;"⟩ yX0_partAt wsX0_partAt) := goodIn_app (goodIn_of _ (by decide +kernel)) ggX3_settleContraries_X0_partAt
set_option maxRecDepth 20000 in
theorem ggX3_settleContraries_X10_contraryOf : GoodIn wsX3_settleContraries wsX10_contraryOf := goodIn_r _ [16] (by decide +kernel) (by decide +kernel)
set_option maxRecDepth 20000 in
theorem gX3_settleContraries_X10_contraryOf_n76 : GoodIn wsX3_settleContraries (wsX10_contraryOf) := ggX3_settleContraries_X10_contraryOf
set_option maxRecDepth 20000 in
theorem ggX3_settleContraries_X0_hasRank : GoodIn wsX3_settleContraries wsX0_hasRank := goodIn_r _ [21, 12, 22, 23, 24, 25, 9, 10, 11, 13, 26, 33, 34, 35, 36, 37, 38, 39, 40, 41, 42, 43, 44, 45, 46, 47, 48, 49, 50, 51, 52, 53, 54, 55, 56] (by decide +kernel) (by decide +kernel)
set_option maxRecDepth 20000 in
theorem gX3_settleContraries_X0_hasRank_u80X3 : GoodIn wsX3_settleContraries (va_wsU RX3 80 RX3 "PostingPlanner$Group" ⟨"PostingPlanner$PlannedClause", "hasRank", "(I)Z"⟩ yX0_hasRank wsX0_hasRank) := goodIn_app (goodIn_of _ (by decide +kernel)) ggX3_settleContraries_X0_hasRank
set_option maxRecDepth 20000 in
theorem ggX3_settleContraries_X0_fix : GoodIn wsX3_settleContraries wsX0_fix := goodIn_r _ [31, 32, 12, 33, 34, 35, 36, 37, 38, 39, 40, 41, 42, 43, 44, 45, 46, 47, 48, 49, 50] (by decide +kernel) (by decide +kernel)
set_option maxRecDepth 20000 in
theorem gX3_settleContraries_X0_fix_u106X3 : GoodIn wsX3_settleContraries (va_wsU RX3 106 RX3 "PostingPlanner$Group" ⟨"PostingPlanner$PlannedClause", "fix", "(I)V"⟩ yX0_fix wsX0_fix) := goodIn_app (goodIn_of _ (by decide +kernel)) ggX3_settleContraries_X0_fix
set_option maxRecDepth 20000 in
theorem ggX2_init_X0_init : GoodIn wsX2_init wsX0_init := goodIn_r _ [8, 9, 10, 11, 12, 13, 14, 15, 16, 31, 32, 33, 34, 35, 36, 37, 38, 39, 40, 41, 42, 43, 44, 45, 46, 47, 48] (by decide +kernel) (by decide +kernel)
set_option maxRecDepth 20000 in
theorem gX2_init_X0_init : GoodIn wsX2_init (wsX0_init) := ggX2_init_X0_init
set_option maxRecDepth 20000 in
theorem ggX2_init_X3_init : GoodIn wsX2_init wsX3_init := goodIn_r _ [19, 20, 21, 22, 23, 24, 25, 26, 6, 7, 8, 9, 10, 11, 12, 13, 14, 15, 16, 27, 28, 29, 30, 31, 32, 33, 34, 35, 36, 37, 38, 39, 40, 41, 42, 43, 44, 45, 46, 47, 48, 49, 50, 51, 52, 53, 54] (by decide +kernel) (by decide +kernel)
set_option maxRecDepth 20000 in
theorem gX2_init_X3_init : GoodIn wsX2_init (wsX3_init) := ggX2_init_X3_init
set_option maxRecDepth 20000 in
theorem ggX2_make_X7_allThere : GoodIn wsX2_make wsX7_allThere := goodIn_r _ [10, 11, 228] (by decide +kernel) (by decide +kernel)
set_option maxRecDepth 20000 in
theorem gX2_make_X7_allThere : GoodIn wsX2_make (wsV RX2 20 RX7 yX7_allThere wsX7_allThere) := goodIn_app (goodIn_of _ (by decide +kernel)) ggX2_make_X7_allThere
set_option maxRecDepth 20000 in
theorem ggX2_make_X0_restart : GoodIn wsX2_make wsX0_restart := goodIn_r _ [17, 18, 19, 20, 21, 22, 23, 210, 211, 212, 213, 214, 215, 216, 217, 218, 219, 220, 221, 222, 223, 224, 225, 226, 227, 229, 230, 231, 232, 233, 234] (by decide +kernel) (by decide +kernel)
set_option maxRecDepth 20000 in
theorem gX2_make_X0_restart_u35X2 : GoodIn wsX2_make (va_wsU RX2 35 RX2 "PostingPlanner$Group" ⟨"PostingPlanner$Plan", "restart", "(IIJ)V"⟩ yX0_restart wsX0_restart) := goodIn_app (goodIn_of _ (by decide +kernel)) ggX2_make_X0_restart
set_option maxRecDepth 20000 in
theorem ggX2_make_X0_isFixed : GoodIn wsX2_make wsX0_isFixed := goodIn_r _ [28, 18, 210, 211, 212, 213, 214, 215, 216, 217, 218, 219, 220, 221, 222, 223, 224, 225, 226, 227] (by decide +kernel) (by decide +kernel)
set_option maxRecDepth 20000 in
theorem gX2_make_X0_isFixed_u39X2 : GoodIn wsX2_make (va_wsU RX2 39 RX2 "PostingPlanner$Group" ⟨"PostingPlanner$Plan", "isFixed", "()Z"⟩ yX0_isFixed wsX0_isFixed) := goodIn_app (goodIn_of _ (by decide +kernel)) ggX2_make_X0_isFixed
set_option maxRecDepth 20000 in
theorem ggX2_make_X5_toldAt : GoodIn wsX2_make wsX5_toldAt := goodIn_r _ [33, 34, 35, 206, 207, 208, 209] (by decide +kernel) (by decide +kernel)
set_option maxRecDepth 20000 in
theorem gX2_make_X5_toldAt : GoodIn wsX2_make (wsV RX2 43 RX5 yX5_toldAt wsX5_toldAt) := goodIn_app (goodIn_of _ (by decide +kernel)) ggX2_make_X5_toldAt
set_option maxRecDepth 20000 in
theorem ggX2_make_X3_make : GoodIn wsX2_make wsX3_make := goodIn_r _ [40, 41, 42, 43, 44, 45, 46, 47, 15, 16, 17, 18, 19, 20, 21, 22, 23, 48, 49, 50, 39, 51, 52, 53, 54, 55, 56, 57, 58, 59, 60, 61, 62, 63, 64, 65, 66, 67, 68, 69, 70, 71, 72, 73, 74, 75, 27, 28, 76, 77, 78, 79, 80, 81, 82, 83, 84, 85, 86, 87, 88, 89, 90, 91, 92, 93, 94, 9, 95, 11, 96, 97, 98, 99, 100, 101, 102, 103, 104, 105, 106, 107, 108, 109, 110, 111, 112, 113, 114, 115, 116, 117, 118, 119, 120, 121, 122, 123, 124, 125, 126, 127, 128, 129, 130, 131, 132, 133, 134, 135, 136, 137, 138, 139, 140, 141, 142, 143, 144, 145, 146, 147, 148, 149, 150, 151, 152, 153, 154, 155, 156, 157, 158, 159, 160, 161, 162, 163, 164, 165, 166, 167, 168, 169, 170, 171, 172, 173, 174, 175, 176, 235, 236, 237, 238, 239, 210, 211, 212, 213, 214, 215, 216, 217, 218, 219, 220, 221, 222, 223, 224, 225, 226, 227, 229, 230, 231, 232, 233, 234, 228] (by decide +kernel) (by decide +kernel)
set_option maxRecDepth 20000 in
theorem gX2_make_X3_make : GoodIn wsX2_make (wsV RX2 47 RX3 yX3_make wsX3_make) := goodIn_app (goodIn_of _ (by decide +kernel)) ggX2_make_X3_make
set_option maxRecDepth 20000 in
theorem ggX2_make_X2_takeIn : GoodIn wsX2_make wsX2_takeIn := goodIn_r _ [181, 182, 53, 183, 184, 185, 186, 187, 74, 75, 27, 16, 28, 18, 188, 189, 190, 121, 122, 20, 90, 191, 192, 193, 64, 65, 210, 211, 212, 213, 214, 215, 216, 217, 218, 219, 220, 221, 222, 223, 224, 225, 226, 227] (by decide +kernel) (by decide +kernel)
set_option maxRecDepth 20000 in
theorem gX2_make_X2_takeIn : GoodIn wsX2_make (wsV RX2 51 RX2 yX2_takeIn wsX2_takeIn) := goodIn_app (goodIn_of _ (by decide +kernel)) ggX2_make_X2_takeIn
set_option maxRecDepth 20000 in
theorem ggX2_make_X0_settleSome : GoodIn wsX2_make wsX0_settleSome := goodIn_r _ [60, 18, 19, 61, 62, 63, 64, 16, 65, 20, 66, 210, 211, 212, 213, 214, 215, 216, 217, 218, 219, 220, 221, 222, 223, 224, 225, 226, 227] (by decide +kernel) (by decide +kernel)
set_option maxRecDepth 20000 in
theorem gX2_make_X0_settleSome_u58X2 : GoodIn wsX2_make (va_wsU RX2 58 RX2 "PostingPlanner$Group" ⟨"PostingPlanner$Plan", "settleSome", "(I)V"⟩ yX0_settleSome wsX0_settleSome) := goodIn_app (goodIn_of _ (by decide +kernel)) ggX2_make_X0_settleSome
set_option maxRecDepth 20000 in
theorem ggX2_make_X0_settleEmpty : GoodIn wsX2_make wsX0_settleEmpty := goodIn_r _ [140, 20, 18, 61, 62, 63, 64, 16, 65, 66, 210, 211, 212, 213, 214, 215, 216, 217, 218, 219, 220, 221, 222, 223, 224, 225, 226, 227] (by decide +kernel) (by decide +kernel)
set_option maxRecDepth 20000 in
theorem gX2_make_X0_settleEmpty_u62X2 : GoodIn wsX2_make (va_wsU RX2 62 RX2 "PostingPlanner$Group" ⟨"PostingPlanner$Plan", "settleEmpty", "()V"⟩ yX0_settleEmpty wsX0_settleEmpty) := goodIn_app (goodIn_of _ (by decide +kernel)) ggX2_make_X0_settleEmpty
set_option maxRecDepth 20000 in
theorem ggX2_make_X0_appraise : GoodIn wsX2_make wsX0_appraise := goodIn_r _ [145, 21, 18, 146, 147, 148, 149, 150, 151, 19, 152, 112, 113, 114, 115, 116, 117, 153, 154, 155, 156, 16, 157, 20, 158, 85, 86, 87, 88, 89, 90, 91, 159, 160, 161, 162, 163, 164, 165, 210, 211, 212, 213, 214, 215, 216, 217, 218, 219, 220, 221, 222, 223, 224, 225, 226, 227, 229, 230, 231, 232, 233, 234] (by decide +kernel) (by decide +kernel)
set_option maxRecDepth 20000 in
theorem gX2_make_X0_appraise_u65X2 : GoodIn wsX2_make (va_wsU RX2 65 RX2 "PostingPlanner$Group" ⟨"PostingPlanner$Plan", "appraise", "()V"⟩ yX0_appraise wsX0_appraise) := goodIn_app (goodIn_of _ (by decide +kernel)) ggX2_make_X0_appraise
set_option maxRecDepth 20000 in
theorem ggX2_make_X0_order : GoodIn wsX2_make wsX0_order := goodIn_r _ [170, 18, 20, 90, 171, 172, 173, 174, 16, 175, 158, 84, 176, 210, 211, 212, 213, 214, 215, 216, 217, 218, 219, 220, 221, 222, 223, 224, 225, 226, 227, 229, 230, 231, 232, 233, 234] (by decide +kernel) (by decide +kernel)
set_option maxRecDepth 20000 in
theorem gX2_make_X0_order_u68X2 : GoodIn wsX2_make (va_wsU RX2 68 RX2 "PostingPlanner$Group" ⟨"PostingPlanner$Plan", "order", "()V"⟩ yX0_order wsX0_order) := goodIn_app (goodIn_of _ (by decide +kernel)) ggX2_make_X0_order
set_option maxRecDepth 20000 in
theorem ggX2_takeIn_X0_isFixed : GoodIn wsX2_takeIn wsX0_isFixed := goodIn_r _ [12, 13, 26, 27, 28, 29, 30, 31, 32, 33, 34, 35, 36, 37, 38, 39, 40, 41, 42, 43] (by decide +kernel) (by decide +kernel)
set_option maxRecDepth 20000 in
theorem gX2_takeIn_X0_isFixed_u71X3 : GoodIn wsX2_takeIn (va_wsU RX2 71 RX3 "PostingPlanner$Group" ⟨"PostingPlanner$PlannedClause", "isFixed", "()Z"⟩ yX0_isFixed wsX0_isFixed) := goodIn_app (goodIn_of _ (by decide +kernel)) ggX2_takeIn_X0_isFixed
set_option maxRecDepth 20000 in
theorem ggX2_takeIn_X0_keep : GoodIn wsX2_takeIn wsX0_keep := goodIn_r _ [18, 19, 20, 26, 27, 28, 29, 30, 31, 32, 33, 34, 35, 36, 37, 38, 39, 40, 41, 42, 43] (by decide +kernel) (by decide +kernel)
set_option maxRecDepth 20000 in
theorem gX2_takeIn_X0_keep_u72X2 : GoodIn wsX2_takeIn (va_wsU RX2 72 RX2 "PostingPlanner$Group" ⟨"PostingPlanner$Plan", "keep", "(LPostingPlanner$Part;)V"⟩ yX0_keep wsX0_keep) := goodIn_app (goodIn_of _ (by decide +kernel)) ggX2_takeIn_X0_keep
set_option maxRecDepth 20000 in
theorem ggX2_takeIn_X0_fix : GoodIn wsX2_takeIn wsX0_fix := goodIn_r _ [25, 13, 19, 26, 27, 28, 29, 30, 31, 32, 33, 34, 35, 36, 37, 38, 39, 40, 41, 42, 43] (by decide +kernel) (by decide +kernel)
set_option maxRecDepth 20000 in
theorem gX2_takeIn_X0_fix_u79X2 : GoodIn wsX2_takeIn (va_wsU RX2 79 RX2 "PostingPlanner$Group" ⟨"PostingPlanner$Plan", "fix", "(I)V"⟩ yX0_fix wsX0_fix) := goodIn_app (goodIn_of _ (by decide +kernel)) ggX2_takeIn_X0_fix
set_option maxRecDepth 20000 in
theorem ggX2_plannedAt_X0_partAt : GoodIn wsX2_plannedAt wsX0_partAt := goodIn_r _ [8, 9, 10, 11, 12, 13, 14, 15, 16, 17, 18, 19, 20, 21, 22, 23, 24, 25, 26, 27, 28] (by decide +kernel) (by decide +kernel)
set_option maxRecDepth 20000 in
theorem gX2_plannedAt_X0_partAt_u82X2 : GoodIn wsX2_plannedAt (va_wsU RX2 82 RX2 "PostingPlanner$Group" ⟨"PostingPlanner$Plan", "partAt", "(I)LPostingPlanner$Part;"⟩ yX0_partAt wsX0_partAt) := goodIn_app (goodIn_of _ (by decide +kernel)) ggX2_plannedAt_X0_partAt
set_option maxRecDepth 20000 in
theorem ggX6_init_X8_init : GoodIn wsX6_init wsX8_init := goodIn_r _ [13, 14, 2, 3] (by decide +kernel) (by decide +kernel)
set_option maxRecDepth 20000 in
theorem gX6_init_X8_init_n11 : GoodIn wsX6_init (wsX8_init) := ggX6_init_X8_init
set_option maxRecDepth 20000 in
theorem ggX6_init_X2_init : GoodIn wsX6_init wsX2_init := goodIn_r _ [17, 18, 19, 20, 21, 22, 23, 24, 25, 26, 27, 28, 29, 30, 31, 2, 3, 32, 33, 34, 35, 36, 37, 38, 39, 40, 41, 42, 43, 44, 45, 51, 52, 53, 54, 55, 56, 57, 58, 59, 60, 61, 62, 63, 64, 65, 66, 67, 68, 69, 70, 71, 72, 73, 74] (by decide +kernel) (by decide +kernel)
set_option maxRecDepth 20000 in
theorem gX6_init_X2_init : GoodIn wsX6_init (wsX2_init) := ggX6_init_X2_init
set_option maxRecDepth 20000 in
theorem ggX6_restart_X2_make : GoodIn wsX6_restart wsX2_make := goodIn_r _ [12, 13, 14, 15, 16, 17, 18, 19, 20, 21, 22, 23, 24, 25, 26, 27, 28, 29, 30, 31, 32, 33, 34, 35, 36, 37, 38, 39, 40, 41, 42, 43, 44, 45, 46, 47, 48, 49, 50, 51, 52, 53, 54, 55, 56, 57, 58, 59, 60, 61, 62, 63, 64, 65, 66, 67, 68, 69, 70, 71, 72, 73, 74, 75, 76, 77, 78, 79, 80, 81, 82, 83, 84, 85, 86, 87, 88, 89, 90, 91, 92, 93, 94, 95, 96, 97, 98, 99, 100, 101, 102, 103, 104, 105, 106, 107, 108, 109, 110, 111, 112, 113, 114, 115, 116, 117, 118, 119, 120, 121, 122, 123, 124, 125, 126, 127, 128, 129, 130, 131, 132, 133, 134, 135, 136, 137, 138, 139, 140, 141, 142, 143, 144, 145, 146, 147, 148, 149, 150, 151, 152, 153, 154, 155, 156, 157, 158, 159, 160, 161, 162, 163, 164, 165, 166, 167, 168, 169, 170, 171, 172, 173, 174, 175, 176, 177, 178, 179, 180, 181, 182, 183, 184, 185, 186, 187, 188, 189, 190, 191, 11, 192, 193, 194, 195, 196, 197, 198, 199, 200, 201, 202, 203, 204, 205, 206, 207, 208, 209, 210, 211, 212, 213, 214, 215, 216, 246, 247, 248, 249, 222, 223, 224, 225, 226, 227, 228, 229, 230, 231, 232, 233, 234, 235, 236, 237, 238, 239, 250, 240, 241, 242, 243, 244, 245, 251, 252, 253, 254, 255] (by decide +kernel) (by decide +kernel)
set_option maxRecDepth 20000 in
theorem gX6_restart_X2_make : GoodIn wsX6_restart (wsV RX6 27 RX2 yX2_make wsX2_make) := goodIn_app (goodIn_of _ (by decide +kernel)) ggX6_restart_X2_make
set_option maxRecDepth 20000 in
theorem ggX6_advance_X0_seek : GoodIn wsX6_advance wsX0_seek := goodIn_r _ [12, 13, 14, 15, 16, 17, 18, 19, 20, 11, 21, 22, 23, 24, 25, 26, 27, 28, 29, 30, 31, 32, 33, 34, 35, 36, 37, 38, 39, 40, 41, 42, 43, 44, 45, 46, 10, 47, 48, 49, 50, 51, 52, 53, 54, 55, 56, 57, 58, 59, 60, 61, 62, 63, 64, 65, 66, 67, 68, 69, 70, 71, 72, 73, 4, 74, 75, 76, 77, 78, 79, 80, 81, 82, 83, 84, 85, 86, 87, 88, 89, 94, 95, 96, 97, 98, 99, 100, 101, 102, 103, 104, 105, 106, 107, 108, 109, 110, 111, 112, 113, 114, 115, 116, 117, 118] (by decide +kernel) (by decide +kernel)
set_option maxRecDepth 20000 in
theorem gX6_advance_X0_seek_u51X2 : GoodIn wsX6_advance (va_wsU RX6 51 RX2 "PostingPlanner$Group" ⟨"PostingPlanner$Plan", "seek", "(II)I"⟩ yX0_seek wsX0_seek) := goodIn_app (goodIn_of _ (by decide +kernel)) ggX6_advance_X0_seek
