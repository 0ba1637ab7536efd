set_option maxRecDepth 20000 in
theorem ggL_law_L_count : GoodIn wsL_law wsL_count := goodIn_ca (goodIn_r _ [202, 129, 203, 204, 205, 2, 206, 16, 207, 208, 209, 210, 141, 142, 211, 212, 213, 214, 215, 216, 15, 217, 37, 218, 219, 185, 186, 187, 188, 189, 190, 191, 818, 819, 820, 821, 857] (by decide +kernel) (by decide +kernel)) (goodIn_sub (fun _ h => List.mem_append_left _ (List.mem_append_right _ h)) (by decide +kernel))
set_option maxRecDepth 20000 in
theorem gL_law_L_count : GoodIn wsL_law (va_wsS RL 84 yL_count wsL_count) := goodIn_app (goodIn_of _ (by decide +kernel)) ggL_law_L_count
set_option maxRecDepth 20000 in
theorem ggL_law_X11_count : GoodIn wsL_law wsX11_count := goodIn_r _ [223, 154, 155, 5, 156, 157, 158, 159, 160, 161, 224, 225, 226, 227, 104, 105, 228, 229, 230, 822, 823, 824, 825, 826, 827, 828, 829, 830, 831, 832, 833, 834, 835, 836, 837, 838, 839, 840, 841, 842, 843, 844, 845, 846, 847, 848, 849, 850, 851, 852, 853, 854, 855, 856] (by decide +kernel) (by decide +kernel)
set_option maxRecDepth 20000 in
theorem gL_law_X11_count : GoodIn wsL_law (wsV RL 86 RX11 yX11_count wsX11_count) := goodIn_app (goodIn_of _ (by decide +kernel)) ggL_law_X11_count
set_option maxRecDepth 20000 in
theorem ggL_law_L_ask : GoodIn wsL_law wsL_ask := goodIn_ca (goodIn_r _ [233, 130, 234, 235, 236, 2, 237, 20, 238, 239, 240, 241, 135, 136, 242, 243, 244, 19, 245, 246, 50, 247, 818, 819, 820, 821, 858, 859, 860, 861] (by decide +kernel) (by decide +kernel)) (goodIn_sub (fun _ h => List.mem_append_left _ (List.mem_append_left _ (List.mem_append_right _ h))) (by decide +kernel))
set_option maxRecDepth 20000 in
theorem gL_law_L_ask : GoodIn wsL_law (va_wsS RL 87 yL_ask wsL_ask) := goodIn_app (goodIn_of _ (by decide +kernel)) ggL_law_L_ask
set_option maxRecDepth 20000 in
theorem ggL_law_X11_ask : GoodIn wsL_law wsX11_ask := goodIn_r _ [251, 252, 253, 254, 255, 256, 5, 257, 154, 155, 156, 157, 158, 159, 160, 161, 822, 823, 824, 825, 826, 827, 828, 829, 830, 831, 832, 833, 834, 835, 836, 837, 838, 839, 840, 841, 842, 843, 844, 845, 846, 847, 848, 849, 850, 851, 852, 853, 854, 855, 856] (by decide +kernel) (by decide +kernel)
set_option maxRecDepth 20000 in
theorem gL_law_X11_ask : GoodIn wsL_law (wsV RL 89 RX11 yX11_ask wsX11_ask) := goodIn_app (goodIn_of _ (by decide +kernel)) ggL_law_X11_ask
set_option maxRecDepth 20000 in
theorem ggL_law_L_clause : GoodIn wsL_law wsL_clause := goodIn_ca (goodIn_ca (goodIn_r _ [260, 130, 261, 262, 263, 264, 2, 265, 266, 267, 20, 238, 239, 240, 241, 135, 136, 268, 269, 270, 19, 271, 246, 47, 272, 273, 274, 49, 275, 276, 277, 278, 279, 818, 819, 820, 821, 858, 859, 860, 861, 876, 877, 878, 879, 880] (by decide +kernel) (by decide +kernel)) (goodIn_sub (fun _ h => List.mem_append_right _ h) (by decide +kernel))) (goodIn_sub (fun _ h => List.mem_append_left _ (List.mem_append_left _ (List.mem_append_right _ h))) (by decide +kernel))
set_option maxRecDepth 20000 in
theorem gL_law_L_clause : GoodIn wsL_law (va_wsS RL 90 yL_clause wsL_clause) := goodIn_app (goodIn_of _ (by decide +kernel)) ggL_law_L_clause
set_option maxRecDepth 20000 in
theorem ggL_law_X11_clause : GoodIn wsL_law wsX11_clause := goodIn_r _ [283, 252, 106, 107, 108, 109, 255, 256, 5, 257, 154, 155, 156, 157, 158, 159, 160, 161, 822, 823, 824, 825, 826, 827, 828, 829, 830, 831, 832, 833, 834, 835, 836, 837, 838, 839, 840, 841, 842, 843, 844, 845, 846, 847, 848, 849, 850, 851, 852, 853, 854, 855, 856] (by decide +kernel) (by decide +kernel)
set_option maxRecDepth 20000 in
theorem gL_law_X11_clause : GoodIn wsL_law (wsV RL 93 RX11 yX11_clause wsX11_clause) := goodIn_app (goodIn_of _ (by decide +kernel)) ggL_law_X11_clause
set_option maxRecDepth 20000 in
theorem ggL_law_L_literal : GoodIn wsL_law wsL_literal := goodIn_ca (goodIn_ca (goodIn_r _ [286, 129, 261, 287, 288, 289, 2, 290, 141, 142, 266, 267, 20, 291, 292, 293, 294, 19, 295, 246, 47, 207, 208, 209, 210, 211, 212, 213, 296, 297, 298, 49, 299, 279, 55, 818, 819, 820, 821, 876, 877, 878, 879, 880, 858, 859, 860, 861] (by decide +kernel) (by decide +kernel)) (goodIn_sub (fun _ h => List.mem_append_left _ (List.mem_append_right _ h)) (by decide +kernel))) (goodIn_sub (fun _ h => List.mem_append_right _ h) (by decide +kernel))
set_option maxRecDepth 20000 in
theorem gL_law_L_literal : GoodIn wsL_law (va_wsS RL 94 yL_literal wsL_literal) := goodIn_app (goodIn_of _ (by decide +kernel)) ggL_law_L_literal
set_option maxRecDepth 20000 in
theorem ggL_law_X11_literal : GoodIn wsL_law wsX11_literal := goodIn_r _ [303, 252, 109, 110, 154, 155, 5, 156, 157, 158, 159, 160, 161, 822, 823, 824, 825, 826, 827, 828, 829, 830, 831, 832, 833, 834, 835, 836, 837, 838, 839, 840, 841, 842, 843, 844, 845, 846, 847, 848, 849, 850, 851, 852, 853, 854, 855, 856] (by decide +kernel) (by decide +kernel)
set_option maxRecDepth 20000 in
theorem gL_law_X11_literal : GoodIn wsL_law (wsV RL 96 RX11 yX11_literal wsX11_literal) := goodIn_app (goodIn_of _ (by decide +kernel)) ggL_law_X11_literal
set_option maxRecDepth 20000 in
theorem ggL_law_L_matches : GoodIn wsL_law wsL_matches := goodIn_ca (goodIn_r _ [306, 129, 307, 308, 309, 2, 310, 137, 138, 139, 140, 141, 142, 311, 312, 313, 314, 16, 20, 315, 316, 317, 15, 318, 37, 319, 320, 321, 19, 322, 246, 50, 247, 323, 293, 294, 295, 47, 324, 325, 326, 49, 327, 279, 55, 276, 277, 278, 218, 219, 328, 329, 818, 819, 820, 821, 857, 858, 859, 860, 861, 876, 877, 878, 879, 880] (by decide +kernel) (by decide +kernel)) (goodIn_sub (fun _ h => List.mem_append_left _ (List.mem_append_right _ h)) (by decide +kernel))
set_option maxRecDepth 20000 in
theorem gL_law_L_matches : GoodIn wsL_law (va_wsS RL 97 yL_matches wsL_matches) := goodIn_app (goodIn_of _ (by decide +kernel)) ggL_law_L_matches
