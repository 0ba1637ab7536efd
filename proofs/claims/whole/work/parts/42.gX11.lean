set_option maxRecDepth 20000 in
theorem ggX11_isDocument_X11_in : GoodIn wsX11_isDocument wsX11_in := goodIn_r _ [4] (by decide +kernel) (by decide +kernel)
set_option maxRecDepth 20000 in
theorem gX11_isDocument_X11_in : GoodIn wsX11_isDocument (va_wsS RX11 78 yX11_in wsX11_in) := goodIn_app (goodIn_of _ (by decide +kernel)) ggX11_isDocument_X11_in
set_option maxRecDepth 20000 in
theorem ggX11_put_X11_isDocument : GoodIn wsX11_put wsX11_isDocument := goodIn_r _ [6, 7, 8, 5, 9] (by decide +kernel) (by decide +kernel)
set_option maxRecDepth 20000 in
theorem gX11_put_X11_isDocument : GoodIn wsX11_put (va_wsS RX11 82 yX11_isDocument wsX11_isDocument) := goodIn_app (goodIn_of _ (by decide +kernel)) ggX11_put_X11_isDocument
set_option maxRecDepth 20000 in
theorem ggX11_put_X11_in : GoodIn wsX11_put wsX11_in := goodIn_r _ [9] (by decide +kernel) (by decide +kernel)
set_option maxRecDepth 20000 in
theorem gX11_put_X11_in : GoodIn wsX11_put (va_wsS RX11 78 yX11_in wsX11_in) := goodIn_app (goodIn_of _ (by decide +kernel)) ggX11_put_X11_in
set_option maxRecDepth 20000 in
theorem ggX11_put_X11_goes : GoodIn wsX11_put wsX11_goes := goodIn_r _ [13, 14, 15, 16, 17, 18, 19, 20, 21, 22, 23, 24, 25, 26, 27, 28, 29, 30, 31, 32, 33, 34, 35, 36, 37, 38, 39, 40, 41, 42, 43, 44, 45, 46, 47, 48, 49] (by decide +kernel) (by decide +kernel)
set_option maxRecDepth 20000 in
theorem gX11_put_X11_goes : GoodIn wsX11_put (wsV RX11 86 RX11 yX11_goes wsX11_goes) := goodIn_app (goodIn_of _ (by decide +kernel)) ggX11_put_X11_goes
set_option maxRecDepth 20000 in
theorem ggX11_drop_X11_isDocument : GoodIn wsX11_drop wsX11_isDocument := goodIn_r _ [5, 6, 7, 4, 8] (by decide +kernel) (by decide +kernel)
set_option maxRecDepth 20000 in
theorem gX11_drop_X11_isDocument : GoodIn wsX11_drop (va_wsS RX11 82 yX11_isDocument wsX11_isDocument) := goodIn_app (goodIn_of _ (by decide +kernel)) ggX11_drop_X11_isDocument
set_option maxRecDepth 20000 in
theorem ggX11_drop_X11_goes : GoodIn wsX11_drop wsX11_goes := goodIn_r _ [12, 13, 14, 15, 16, 17, 18, 19, 20, 21, 22, 23, 24, 25, 26, 27, 28, 29, 30, 31, 32, 33, 34, 35, 36, 37, 38, 39, 40, 41, 42, 43, 44, 45, 46, 47, 48] (by decide +kernel) (by decide +kernel)
set_option maxRecDepth 20000 in
theorem gX11_drop_X11_goes : GoodIn wsX11_drop (wsV RX11 86 RX11 yX11_goes wsX11_goes) := goodIn_app (goodIn_of _ (by decide +kernel)) ggX11_drop_X11_goes
set_option maxRecDepth 20000 in
theorem ggX11_documents_X11_many : GoodIn wsX11_documents wsX11_many := goodIn_r _ [6, 7, 8, 9, 10, 11, 12, 13, 14, 15, 16, 17, 18, 19, 20, 21, 22, 23, 24, 25, 26, 27, 28, 29, 30, 31, 32, 33, 34, 35, 36, 37, 38, 39, 40, 41, 42] (by decide +kernel) (by decide +kernel)
set_option maxRecDepth 20000 in
theorem gX11_documents_X11_many : GoodIn wsX11_documents (wsV RX11 90 RX11 yX11_many wsX11_many) := goodIn_app (goodIn_of _ (by decide +kernel)) ggX11_documents_X11_many
set_option maxRecDepth 20000 in
theorem ggX11_count0_X11_isTrue : GoodIn wsX11_count0 wsX11_isTrue := goodIn_r _ [6] (by decide +kernel) (by decide +kernel)
set_option maxRecDepth 20000 in
theorem gX11_count0_X11_isTrue : GoodIn wsX11_count0 (va_wsS RX11 94 yX11_isTrue wsX11_isTrue) := goodIn_app (goodIn_of _ (by decide +kernel)) ggX11_count0_X11_isTrue
set_option maxRecDepth 20000 in
theorem ggX11_count_X11_in : GoodIn wsX11_count wsX11_in := goodIn_r _ [4] (by decide +kernel) (by decide +kernel)
set_option maxRecDepth 20000 in
theorem gX11_count_X11_in : GoodIn wsX11_count (va_wsS RX11 78 yX11_in wsX11_in) := goodIn_app (goodIn_of _ (by decide +kernel)) ggX11_count_X11_in
set_option maxRecDepth 20000 in
theorem ggX11_count_X11_goes : GoodIn wsX11_count wsX11_goes := goodIn_r _ [8, 9, 19, 20, 21, 22, 23, 24, 25, 26, 27, 28, 29, 30, 31, 32, 33, 34, 35, 36, 37, 38, 39, 40, 41, 42, 43, 44, 45, 46, 47, 48, 49, 50, 51, 52, 53] (by decide +kernel) (by decide +kernel)
set_option maxRecDepth 20000 in
theorem gX11_count_X11_goes : GoodIn wsX11_count (wsV RX11 86 RX11 yX11_goes wsX11_goes) := goodIn_app (goodIn_of _ (by decide +kernel)) ggX11_count_X11_goes
set_option maxRecDepth 20000 in
theorem ggX11_count_X11_count0 : GoodIn wsX11_count wsX11_count0 := goodIn_r _ [13, 14, 15, 16, 17, 3, 18, 19, 20, 21, 22, 23, 24, 25, 26, 27, 28, 29, 30, 31, 32, 33, 34, 35, 36, 37, 38, 39, 40, 41, 42, 43, 44, 45, 46, 47, 48, 49, 50, 51, 52, 53] (by decide +kernel) (by decide +kernel)
set_option maxRecDepth 20000 in
theorem gX11_count_X11_count0 : GoodIn wsX11_count (wsV RX11 98 RX11 yX11_count0 wsX11_count0) := goodIn_app (goodIn_of _ (by decide +kernel)) ggX11_count_X11_count0
set_option maxRecDepth 20000 in
theorem ggX11_fits_X11_in : GoodIn wsX11_fits wsX11_in := goodIn_r _ [4] (by decide +kernel) (by decide +kernel)
set_option maxRecDepth 20000 in
theorem gX11_fits_X11_in : GoodIn wsX11_fits (va_wsS RX11 78 yX11_in wsX11_in) := goodIn_app (goodIn_of _ (by decide +kernel)) ggX11_fits_X11_in
set_option maxRecDepth 20000 in
theorem ggX11_ask_X11_fits : GoodIn wsX11_ask wsX11_fits := goodIn_r _ [7, 8, 9, 6, 10] (by decide +kernel) (by decide +kernel)
set_option maxRecDepth 20000 in
theorem gX11_ask_X11_fits : GoodIn wsX11_ask (va_wsS RX11 102 yX11_fits wsX11_fits) := goodIn_app (goodIn_of _ (by decide +kernel)) ggX11_ask_X11_fits
set_option maxRecDepth 20000 in
theorem ggX11_ask_X11_goes : GoodIn wsX11_ask wsX11_goes := goodIn_r _ [14, 15, 16, 17, 18, 19, 20, 21, 22, 23, 24, 25, 26, 27, 28, 29, 30, 31, 32, 33, 34, 35, 36, 37, 38, 39, 40, 41, 42, 43, 44, 45, 46, 47, 48, 49, 50] (by decide +kernel) (by decide +kernel)
set_option maxRecDepth 20000 in
theorem gX11_ask_X11_goes : GoodIn wsX11_ask (wsV RX11 86 RX11 yX11_goes wsX11_goes) := goodIn_app (goodIn_of _ (by decide +kernel)) ggX11_ask_X11_goes
set_option maxRecDepth 20000 in
theorem ggX11_clause_X11_fits : GoodIn wsX11_clause wsX11_fits := goodIn_r _ [9, 10, 11, 8, 12] (by decide +kernel) (by decide +kernel)
set_option maxRecDepth 20000 in
theorem gX11_clause_X11_fits : GoodIn wsX11_clause (va_wsS RX11 102 yX11_fits wsX11_fits) := goodIn_app (goodIn_of _ (by decide +kernel)) ggX11_clause_X11_fits
set_option maxRecDepth 20000 in
theorem ggX11_clause_X11_goes : GoodIn wsX11_clause wsX11_goes := goodIn_r _ [16, 17, 18, 19, 20, 21, 22, 23, 24, 25, 26, 27, 28, 29, 30, 31, 32, 33, 34, 35, 36, 37, 38, 39, 40, 41, 42, 43, 44, 45, 46, 47, 48, 49, 50, 51, 52] (by decide +kernel) (by decide +kernel)
set_option maxRecDepth 20000 in
theorem gX11_clause_X11_goes : GoodIn wsX11_clause (wsV RX11 86 RX11 yX11_goes wsX11_goes) := goodIn_app (goodIn_of _ (by decide +kernel)) ggX11_clause_X11_goes
set_option maxRecDepth 20000 in
theorem ggX11_literal_X11_in : GoodIn wsX11_literal wsX11_in := goodIn_r _ [7] (by decide +kernel) (by decide +kernel)
set_option maxRecDepth 20000 in
theorem gX11_literal_X11_in : GoodIn wsX11_literal (va_wsS RX11 78 yX11_in wsX11_in) := goodIn_app (goodIn_of _ (by decide +kernel)) ggX11_literal_X11_in
set_option maxRecDepth 20000 in
theorem ggX11_literal_X11_goes : GoodIn wsX11_literal wsX11_goes := goodIn_r _ [11, 12, 13, 14, 15, 16, 17, 18, 19, 20, 21, 22, 23, 24, 25, 26, 27, 28, 29, 30, 31, 32, 33, 34, 35, 36, 37, 38, 39, 40, 41, 42, 43, 44, 45, 46, 47] (by decide +kernel) (by decide +kernel)
set_option maxRecDepth 20000 in
theorem gX11_literal_X11_goes : GoodIn wsX11_literal (wsV RX11 86 RX11 yX11_goes wsX11_goes) := goodIn_app (goodIn_of _ (by decide +kernel)) ggX11_literal_X11_goes
set_option maxRecDepth 20000 in
theorem ggX11_isMatch_X11_isTrue : GoodIn wsX11_isMatch wsX11_isTrue := goodIn_r _ [14] (by decide +kernel) (by decide +kernel)
set_option maxRecDepth 20000 in
theorem gX11_isMatch_X11_isTrue : GoodIn wsX11_isMatch (va_wsS RX11 94 yX11_isTrue wsX11_isTrue) := goodIn_app (goodIn_of _ (by decide +kernel)) ggX11_isMatch_X11_isTrue
set_option maxRecDepth 20000 in
theorem ggX11_isMatch_X11_isBy : GoodIn wsX11_isMatch wsX11_isBy := goodIn_r _ [17] (by decide +kernel) (by decide +kernel)
set_option maxRecDepth 20000 in
theorem gX11_isMatch_X11_isBy : GoodIn wsX11_isMatch (va_wsS RX11 114 yX11_isBy wsX11_isBy) := goodIn_app (goodIn_of _ (by decide +kernel)) ggX11_isMatch_X11_isBy
set_option maxRecDepth 20000 in
theorem ggX11_matches_X11_isDocument : GoodIn wsX11_matches wsX11_isDocument := goodIn_r _ [4, 5, 6, 3, 7] (by decide +kernel) (by decide +kernel)
set_option maxRecDepth 20000 in
theorem gX11_matches_X11_isDocument : GoodIn wsX11_matches (va_wsS RX11 82 yX11_isDocument wsX11_isDocument) := goodIn_app (goodIn_of _ (by decide +kernel)) ggX11_matches_X11_isDocument
set_option maxRecDepth 20000 in
theorem ggX11_matches_X11_goes : GoodIn wsX11_matches wsX11_goes := goodIn_r _ [11, 12, 33, 34, 35, 36, 37, 38, 39, 40, 41, 42, 43, 44, 45, 46, 47, 48, 49, 50, 51, 52, 53, 54, 55, 56, 57, 58, 59, 60, 61, 62, 63, 64, 65, 66, 67] (by decide +kernel) (by decide +kernel)
set_option maxRecDepth 20000 in
theorem gX11_matches_X11_goes : GoodIn wsX11_matches (wsV RX11 86 RX11 yX11_goes wsX11_goes) := goodIn_app (goodIn_of _ (by decide +kernel)) ggX11_matches_X11_goes
set_option maxRecDepth 20000 in
theorem ggX11_matches_X11_isMatch : GoodIn wsX11_matches wsX11_isMatch := goodIn_r _ [16, 17, 18, 19, 20, 21, 22, 23, 24, 25, 26, 27, 28, 3, 29, 30, 31, 32, 33, 34, 35, 36, 37, 38, 39, 40, 41, 42, 43, 44, 45, 46, 47, 48, 49, 50, 51, 52, 53, 54, 55, 56, 57, 58, 59, 60, 61, 62, 63, 64, 65, 66, 67] (by decide +kernel) (by decide +kernel)
set_option maxRecDepth 20000 in
theorem gX11_matches_X11_isMatch : GoodIn wsX11_matches (wsV RX11 118 RX11 yX11_isMatch wsX11_isMatch) := goodIn_app (goodIn_of _ (by decide +kernel)) ggX11_matches_X11_isMatch
set_option maxRecDepth 20000 in
theorem ggX11_hits_X11_isMatch : GoodIn wsX11_hits wsX11_isMatch := goodIn_r _ [6, 7, 8, 9, 10, 11, 12, 13, 14, 15, 16, 17, 18, 5, 19, 20, 21, 22, 23, 24, 25, 26, 27, 28, 29, 30, 31, 32, 33, 34, 35, 36, 37, 38, 39, 40, 41, 42, 43, 44, 45, 46, 47, 48, 49, 50, 51, 52, 53, 54, 55, 56, 57] (by decide +kernel) (by decide +kernel)
set_option maxRecDepth 20000 in
theorem gX11_hits_X11_isMatch : GoodIn wsX11_hits (wsV RX11 118 RX11 yX11_isMatch wsX11_isMatch) := goodIn_app (goodIn_of _ (by decide +kernel)) ggX11_hits_X11_isMatch
set_option maxRecDepth 20000 in
theorem ggX11_plainly_X11_some : GoodIn wsX11_plainly wsX11_some := goodIn_r _ [13] (by decide +kernel) (by decide +kernel)
set_option maxRecDepth 20000 in
theorem gX11_plainly_X11_some : GoodIn wsX11_plainly (va_wsS RX11 121 yX11_some wsX11_some) := goodIn_app (goodIn_of _ (by decide +kernel)) ggX11_plainly_X11_some
set_option maxRecDepth 20000 in
theorem ggX11_thins_X11_hasAhead : GoodIn wsX11_thins wsX11_hasAhead := goodIn_r _ [8, 2, 9, 10, 11, 12, 13, 14, 15, 16, 17, 18, 19, 20, 21, 22, 23, 24, 25, 26, 27, 28, 29, 30, 31, 32, 33, 34, 35, 36, 37, 38, 39, 40, 41, 42, 43] (by decide +kernel) (by decide +kernel)
set_option maxRecDepth 20000 in
theorem gX11_thins_X11_hasAhead : GoodIn wsX11_thins (wsV RX11 125 RX11 yX11_hasAhead wsX11_hasAhead) := goodIn_app (goodIn_of _ (by decide +kernel)) ggX11_thins_X11_hasAhead
set_option maxRecDepth 20000 in
theorem ggX11_sorts_X11_isAhead : GoodIn wsX11_sorts wsX11_isAhead := goodIn_r _ [7, 8, 9, 10, 6, 11, 12, 13, 14, 15, 16, 17, 18, 19, 20, 21, 22, 23, 24, 25, 26, 27, 28, 29, 30, 31, 32, 33, 34, 35, 36, 37, 38, 39, 40, 41, 42, 43, 44, 45, 46, 47, 48, 49, 50, 51] (by decide +kernel) (by decide +kernel)
set_option maxRecDepth 20000 in
theorem gX11_sorts_X11_isAhead : GoodIn wsX11_sorts (wsV RX11 128 RX11 yX11_isAhead wsX11_isAhead) := goodIn_app (goodIn_of _ (by decide +kernel)) ggX11_sorts_X11_isAhead
set_option maxRecDepth 20000 in
theorem ggX11_isAhead_X11_count0 : GoodIn wsX11_isAhead wsX11_count0 := goodIn_r _ [5, 6, 7, 8, 9, 4, 10, 11, 12, 13, 14, 15, 16, 17, 18, 19, 20, 21, 22, 23, 24, 25, 26, 27, 28, 29, 30, 31, 32, 33, 34, 35, 36, 37, 38, 39, 40, 41, 42, 43, 44, 45] (by decide +kernel) (by decide +kernel)
set_option maxRecDepth 20000 in
theorem gX11_isAhead_X11_count0 : GoodIn wsX11_isAhead (wsV RX11 98 RX11 yX11_count0 wsX11_count0) := goodIn_app (goodIn_of _ (by decide +kernel)) ggX11_isAhead_X11_count0
set_option maxRecDepth 20000 in
theorem ggX11_estimated_X11_many : GoodIn wsX11_estimated wsX11_many := goodIn_r _ [5, 6, 7, 8, 9, 10, 11, 12, 13, 14, 15, 16, 17, 18, 19, 20, 21, 22, 23, 24, 25, 26, 27, 28, 29, 30, 31, 32, 33, 34, 35, 36, 37, 38, 39, 40, 41] (by decide +kernel) (by decide +kernel)
set_option maxRecDepth 20000 in
theorem gX11_estimated_X11_many : GoodIn wsX11_estimated (wsV RX11 90 RX11 yX11_many wsX11_many) := goodIn_app (goodIn_of _ (by decide +kernel)) ggX11_estimated_X11_many
set_option maxRecDepth 20000 in
theorem ggX11_estimates_X11_count0 : GoodIn wsX11_estimates wsX11_count0 := goodIn_r _ [10, 11, 12, 13, 14, 9, 15, 24, 25, 26, 27, 28, 29, 30, 31, 32, 33, 34, 35, 36, 37, 38, 39, 40, 41, 42, 43, 44, 45, 46, 47, 48, 49, 50, 51, 52, 53, 54, 55, 56, 57, 58] (by decide +kernel) (by decide +kernel)
set_option maxRecDepth 20000 in
theorem gX11_estimates_X11_count0 : GoodIn wsX11_estimates (wsV RX11 98 RX11 yX11_count0 wsX11_count0) := goodIn_app (goodIn_of _ (by decide +kernel)) ggX11_estimates_X11_count0
set_option maxRecDepth 20000 in
theorem ggX11_estimates_X11_estimated : GoodIn wsX11_estimates wsX11_estimated := goodIn_r _ [19, 20, 21, 22, 9, 23, 11, 24, 25, 26, 27, 28, 29, 30, 31, 32, 33, 34, 35, 36, 37, 38, 39, 40, 41, 42, 43, 44, 45, 46, 47, 48, 49, 50, 51, 52, 53, 54, 55, 56, 57, 58] (by decide +kernel) (by decide +kernel)
set_option maxRecDepth 20000 in
theorem gX11_estimates_X11_estimated : GoodIn wsX11_estimates (wsV RX11 131 RX11 yX11_estimated wsX11_estimated) := goodIn_app (goodIn_of _ (by decide +kernel)) ggX11_estimates_X11_estimated
set_option maxRecDepth 20000 in
theorem ggX11_makes_X11_plainly : GoodIn wsX11_makes wsX11_plainly := goodIn_r _ [14, 15, 16, 17, 18, 19, 20, 21, 7, 22, 23, 24, 13, 25, 66, 67, 68, 69, 70, 71, 72, 73, 74, 75, 76, 77, 78, 79, 80, 81, 82, 83, 84, 85, 86, 87, 88, 89, 90, 91, 92, 93, 94, 95, 96, 97, 98, 99, 100] (by decide +kernel) (by decide +kernel)
set_option maxRecDepth 20000 in
theorem gX11_makes_X11_plainly : GoodIn wsX11_makes (wsV RX11 144 RX11 yX11_plainly wsX11_plainly) := goodIn_app (goodIn_of _ (by decide +kernel)) ggX11_makes_X11_plainly
set_option maxRecDepth 20000 in
theorem ggX11_makes_X11_in : GoodIn wsX11_makes wsX11_in := goodIn_r _ [28] (by decide +kernel) (by decide +kernel)
set_option maxRecDepth 20000 in
theorem gX11_makes_X11_in : GoodIn wsX11_makes (va_wsS RX11 78 yX11_in wsX11_in) := goodIn_app (goodIn_of _ (by decide +kernel)) ggX11_makes_X11_in
set_option maxRecDepth 20000 in
theorem ggX11_makes_X11_thins : GoodIn wsX11_makes wsX11_thins := goodIn_r _ [32, 17, 20, 7, 33, 34, 35, 13, 36, 66, 67, 68, 69, 70, 71, 72, 73, 74, 75, 76, 77, 78, 79, 80, 81, 82, 83, 84, 85, 86, 87, 88, 89, 90, 91, 92, 93, 94, 95, 96, 97, 98, 99, 100] (by decide +kernel) (by decide +kernel)
set_option maxRecDepth 20000 in
theorem gX11_makes_X11_thins : GoodIn wsX11_makes (wsV RX11 148 RX11 yX11_thins wsX11_thins) := goodIn_app (goodIn_of _ (by decide +kernel)) ggX11_makes_X11_thins
set_option maxRecDepth 20000 in
theorem ggX11_makes_X11_sorts : GoodIn wsX11_makes wsX11_sorts := goodIn_r _ [40, 17, 20, 41, 42, 43, 13, 44, 45, 46, 47, 48, 49, 50, 51, 52, 53, 66, 67, 68, 69, 70, 71, 72, 73, 74, 75, 76, 77, 78, 79, 80, 81, 82, 83, 84, 85, 86, 87, 88, 89, 90, 91, 92, 93, 94, 95, 96, 97, 98, 99, 100] (by decide +kernel) (by decide +kernel)
set_option maxRecDepth 20000 in
theorem gX11_makes_X11_sorts : GoodIn wsX11_makes (wsV RX11 151 RX11 yX11_sorts wsX11_sorts) := goodIn_app (goodIn_of _ (by decide +kernel)) ggX11_makes_X11_sorts
set_option maxRecDepth 20000 in
theorem ggX11_makes_X11_estimates : GoodIn wsX11_makes wsX11_estimates := goodIn_r _ [57, 17, 20, 9, 7, 22, 45, 46, 47, 13, 48, 49, 50, 51, 52, 53, 58, 59, 60, 61, 62, 63, 64, 65, 66, 67, 68, 69, 70, 71, 72, 73, 74, 75, 76, 77, 78, 79, 80, 81, 82, 83, 84, 85, 86, 87, 88, 89, 90, 91, 92, 93, 94, 95, 96, 97, 98, 99, 100] (by decide +kernel) (by decide +kernel)
set_option maxRecDepth 20000 in
theorem gX11_makes_X11_estimates : GoodIn wsX11_makes (wsV RX11 154 RX11 yX11_estimates wsX11_estimates) := goodIn_app (goodIn_of _ (by decide +kernel)) ggX11_makes_X11_estimates
set_option maxRecDepth 20000 in
theorem ggX11_makes_X11_some : GoodIn wsX11_makes wsX11_some := goodIn_r _ [25] (by decide +kernel) (by decide +kernel)
set_option maxRecDepth 20000 in
theorem gX11_makes_X11_some : GoodIn wsX11_makes (va_wsS RX11 121 yX11_some wsX11_some) := goodIn_app (goodIn_of _ (by decide +kernel)) ggX11_makes_X11_some
set_option maxRecDepth 20000 in
theorem ggX11_planEstimate_X11_estimated : GoodIn wsX11_planEstimate wsX11_estimated := goodIn_r _ [10, 11, 12, 13, 9, 14, 15, 16, 17, 18, 19, 20, 21, 22, 23, 24, 25, 26, 27, 28, 29, 30, 31, 32, 33, 34, 35, 36, 37, 38, 39, 40, 41, 42, 43, 44, 45, 46, 47, 48, 49, 50] (by decide +kernel) (by decide +kernel)
set_option maxRecDepth 20000 in
theorem gX11_planEstimate_X11_estimated : GoodIn wsX11_planEstimate (wsV RX11 131 RX11 yX11_estimated wsX11_estimated) := goodIn_app (goodIn_of _ (by decide +kernel)) ggX11_planEstimate_X11_estimated
set_option maxRecDepth 20000 in
theorem ggX11_planKind_X11_makes : GoodIn wsX11_planKind wsX11_makes := goodIn_r _ [7, 8, 2, 9, 10, 11, 12, 13, 14, 15, 16, 17, 18, 6, 19, 20, 21, 22, 23, 24, 25, 26, 27, 28, 29, 30, 31, 32, 33, 34, 35, 36, 37, 38, 39, 40, 41, 42, 43, 44, 45, 46, 47, 48, 49, 50, 51, 52, 53, 54, 55, 56, 57, 58, 59, 60, 61, 62, 63, 64, 65, 66, 67, 68, 69, 70, 71, 72, 73, 74, 75, 76, 77, 78, 79, 80, 81, 82, 83, 84, 85, 86, 87, 88, 89, 90, 91, 92, 93, 94, 95, 96, 97, 98, 99, 100, 101, 102, 103, 104, 105] (by decide +kernel) (by decide +kernel)
set_option maxRecDepth 20000 in
theorem gX11_planKind_X11_makes : GoodIn wsX11_planKind (wsV RX11 156 RX11 yX11_makes wsX11_makes) := goodIn_app (goodIn_of _ (by decide +kernel)) ggX11_planKind_X11_makes
set_option maxRecDepth 20000 in
theorem ggX11_planNeed_X11_makes : GoodIn wsX11_planNeed wsX11_makes := goodIn_r _ [7, 8, 9, 10, 2, 11, 12, 13, 14, 15, 16, 17, 18, 6, 19, 20, 21, 22, 23, 24, 25, 26, 27, 28, 29, 30, 31, 32, 33, 34, 35, 36, 37, 38, 39, 40, 41, 42, 43, 44, 45, 46, 47, 48, 49, 50, 51, 52, 53, 54, 55, 56, 57, 58, 59, 60, 61, 62, 63, 64, 65, 66, 67, 68, 69, 70, 71, 72, 73, 74, 75, 76, 77, 78, 79, 80, 81, 82, 83, 84, 85, 86, 87, 88, 89, 90, 91, 92, 93, 94, 95, 96, 97, 98, 99, 100, 101, 102, 103, 104, 105] (by decide +kernel) (by decide +kernel)
set_option maxRecDepth 20000 in
theorem gX11_planNeed_X11_makes : GoodIn wsX11_planNeed (wsV RX11 156 RX11 yX11_makes wsX11_makes) := goodIn_app (goodIn_of _ (by decide +kernel)) ggX11_planNeed_X11_makes
set_option maxRecDepth 20000 in
theorem ggX11_planSize_X11_makes : GoodIn wsX11_planSize wsX11_makes := goodIn_r _ [7, 8, 9, 10, 11, 2, 12, 13, 14, 15, 16, 17, 18, 6, 19, 20, 21, 22, 23, 24, 25, 26, 27, 28, 29, 30, 31, 32, 33, 34, 35, 36, 37, 38, 39, 40, 41, 42, 43, 44, 45, 46, 47, 48, 49, 50, 51, 52, 53, 54, 55, 56, 57, 58, 59, 60, 61, 62, 63, 64, 65, 66, 67, 68, 69, 70, 71, 72, 73, 74, 75, 76, 77, 78, 79, 80, 81, 82, 83, 84, 85, 86, 87, 88, 89, 90, 91, 92, 93, 94, 95, 96, 97, 98, 99, 100, 101, 102, 103, 104, 105] (by decide +kernel) (by decide +kernel)
set_option maxRecDepth 20000 in
theorem gX11_planSize_X11_makes : GoodIn wsX11_planSize (wsV RX11 156 RX11 yX11_makes wsX11_makes) := goodIn_app (goodIn_of _ (by decide +kernel)) ggX11_planSize_X11_makes
set_option maxRecDepth 20000 in
theorem ggX11_estimate_X11_makes : GoodIn wsX11_estimate wsX11_makes := goodIn_r _ [6, 7, 8, 9, 10, 11, 12, 13, 14, 15, 16, 17, 18, 5, 19, 20, 21, 22, 23, 24, 25, 26, 27, 28, 29, 30, 31, 32, 33, 34, 35, 36, 37, 38, 39, 40, 41, 42, 43, 44, 45, 46, 47, 48, 49, 50, 51, 52, 53, 54, 55, 56, 57, 58, 59, 60, 61, 62, 63, 64, 65, 66, 67, 68, 69, 70, 75, 76, 77, 78, 79, 80, 81, 82, 83, 84, 85, 86, 87, 88, 89, 90, 91, 92, 93, 94, 95, 96, 97, 98, 99, 100, 101, 102, 103, 104, 105, 106, 107, 108, 109] (by decide +kernel) (by decide +kernel)
set_option maxRecDepth 20000 in
theorem gX11_estimate_X11_makes : GoodIn wsX11_estimate (wsV RX11 156 RX11 yX11_makes wsX11_makes) := goodIn_app (goodIn_of _ (by decide +kernel)) ggX11_estimate_X11_makes
set_option maxRecDepth 20000 in
theorem ggX11_estimate_X11_planEstimate : GoodIn wsX11_estimate wsX11_planEstimate := goodIn_r _ [74, 11, 15, 14, 8, 10, 63, 64, 65, 5, 66, 67, 68, 69, 70, 54, 75, 76, 77, 78, 79, 80, 81, 82, 83, 84, 85, 86, 87, 88, 89, 90, 91, 92, 93, 94, 95, 96, 97, 98, 99, 100, 101, 102, 103, 104, 105, 106, 107, 108, 109] (by decide +kernel) (by decide +kernel)
set_option maxRecDepth 20000 in
theorem gX11_estimate_X11_planEstimate : GoodIn wsX11_estimate (wsV RX11 159 RX11 yX11_planEstimate wsX11_planEstimate) := goodIn_app (goodIn_of _ (by decide +kernel)) ggX11_estimate_X11_planEstimate
set_option maxRecDepth 20000 in
theorem ggX11_isPlace_X11_makes : GoodIn wsX11_isPlace wsX11_makes := goodIn_r _ [6, 7, 8, 9, 10, 1, 11, 12, 13, 14, 15, 16, 17, 5, 18, 19, 20, 21, 22, 23, 24, 25, 26, 27, 28, 29, 30, 31, 32, 33, 34, 35, 36, 37, 38, 39, 40, 41, 42, 43, 44, 45, 46, 47, 48, 49, 50, 51, 52, 53, 54, 55, 56, 57, 58, 59, 60, 61, 62, 63, 64, 65, 66, 67, 68, 69, 75, 76, 77, 78, 79, 80, 81, 82, 83, 84, 85, 86, 87, 88, 89, 90, 91, 92, 93, 94, 95, 96, 97, 98, 99, 100, 101, 102, 103, 104, 105, 106, 107, 108, 109] (by decide +kernel) (by decide +kernel)
set_option maxRecDepth 20000 in
theorem gX11_isPlace_X11_makes : GoodIn wsX11_isPlace (wsV RX11 156 RX11 yX11_makes wsX11_makes) := goodIn_app (goodIn_of _ (by decide +kernel)) ggX11_isPlace_X11_makes
set_option maxRecDepth 20000 in
theorem ggX11_isPlace_X11_in : GoodIn wsX11_isPlace wsX11_in := goodIn_r _ [32] (by decide +kernel) (by decide +kernel)
set_option maxRecDepth 20000 in
theorem gX11_isPlace_X11_in : GoodIn wsX11_isPlace (va_wsS RX11 78 yX11_in wsX11_in) := goodIn_app (goodIn_of _ (by decide +kernel)) ggX11_isPlace_X11_in
set_option maxRecDepth 20000 in
theorem ggX11_isPlace_X11_goes : GoodIn wsX11_isPlace wsX11_goes := goodIn_r _ [73, 74, 75, 76, 77, 78, 79, 80, 81, 82, 83, 84, 85, 86, 87, 88, 89, 90, 91, 92, 93, 94, 95, 96, 97, 98, 99, 100, 101, 102, 103, 104, 105, 106, 107, 108, 109] (by decide +kernel) (by decide +kernel)
set_option maxRecDepth 20000 in
theorem gX11_isPlace_X11_goes : GoodIn wsX11_isPlace (wsV RX11 86 RX11 yX11_goes wsX11_goes) := goodIn_app (goodIn_of _ (by decide +kernel)) ggX11_isPlace_X11_goes
set_option maxRecDepth 20000 in
theorem ggX11_clauseAt_X11_isPlace : GoodIn wsX11_clauseAt wsX11_isPlace := goodIn_r _ [6, 7, 8, 9, 10, 5, 11, 12, 13, 14, 15, 16, 17, 1, 18, 19, 20, 21, 22, 23, 24, 25, 26, 27, 28, 29, 30, 31, 32, 33, 34, 35, 36, 37, 38, 39, 40, 41, 42, 43, 44, 45, 46, 47, 48, 49, 50, 51, 52, 53, 54, 55, 56, 57, 58, 59, 60, 61, 62, 63, 64, 65, 66, 67, 68, 69, 70, 71, 72, 73, 74, 75, 76, 77, 78, 79, 80, 81, 82, 83, 84, 85, 86, 87, 88, 89, 90, 91, 92, 93, 94, 95, 96, 97, 98, 99, 100, 101, 102, 103, 104, 105, 106, 107, 108, 109, 110, 111, 112, 113] (by decide +kernel) (by decide +kernel)
set_option maxRecDepth 20000 in
theorem gX11_clauseAt_X11_isPlace : GoodIn wsX11_clauseAt (wsV RX11 162 RX11 yX11_isPlace wsX11_isPlace) := goodIn_app (goodIn_of _ (by decide +kernel)) ggX11_clauseAt_X11_isPlace
set_option maxRecDepth 20000 in
theorem ggX11_kindAt_X11_isPlace : GoodIn wsX11_kindAt wsX11_isPlace := goodIn_r _ [7, 8, 9, 10, 11, 6, 12, 13, 14, 15, 16, 17, 1, 2, 18, 19, 20, 21, 22, 23, 24, 25, 26, 27, 28, 29, 30, 31, 32, 33, 34, 35, 36, 37, 38, 39, 40, 41, 42, 43, 44, 45, 46, 47, 48, 49, 50, 51, 52, 53, 54, 55, 56, 57, 58, 59, 60, 61, 62, 63, 64, 65, 66, 67, 68, 69, 70, 71, 72, 73, 74, 75, 76, 77, 78, 79, 80, 81, 82, 83, 84, 85, 86, 87, 88, 89, 90, 91, 92, 93, 94, 95, 96, 97, 98, 99, 100, 101, 102, 103, 104, 105, 106, 107, 108, 109, 110, 111, 112, 113] (by decide +kernel) (by decide +kernel)
set_option maxRecDepth 20000 in
theorem gX11_kindAt_X11_isPlace : GoodIn wsX11_kindAt (wsV RX11 162 RX11 yX11_isPlace wsX11_isPlace) := goodIn_app (goodIn_of _ (by decide +kernel)) ggX11_kindAt_X11_isPlace
set_option maxRecDepth 20000 in
theorem ggX11_estimateAt_X11_isPlace : GoodIn wsX11_estimateAt wsX11_isPlace := goodIn_r _ [7, 8, 9, 10, 11, 6, 12, 13, 14, 15, 16, 17, 18, 2, 1, 19, 20, 21, 22, 23, 24, 25, 26, 27, 28, 29, 30, 31, 32, 33, 34, 35, 36, 37, 38, 39, 40, 41, 42, 43, 44, 45, 46, 47, 48, 49, 50, 51, 52, 53, 54, 55, 56, 57, 58, 59, 60, 61, 62, 63, 64, 65, 66, 67, 68, 69, 70, 71, 72, 73, 74, 75, 76, 77, 78, 79, 80, 81, 82, 83, 84, 85, 86, 87, 88, 89, 90, 91, 92, 93, 94, 95, 96, 97, 98, 99, 100, 101, 102, 103, 104, 105, 106, 107, 108, 109, 110, 111, 112, 113] (by decide +kernel) (by decide +kernel)
set_option maxRecDepth 20000 in
theorem gX11_estimateAt_X11_isPlace : GoodIn wsX11_estimateAt (wsV RX11 162 RX11 yX11_isPlace wsX11_isPlace) := goodIn_app (goodIn_of _ (by decide +kernel)) ggX11_estimateAt_X11_isPlace
set_option maxRecDepth 20000 in
theorem ggX11_literalAt_X11_isPlace : GoodIn wsX11_literalAt wsX11_isPlace := goodIn_r _ [8, 9, 10, 11, 12, 7, 13, 14, 15, 16, 17, 18, 19, 2, 20, 21, 22, 23, 24, 25, 26, 1, 27, 28, 3, 29, 30, 31, 32, 33, 34, 35, 36, 37, 38, 39, 40, 41, 42, 43, 44, 45, 46, 47, 48, 49, 50, 51, 52, 53, 54, 55, 56, 57, 58, 59, 60, 61, 62, 63, 64, 65, 66, 67, 68, 69, 70, 71, 72, 73, 74, 75, 76, 77, 78, 79, 80, 81, 82, 83, 84, 85, 86, 87, 88, 89, 90, 91, 92, 93, 94, 95, 96, 97, 98, 99, 100, 101, 102, 103, 104, 105, 106, 107, 108, 109, 110, 111, 112, 113] (by decide +kernel) (by decide +kernel)
set_option maxRecDepth 20000 in
theorem gX11_literalAt_X11_isPlace : GoodIn wsX11_literalAt (wsV RX11 162 RX11 yX11_isPlace wsX11_isPlace) := goodIn_app (goodIn_of _ (by decide +kernel)) ggX11_literalAt_X11_isPlace
set_option maxRecDepth 20000 in
theorem ggX11_literalAt_X11_in : GoodIn wsX11_literalAt wsX11_in := goodIn_r _ [36] (by decide +kernel) (by decide +kernel)
set_option maxRecDepth 20000 in
theorem gX11_literalAt_X11_in : GoodIn wsX11_literalAt (va_wsS RX11 78 yX11_in wsX11_in) := goodIn_app (goodIn_of _ (by decide +kernel)) ggX11_literalAt_X11_in
set_option maxRecDepth 20000 in
theorem ggX11_literalAt_X11_goes : GoodIn wsX11_literalAt wsX11_goes := goodIn_r _ [77, 78, 79, 80, 81, 82, 83, 84, 85, 86, 87, 88, 89, 90, 91, 92, 93, 94, 95, 96, 97, 98, 99, 100, 101, 102, 103, 104, 105, 106, 107, 108, 109, 110, 111, 112, 113] (by decide +kernel) (by decide +kernel)
set_option maxRecDepth 20000 in
theorem gX11_literalAt_X11_goes : GoodIn wsX11_literalAt (wsV RX11 86 RX11 yX11_goes wsX11_goes) := goodIn_app (goodIn_of _ (by decide +kernel)) ggX11_literalAt_X11_goes
set_option maxRecDepth 20000 in
theorem ggX11_begin_X11_makes : GoodIn wsX11_begin wsX11_makes := goodIn_r _ [31, 32, 7, 33, 9, 11, 34, 15, 13, 35, 36, 37, 38, 30, 39, 40, 41, 19, 42, 43, 22, 44, 17, 45, 46, 47, 48, 49, 50, 51, 52, 53, 54, 55, 56, 57, 58, 59, 60, 61, 62, 63, 64, 65, 66, 67, 68, 69, 70, 4, 6, 71, 72, 73, 74, 75, 76, 77, 78, 79, 80, 81, 82, 83, 84, 85, 90, 91, 92, 93, 94, 95, 96, 97, 98, 99, 100, 101, 102, 103, 104, 105, 106, 107, 108, 109, 110, 111, 112, 113, 114, 115, 116, 117, 118, 119, 120, 121, 122, 123, 124] (by decide +kernel) (by decide +kernel)
set_option maxRecDepth 20000 in
theorem gX11_begin_X11_makes : GoodIn wsX11_begin (wsV RX11 156 RX11 yX11_makes wsX11_makes) := goodIn_app (goodIn_of _ (by decide +kernel)) ggX11_begin_X11_makes
set_option maxRecDepth 20000 in
theorem ggX11_begin_X11_planEstimate : GoodIn wsX11_begin wsX11_planEstimate := goodIn_r _ [89, 11, 35, 13, 7, 9, 78, 79, 80, 30, 81, 82, 83, 84, 85, 4, 90, 91, 92, 93, 94, 95, 96, 97, 98, 99, 100, 101, 102, 103, 104, 105, 106, 107, 108, 109, 110, 111, 112, 113, 114, 115, 116, 117, 118, 119, 120, 121, 122, 123, 124] (by decide +kernel) (by decide +kernel)
set_option maxRecDepth 20000 in
theorem gX11_begin_X11_planEstimate : GoodIn wsX11_begin (wsV RX11 159 RX11 yX11_planEstimate wsX11_planEstimate) := goodIn_app (goodIn_of _ (by decide +kernel)) ggX11_begin_X11_planEstimate
set_option maxRecDepth 20000 in
theorem ggX11_seeksLiteral_X11_isTrue : GoodIn wsX11_seeksLiteral wsX11_isTrue := goodIn_r _ [9] (by decide +kernel) (by decide +kernel)
set_option maxRecDepth 20000 in
theorem gX11_seeksLiteral_X11_isTrue : GoodIn wsX11_seeksLiteral (va_wsS RX11 94 yX11_isTrue wsX11_isTrue) := goodIn_app (goodIn_of _ (by decide +kernel)) ggX11_seeksLiteral_X11_isTrue
set_option maxRecDepth 20000 in
theorem ggX11_seeksClause_X11_seeksLiteral : GoodIn wsX11_seeksClause wsX11_seeksLiteral := goodIn_r _ [10, 4, 11, 12, 13, 14, 15, 16, 9, 17, 22, 23, 24, 25, 26, 27, 28, 29, 30, 31, 32, 33, 34, 35, 36, 37, 38, 39, 40, 41, 42, 43, 44, 45, 46, 47, 48, 49, 50, 51, 52, 53, 54, 55, 56] (by decide +kernel) (by decide +kernel)
set_option maxRecDepth 20000 in
theorem gX11_seeksClause_X11_seeksLiteral : GoodIn wsX11_seeksClause (wsV RX11 187 RX11 yX11_seeksLiteral wsX11_seeksLiteral) := goodIn_app (goodIn_of _ (by decide +kernel)) ggX11_seeksClause_X11_seeksLiteral
set_option maxRecDepth 20000 in
theorem ggX11_seeksClause_X11_nthLiteral : GoodIn wsX11_seeksClause wsX11_nthLiteral := goodIn_r _ [21, 4, 22, 23, 24, 25, 26, 27, 28, 29, 30, 31, 32, 33, 34, 35, 36, 37, 38, 39, 40, 41, 42, 43, 44, 45, 46, 47, 48, 49, 50, 51, 52, 53, 54, 55, 56] (by decide +kernel) (by decide +kernel)
set_option maxRecDepth 20000 in
theorem gX11_seeksClause_X11_nthLiteral : GoodIn wsX11_seeksClause (wsV RX11 191 RX11 yX11_nthLiteral wsX11_nthLiteral) := goodIn_app (goodIn_of _ (by decide +kernel)) ggX11_seeksClause_X11_nthLiteral
set_option maxRecDepth 20000 in
theorem ggX11_seeksPlan_X11_seeksClause : GoodIn wsX11_seeksPlan wsX11_seeksClause := goodIn_r _ [10, 4, 11, 12, 13, 14, 15, 16, 17, 9, 18, 19, 2, 20, 21, 22, 23, 24, 25, 26, 27, 28, 33, 34, 35, 36, 37, 38, 39, 40, 41, 42, 43, 44, 45, 46, 47, 48, 49, 50, 51, 52, 53, 54, 55, 56, 57, 58, 59, 60, 61, 62, 63, 64, 65, 66, 67] (by decide +kernel) (by decide +kernel)
set_option maxRecDepth 20000 in
theorem gX11_seeksPlan_X11_seeksClause : GoodIn wsX11_seeksPlan (wsV RX11 195 RX11 yX11_seeksClause wsX11_seeksClause) := goodIn_app (goodIn_of _ (by decide +kernel)) ggX11_seeksPlan_X11_seeksClause
set_option maxRecDepth 20000 in
theorem ggX11_seeksPlan_X11_nthClause : GoodIn wsX11_seeksPlan wsX11_nthClause := goodIn_r _ [32, 3, 4, 33, 34, 35, 36, 37, 38, 39, 40, 41, 42, 43, 44, 45, 46, 47, 48, 49, 50, 51, 52, 53, 54, 55, 56, 57, 58, 59, 60, 61, 62, 63, 64, 65, 66, 67] (by decide +kernel) (by decide +kernel)
set_option maxRecDepth 20000 in
theorem gX11_seeksPlan_X11_nthClause : GoodIn wsX11_seeksPlan (wsV RX11 198 RX11 yX11_nthClause wsX11_nthClause) := goodIn_app (goodIn_of _ (by decide +kernel)) ggX11_seeksPlan_X11_nthClause
set_option maxRecDepth 20000 in
theorem ggX11_leaps_X11_seeksPlan : GoodIn wsX11_leaps wsX11_seeksPlan := goodIn_r _ [7, 8, 9, 10, 11, 12, 13, 14, 15, 6, 16, 17, 18, 19, 20, 21, 22, 23, 24, 25, 26, 27, 28, 29, 30, 31, 32, 33, 34, 35, 36, 37, 38, 39, 40, 41, 42, 43, 44, 45, 46, 47, 48, 49, 50, 51, 52, 53, 54, 55, 56, 57, 58, 59, 60, 61, 62, 63, 64, 65, 66, 67, 68, 69, 70, 71, 72, 73] (by decide +kernel) (by decide +kernel)
set_option maxRecDepth 20000 in
theorem gX11_leaps_X11_seeksPlan : GoodIn wsX11_leaps (wsV RX11 201 RX11 yX11_seeksPlan wsX11_seeksPlan) := goodIn_app (goodIn_of _ (by decide +kernel)) ggX11_leaps_X11_seeksPlan
set_option maxRecDepth 20000 in
theorem ggX11_leap_X11_isDocument : GoodIn wsX11_leap wsX11_isDocument := goodIn_r _ [5, 6, 7, 4, 8] (by decide +kernel) (by decide +kernel)
set_option maxRecDepth 20000 in
theorem gX11_leap_X11_isDocument : GoodIn wsX11_leap (va_wsS RX11 82 yX11_isDocument wsX11_isDocument) := goodIn_app (goodIn_of _ (by decide +kernel)) ggX11_leap_X11_isDocument
set_option maxRecDepth 20000 in
theorem ggX11_leap_X11_goes : GoodIn wsX11_leap wsX11_goes := goodIn_r _ [12, 13, 55, 56, 57, 58, 59, 60, 61, 62, 63, 64, 65, 66, 67, 68, 69, 70, 71, 72, 73, 74, 75, 76, 77, 78, 79, 80, 81, 82, 83, 84, 85, 86, 87, 88, 89] (by decide +kernel) (by decide +kernel)
set_option maxRecDepth 20000 in
theorem gX11_leap_X11_goes : GoodIn wsX11_leap (wsV RX11 86 RX11 yX11_goes wsX11_goes) := goodIn_app (goodIn_of _ (by decide +kernel)) ggX11_leap_X11_goes
set_option maxRecDepth 20000 in
theorem ggX11_leap_X11_leaps : GoodIn wsX11_leap wsX11_leaps := goodIn_r _ [17, 18, 19, 20, 21, 22, 4, 23, 24, 25, 26, 27, 28, 29, 30, 31, 32, 33, 34, 35, 36, 37, 38, 39, 40, 41, 42, 43, 44, 45, 46, 47, 48, 49, 50, 51, 52, 53, 54, 55, 56, 57, 58, 59, 60, 61, 62, 63, 64, 65, 66, 67, 68, 69, 70, 71, 72, 73, 74, 75, 76, 77, 78, 79, 80, 81, 82, 83, 84, 85, 86, 87, 88, 89] (by decide +kernel) (by decide +kernel)
set_option maxRecDepth 20000 in
theorem gX11_leap_X11_leaps : GoodIn wsX11_leap (wsV RX11 204 RX11 yX11_leaps wsX11_leaps) := goodIn_app (goodIn_of _ (by decide +kernel)) ggX11_leap_X11_leaps
set_option maxRecDepth 20000 in
theorem ggX11_next_X11_goes : GoodIn wsX11_next wsX11_goes := goodIn_r _ [6, 7, 49, 50, 51, 52, 53, 54, 55, 56, 57, 58, 59, 60, 61, 62, 63, 64, 65, 66, 67, 68, 69, 70, 71, 72, 73, 74, 75, 76, 77, 78, 79, 80, 81, 82, 83] (by decide +kernel) (by decide +kernel)
set_option maxRecDepth 20000 in
theorem gX11_next_X11_goes : GoodIn wsX11_next (wsV RX11 86 RX11 yX11_goes wsX11_goes) := goodIn_app (goodIn_of _ (by decide +kernel)) ggX11_next_X11_goes
set_option maxRecDepth 20000 in
theorem ggX11_next_X11_leaps : GoodIn wsX11_next wsX11_leaps := goodIn_r _ [11, 12, 13, 14, 15, 16, 5, 17, 18, 19, 20, 21, 22, 23, 24, 25, 26, 27, 28, 29, 30, 31, 32, 33, 34, 35, 36, 37, 38, 39, 40, 41, 42, 43, 44, 45, 46, 47, 48, 49, 50, 51, 52, 53, 54, 55, 56, 57, 58, 59, 60, 61, 62, 63, 64, 65, 66, 67, 68, 69, 70, 71, 72, 73, 74, 75, 76, 77, 78, 79, 80, 81, 82, 83] (by decide +kernel) (by decide +kernel)
set_option maxRecDepth 20000 in
theorem gX11_next_X11_leaps : GoodIn wsX11_next (wsV RX11 204 RX11 yX11_leaps wsX11_leaps) := goodIn_app (goodIn_of _ (by decide +kernel)) ggX11_next_X11_leaps
set_option maxRecDepth 20000 in
theorem ggX11_readings_X11_goes : GoodIn wsX11_readings wsX11_goes := goodIn_r _ [7, 8, 9, 10, 11, 12, 13, 14, 15, 16, 17, 18, 19, 20, 21, 22, 23, 24, 25, 26, 27, 28, 29, 30, 31, 32, 33, 34, 35, 36, 37, 38, 39, 40, 41, 42, 43] (by decide +kernel) (by decide +kernel)
set_option maxRecDepth 20000 in
theorem gX11_readings_X11_goes : GoodIn wsX11_readings (wsV RX11 86 RX11 yX11_goes wsX11_goes) := goodIn_app (goodIn_of _ (by decide +kernel)) ggX11_readings_X11_goes
