set_option maxRecDepth 20000 in
theorem ggX3_isHook_X3_in : GoodIn wsX3_isHook wsX3_in := goodIn_r _ [4] (by decide +kernel) (by decide +kernel)
set_option maxRecDepth 20000 in
theorem gX3_isHook_X3_in : GoodIn wsX3_isHook (va_wsS RX3 33 yX3_in wsX3_in) := goodIn_app (goodIn_of _ (by decide +kernel)) ggX3_isHook_X3_in
set_option maxRecDepth 20000 in
theorem ggX3_hasRow_X3_kindAt : GoodIn wsX3_hasRow wsX3_kindAt := goodIn_r _ [5, 6, 7, 11, 12, 13, 14, 15, 16, 17, 18, 19, 20, 21, 22, 23, 24, 25] (by decide +kernel) (by decide +kernel)
set_option maxRecDepth 20000 in
theorem gX3_hasRow_X3_kindAt : GoodIn wsX3_hasRow (wsV RX3 37 RX3 yX3_kindAt wsX3_kindAt) := goodIn_app (goodIn_of _ (by decide +kernel)) ggX3_hasRow_X3_kindAt
set_option maxRecDepth 20000 in
theorem ggX3_hasRow_X3_in : GoodIn wsX3_hasRow wsX3_in := goodIn_r _ [10] (by decide +kernel) (by decide +kernel)
set_option maxRecDepth 20000 in
theorem gX3_hasRow_X3_in : GoodIn wsX3_hasRow (va_wsS RX3 33 yX3_in wsX3_in) := goodIn_app (goodIn_of _ (by decide +kernel)) ggX3_hasRow_X3_in
set_option maxRecDepth 20000 in
theorem ggX3_hasCards_X3_kindAt : GoodIn wsX3_hasCards wsX3_kindAt := goodIn_r _ [5, 6, 7, 11, 12, 13, 14, 15, 16, 17, 18, 19, 20, 21, 22, 23, 24, 25] (by decide +kernel) (by decide +kernel)
set_option maxRecDepth 20000 in
theorem gX3_hasCards_X3_kindAt : GoodIn wsX3_hasCards (wsV RX3 37 RX3 yX3_kindAt wsX3_kindAt) := goodIn_app (goodIn_of _ (by decide +kernel)) ggX3_hasCards_X3_kindAt
set_option maxRecDepth 20000 in
theorem ggX3_hasCards_X3_in : GoodIn wsX3_hasCards wsX3_in := goodIn_r _ [10] (by decide +kernel) (by decide +kernel)
set_option maxRecDepth 20000 in
theorem gX3_hasCards_X3_in : GoodIn wsX3_hasCards (va_wsS RX3 33 yX3_in wsX3_in) := goodIn_app (goodIn_of _ (by decide +kernel)) ggX3_hasCards_X3_in
set_option maxRecDepth 20000 in
theorem ggX3_wind_X3_in : GoodIn wsX3_wind wsX3_in := goodIn_r _ [10] (by decide +kernel) (by decide +kernel)
set_option maxRecDepth 20000 in
theorem gX3_wind_X3_in : GoodIn wsX3_wind (va_wsS RX3 33 yX3_in wsX3_in) := goodIn_app (goodIn_of _ (by decide +kernel)) ggX3_wind_X3_in
set_option maxRecDepth 20000 in
theorem ggX3_wind_X3_isHook : GoodIn wsX3_wind wsX3_isHook := goodIn_r _ [13, 7, 8, 9, 10] (by decide +kernel) (by decide +kernel)
set_option maxRecDepth 20000 in
theorem gX3_wind_X3_isHook : GoodIn wsX3_wind (va_wsS RX3 41 yX3_isHook wsX3_isHook) := goodIn_app (goodIn_of _ (by decide +kernel)) ggX3_wind_X3_isHook
set_option maxRecDepth 20000 in
theorem ggX3_wind_X3_free : GoodIn wsX3_wind wsX3_free := goodIn_r _ [17, 2, 18, 19, 20, 21, 22, 23, 24, 25, 26, 27, 28, 29, 30, 31, 32] (by decide +kernel) (by decide +kernel)
set_option maxRecDepth 20000 in
theorem gX3_wind_X3_free : GoodIn wsX3_wind (wsV RX3 45 RX3 yX3_free wsX3_free) := goodIn_app (goodIn_of _ (by decide +kernel)) ggX3_wind_X3_free
set_option maxRecDepth 20000 in
theorem ggX3_hang_X3_isHook : GoodIn wsX3_hang wsX3_isHook := goodIn_r _ [6, 7, 8, 5, 9] (by decide +kernel) (by decide +kernel)
set_option maxRecDepth 20000 in
theorem gX3_hang_X3_isHook : GoodIn wsX3_hang (va_wsS RX3 41 yX3_isHook wsX3_isHook) := goodIn_app (goodIn_of _ (by decide +kernel)) ggX3_hang_X3_isHook
set_option maxRecDepth 20000 in
theorem ggX3_hang_X3_kindAt : GoodIn wsX3_hang wsX3_kindAt := goodIn_r _ [13, 2, 14, 15, 16, 17, 18, 19, 20, 21, 22, 23, 24, 25, 26, 27, 28, 29] (by decide +kernel) (by decide +kernel)
set_option maxRecDepth 20000 in
theorem gX3_hang_X3_kindAt : GoodIn wsX3_hang (wsV RX3 37 RX3 yX3_kindAt wsX3_kindAt) := goodIn_app (goodIn_of _ (by decide +kernel)) ggX3_hang_X3_kindAt
set_option maxRecDepth 20000 in
theorem ggX3_twin_X3_isHook : GoodIn wsX3_twin wsX3_isHook := goodIn_r _ [9, 10, 11, 8, 12] (by decide +kernel) (by decide +kernel)
set_option maxRecDepth 20000 in
theorem gX3_twin_X3_isHook : GoodIn wsX3_twin (va_wsS RX3 41 yX3_isHook wsX3_isHook) := goodIn_app (goodIn_of _ (by decide +kernel)) ggX3_twin_X3_isHook
set_option maxRecDepth 20000 in
theorem ggX3_twin_X3_hasRow : GoodIn wsX3_twin wsX3_hasRow := goodIn_r _ [16, 17, 18, 19, 8, 20, 2, 3, 10, 11, 12, 25, 26, 27, 28, 29, 30, 31, 32, 33, 34, 35, 36, 37, 38, 39] (by decide +kernel) (by decide +kernel)
set_option maxRecDepth 20000 in
theorem gX3_twin_X3_hasRow : GoodIn wsX3_twin (wsV RX3 51 RX3 yX3_hasRow wsX3_hasRow) := goodIn_app (goodIn_of _ (by decide +kernel)) ggX3_twin_X3_hasRow
set_option maxRecDepth 20000 in
theorem ggX3_twin_X3_free : GoodIn wsX3_twin wsX3_free := goodIn_r _ [24, 2, 25, 26, 27, 28, 29, 30, 31, 32, 33, 34, 35, 36, 37, 38, 39] (by decide +kernel) (by decide +kernel)
set_option maxRecDepth 20000 in
theorem gX3_twin_X3_free : GoodIn wsX3_twin (wsV RX3 45 RX3 yX3_free wsX3_free) := goodIn_app (goodIn_of _ (by decide +kernel)) ggX3_twin_X3_free
set_option maxRecDepth 20000 in
theorem ggX3_mark_X3_isHook : GoodIn wsX3_mark wsX3_isHook := goodIn_r _ [7, 8, 9, 6, 10] (by decide +kernel) (by decide +kernel)
set_option maxRecDepth 20000 in
theorem gX3_mark_X3_isHook : GoodIn wsX3_mark (va_wsS RX3 41 yX3_isHook wsX3_isHook) := goodIn_app (goodIn_of _ (by decide +kernel)) ggX3_mark_X3_isHook
set_option maxRecDepth 20000 in
theorem ggX3_mark_X3_kindAt : GoodIn wsX3_mark wsX3_kindAt := goodIn_r _ [14, 3, 15, 21, 22, 23, 24, 25, 26, 27, 28, 29, 30, 31, 32, 33, 34, 35] (by decide +kernel) (by decide +kernel)
set_option maxRecDepth 20000 in
theorem gX3_mark_X3_kindAt : GoodIn wsX3_mark (wsV RX3 37 RX3 yX3_kindAt wsX3_kindAt) := goodIn_app (goodIn_of _ (by decide +kernel)) ggX3_mark_X3_kindAt
set_option maxRecDepth 20000 in
theorem ggX3_mark_X3_in : GoodIn wsX3_mark wsX3_in := goodIn_r _ [10] (by decide +kernel) (by decide +kernel)
set_option maxRecDepth 20000 in
theorem gX3_mark_X3_in : GoodIn wsX3_mark (va_wsS RX3 33 yX3_in wsX3_in) := goodIn_app (goodIn_of _ (by decide +kernel)) ggX3_mark_X3_in
set_option maxRecDepth 20000 in
theorem ggX3_mark_X3_sizeAt : GoodIn wsX3_mark wsX3_sizeAt := goodIn_r _ [19, 20, 3, 21, 22, 23, 24, 25, 26, 27, 28, 29, 30, 31, 32, 33, 34, 35] (by decide +kernel) (by decide +kernel)
set_option maxRecDepth 20000 in
theorem gX3_mark_X3_sizeAt : GoodIn wsX3_mark (wsV RX3 54 RX3 yX3_sizeAt wsX3_sizeAt) := goodIn_app (goodIn_of _ (by decide +kernel)) ggX3_mark_X3_sizeAt
set_option maxRecDepth 20000 in
theorem ggX3_cardCode_X3_hasCards : GoodIn wsX3_cardCode wsX3_hasCards := goodIn_r _ [5, 6, 7, 8, 4, 9, 10, 11, 12, 13, 14, 20, 21, 22, 23, 24, 25, 26, 27, 28, 29, 30, 31, 32, 33, 34] (by decide +kernel) (by decide +kernel)
set_option maxRecDepth 20000 in
theorem gX3_cardCode_X3_hasCards : GoodIn wsX3_cardCode (wsV RX3 57 RX3 yX3_hasCards wsX3_hasCards) := goodIn_app (goodIn_of _ (by decide +kernel)) ggX3_cardCode_X3_hasCards
set_option maxRecDepth 20000 in
theorem ggX3_cardCode_X3_sizeAt : GoodIn wsX3_cardCode wsX3_sizeAt := goodIn_r _ [18, 19, 10, 20, 21, 22, 23, 24, 25, 26, 27, 28, 29, 30, 31, 32, 33, 34] (by decide +kernel) (by decide +kernel)
set_option maxRecDepth 20000 in
theorem gX3_cardCode_X3_sizeAt : GoodIn wsX3_cardCode (wsV RX3 54 RX3 yX3_sizeAt wsX3_sizeAt) := goodIn_app (goodIn_of _ (by decide +kernel)) ggX3_cardCode_X3_sizeAt
set_option maxRecDepth 20000 in
theorem ggX3_cardCode_X3_in : GoodIn wsX3_cardCode wsX3_in := goodIn_r _ [14] (by decide +kernel) (by decide +kernel)
set_option maxRecDepth 20000 in
theorem gX3_cardCode_X3_in : GoodIn wsX3_cardCode (va_wsS RX3 33 yX3_in wsX3_in) := goodIn_app (goodIn_of _ (by decide +kernel)) ggX3_cardCode_X3_in
set_option maxRecDepth 20000 in
theorem ggX3_paste_X3_isHook : GoodIn wsX3_paste wsX3_isHook := goodIn_r _ [8, 9, 10, 7, 11] (by decide +kernel) (by decide +kernel)
set_option maxRecDepth 20000 in
theorem gX3_paste_X3_isHook : GoodIn wsX3_paste (va_wsS RX3 41 yX3_isHook wsX3_isHook) := goodIn_app (goodIn_of _ (by decide +kernel)) ggX3_paste_X3_isHook
set_option maxRecDepth 20000 in
theorem ggX3_paste_X3_in : GoodIn wsX3_paste wsX3_in := goodIn_r _ [11] (by decide +kernel) (by decide +kernel)
set_option maxRecDepth 20000 in
theorem gX3_paste_X3_in : GoodIn wsX3_paste (va_wsS RX3 33 yX3_in wsX3_in) := goodIn_app (goodIn_of _ (by decide +kernel)) ggX3_paste_X3_in
set_option maxRecDepth 20000 in
theorem ggX3_paste_X3_cardCode : GoodIn wsX3_paste wsX3_cardCode := goodIn_r _ [15, 16, 17, 18, 7, 19, 20, 21, 22, 23, 3, 24, 9, 10, 11, 25, 26, 27, 28, 29, 30, 31, 32, 33, 34, 35, 36, 37, 38, 39, 40, 41, 42, 43, 44] (by decide +kernel) (by decide +kernel)
set_option maxRecDepth 20000 in
theorem gX3_paste_X3_cardCode : GoodIn wsX3_paste (wsV RX3 60 RX3 yX3_cardCode wsX3_cardCode) := goodIn_app (goodIn_of _ (by decide +kernel)) ggX3_paste_X3_cardCode
set_option maxRecDepth 20000 in
theorem ggX3_paste_X3_kindAt : GoodIn wsX3_paste wsX3_kindAt := goodIn_r _ [23, 3, 24, 30, 31, 32, 33, 34, 35, 36, 37, 38, 39, 40, 41, 42, 43, 44] (by decide +kernel) (by decide +kernel)
set_option maxRecDepth 20000 in
theorem gX3_paste_X3_kindAt : GoodIn wsX3_paste (wsV RX3 37 RX3 yX3_kindAt wsX3_kindAt) := goodIn_app (goodIn_of _ (by decide +kernel)) ggX3_paste_X3_kindAt
set_option maxRecDepth 20000 in
theorem ggX3_pull_X3_isHook : GoodIn wsX3_pull wsX3_isHook := goodIn_r _ [8, 9, 10, 7, 11] (by decide +kernel) (by decide +kernel)
set_option maxRecDepth 20000 in
theorem gX3_pull_X3_isHook : GoodIn wsX3_pull (va_wsS RX3 41 yX3_isHook wsX3_isHook) := goodIn_app (goodIn_of _ (by decide +kernel)) ggX3_pull_X3_isHook
set_option maxRecDepth 20000 in
theorem ggX3_pull_X3_cardCode : GoodIn wsX3_pull wsX3_cardCode := goodIn_r _ [15, 16, 17, 18, 7, 19, 20, 21, 22, 23, 2, 24, 9, 10, 11, 25, 26, 27, 28, 29, 30, 31, 32, 33, 34, 35, 36, 37, 38, 39, 40, 41, 42, 43, 44] (by decide +kernel) (by decide +kernel)
set_option maxRecDepth 20000 in
theorem gX3_pull_X3_cardCode : GoodIn wsX3_pull (wsV RX3 60 RX3 yX3_cardCode wsX3_cardCode) := goodIn_app (goodIn_of _ (by decide +kernel)) ggX3_pull_X3_cardCode
set_option maxRecDepth 20000 in
theorem ggX3_frame_X3_isHook : GoodIn wsX3_frame wsX3_isHook := goodIn_r _ [7, 8, 9, 6, 10] (by decide +kernel) (by decide +kernel)
set_option maxRecDepth 20000 in
theorem gX3_frame_X3_isHook : GoodIn wsX3_frame (va_wsS RX3 41 yX3_isHook wsX3_isHook) := goodIn_app (goodIn_of _ (by decide +kernel)) ggX3_frame_X3_isHook
set_option maxRecDepth 20000 in
theorem ggX3_frame_X3_hasRow : GoodIn wsX3_frame wsX3_hasRow := goodIn_r _ [14, 15, 16, 17, 6, 18, 3, 19, 8, 9, 10, 25, 26, 27, 28, 29, 30, 31, 32, 33, 34, 35, 36, 37, 38, 39] (by decide +kernel) (by decide +kernel)
set_option maxRecDepth 20000 in
theorem gX3_frame_X3_hasRow : GoodIn wsX3_frame (wsV RX3 51 RX3 yX3_hasRow wsX3_hasRow) := goodIn_app (goodIn_of _ (by decide +kernel)) ggX3_frame_X3_hasRow
set_option maxRecDepth 20000 in
theorem ggX3_frame_X3_sizeAt : GoodIn wsX3_frame wsX3_sizeAt := goodIn_r _ [23, 24, 3, 25, 26, 27, 28, 29, 30, 31, 32, 33, 34, 35, 36, 37, 38, 39] (by decide +kernel) (by decide +kernel)
set_option maxRecDepth 20000 in
theorem gX3_frame_X3_sizeAt : GoodIn wsX3_frame (wsV RX3 54 RX3 yX3_sizeAt wsX3_sizeAt) := goodIn_app (goodIn_of _ (by decide +kernel)) ggX3_frame_X3_sizeAt
set_option maxRecDepth 20000 in
theorem ggX3_frame_X3_in : GoodIn wsX3_frame wsX3_in := goodIn_r _ [10] (by decide +kernel) (by decide +kernel)
set_option maxRecDepth 20000 in
theorem gX3_frame_X3_in : GoodIn wsX3_frame (va_wsS RX3 33 yX3_in wsX3_in) := goodIn_app (goodIn_of _ (by decide +kernel)) ggX3_frame_X3_in
set_option maxRecDepth 20000 in
theorem ggX3_against_X3_kindAt : GoodIn wsX3_against wsX3_kindAt := goodIn_r _ [5, 6, 7, 13, 14, 15, 16, 17, 18, 19, 20, 21, 22, 23, 24, 25, 26, 27] (by decide +kernel) (by decide +kernel)
set_option maxRecDepth 20000 in
theorem gX3_against_X3_kindAt : GoodIn wsX3_against (wsV RX3 37 RX3 yX3_kindAt wsX3_kindAt) := goodIn_app (goodIn_of _ (by decide +kernel)) ggX3_against_X3_kindAt
set_option maxRecDepth 20000 in
theorem ggX3_against_X3_sizeAt : GoodIn wsX3_against wsX3_sizeAt := goodIn_r _ [11, 12, 6, 13, 14, 15, 16, 17, 18, 19, 20, 21, 22, 23, 24, 25, 26, 27] (by decide +kernel) (by decide +kernel)
set_option maxRecDepth 20000 in
theorem gX3_against_X3_sizeAt : GoodIn wsX3_against (wsV RX3 54 RX3 yX3_sizeAt wsX3_sizeAt) := goodIn_app (goodIn_of _ (by decide +kernel)) ggX3_against_X3_sizeAt
set_option maxRecDepth 20000 in
theorem ggX3_cut_X3_against : GoodIn wsX3_cut wsX3_against := goodIn_r _ [14, 15, 16, 17, 13, 18, 4, 19, 20, 21, 22, 23, 24, 28, 29, 30, 31, 32, 33, 34, 35, 36, 37, 38, 39, 40, 41, 42] (by decide +kernel) (by decide +kernel)
set_option maxRecDepth 20000 in
theorem gX3_cut_X3_against : GoodIn wsX3_cut (wsV RX3 66 RX3 yX3_against wsX3_against) := goodIn_app (goodIn_of _ (by decide +kernel)) ggX3_cut_X3_against
set_option maxRecDepth 20000 in
theorem ggX3_cut_X3_kindAt : GoodIn wsX3_cut wsX3_kindAt := goodIn_r _ [18, 4, 19, 28, 29, 30, 31, 32, 33, 34, 35, 36, 37, 38, 39, 40, 41, 42] (by decide +kernel) (by decide +kernel)
set_option maxRecDepth 20000 in
theorem gX3_cut_X3_kindAt : GoodIn wsX3_cut (wsV RX3 37 RX3 yX3_kindAt wsX3_kindAt) := goodIn_app (goodIn_of _ (by decide +kernel)) ggX3_cut_X3_kindAt
set_option maxRecDepth 20000 in
theorem ggX3_cut_X3_in : GoodIn wsX3_cut wsX3_in := goodIn_r _ [27] (by decide +kernel) (by decide +kernel)
set_option maxRecDepth 20000 in
theorem gX3_cut_X3_in : GoodIn wsX3_cut (va_wsS RX3 33 yX3_in wsX3_in) := goodIn_app (goodIn_of _ (by decide +kernel)) ggX3_cut_X3_in
set_option maxRecDepth 20000 in
theorem ggX3_splice_X3_isHook : GoodIn wsX3_splice wsX3_isHook := goodIn_r _ [5, 6, 7, 4, 8] (by decide +kernel) (by decide +kernel)
set_option maxRecDepth 20000 in
theorem gX3_splice_X3_isHook : GoodIn wsX3_splice (va_wsS RX3 41 yX3_isHook wsX3_isHook) := goodIn_app (goodIn_of _ (by decide +kernel)) ggX3_splice_X3_isHook
set_option maxRecDepth 20000 in
theorem ggX3_splice_X3_isBlunt : GoodIn wsX3_splice wsX3_isBlunt := goodIn_r _ [12, 13, 40, 41, 42, 43, 44, 45, 46, 47, 48, 49, 50, 51, 52, 53, 54] (by decide +kernel) (by decide +kernel)
set_option maxRecDepth 20000 in
theorem gX3_splice_X3_isBlunt : GoodIn wsX3_splice (wsV RX3 88 RX3 yX3_isBlunt wsX3_isBlunt) := goodIn_app (goodIn_of _ (by decide +kernel)) ggX3_splice_X3_isBlunt
set_option maxRecDepth 20000 in
theorem ggX3_splice_X3_cut : GoodIn wsX3_splice wsX3_cut := goodIn_r _ [17, 18, 19, 20, 21, 22, 23, 13, 24, 25, 26, 27, 28, 4, 29, 30, 31, 32, 33, 34, 35, 36, 37, 38, 39, 6, 7, 8, 40, 41, 42, 43, 44, 45, 46, 47, 48, 49, 50, 51, 52, 53, 54] (by decide +kernel) (by decide +kernel)
set_option maxRecDepth 20000 in
theorem gX3_splice_X3_cut : GoodIn wsX3_splice (wsV RX3 92 RX3 yX3_cut wsX3_cut) := goodIn_app (goodIn_of _ (by decide +kernel)) ggX3_splice_X3_cut
set_option maxRecDepth 20000 in
theorem ggX3_step_X3_isHook : GoodIn wsX3_step wsX3_isHook := goodIn_r _ [7, 8, 9, 6, 10] (by decide +kernel) (by decide +kernel)
set_option maxRecDepth 20000 in
theorem gX3_step_X3_isHook : GoodIn wsX3_step (va_wsS RX3 41 yX3_isHook wsX3_isHook) := goodIn_app (goodIn_of _ (by decide +kernel)) ggX3_step_X3_isHook
set_option maxRecDepth 20000 in
theorem ggX3_play_X3_isBlunt : GoodIn wsX3_play wsX3_isBlunt := goodIn_r _ [8, 9, 39, 40, 41, 42, 43, 44, 45, 46, 47, 48, 49, 50, 51, 52, 53] (by decide +kernel) (by decide +kernel)
set_option maxRecDepth 20000 in
theorem gX3_play_X3_isBlunt : GoodIn wsX3_play (wsV RX3 88 RX3 yX3_isBlunt wsX3_isBlunt) := goodIn_app (goodIn_of _ (by decide +kernel)) ggX3_play_X3_isBlunt
set_option maxRecDepth 20000 in
theorem ggX3_play_X3_cut : GoodIn wsX3_play wsX3_cut := goodIn_r _ [13, 14, 15, 16, 17, 18, 19, 9, 20, 21, 22, 23, 24, 7, 25, 26, 27, 28, 29, 30, 31, 32, 33, 34, 35, 36, 37, 38, 39, 40, 41, 42, 43, 44, 45, 46, 47, 48, 49, 50, 51, 52, 53] (by decide +kernel) (by decide +kernel)
set_option maxRecDepth 20000 in
theorem gX3_play_X3_cut : GoodIn wsX3_play (wsV RX3 92 RX3 yX3_cut wsX3_cut) := goodIn_app (goodIn_of _ (by decide +kernel)) ggX3_play_X3_cut
set_option maxRecDepth 20000 in
theorem ggX3_grind_X3_isBlunt : GoodIn wsX3_grind wsX3_isBlunt := goodIn_r _ [8, 2, 9, 10, 11, 12, 13, 14, 15, 16, 17, 18, 19, 20, 21, 22, 23] (by decide +kernel) (by decide +kernel)
set_option maxRecDepth 20000 in
theorem gX3_grind_X3_isBlunt : GoodIn wsX3_grind (wsV RX3 88 RX3 yX3_isBlunt wsX3_isBlunt) := goodIn_app (goodIn_of _ (by decide +kernel)) ggX3_grind_X3_isBlunt
set_option maxRecDepth 20000 in
theorem ggX3_look_X3_isHook : GoodIn wsX3_look wsX3_isHook := goodIn_r _ [6, 7, 8, 5, 9] (by decide +kernel) (by decide +kernel)
set_option maxRecDepth 20000 in
theorem gX3_look_X3_isHook : GoodIn wsX3_look (va_wsS RX3 41 yX3_isHook wsX3_isHook) := goodIn_app (goodIn_of _ (by decide +kernel)) ggX3_look_X3_isHook
set_option maxRecDepth 20000 in
theorem ggX3_look_X3_in : GoodIn wsX3_look wsX3_in := goodIn_r _ [9] (by decide +kernel) (by decide +kernel)
set_option maxRecDepth 20000 in
theorem gX3_look_X3_in : GoodIn wsX3_look (va_wsS RX3 33 yX3_in wsX3_in) := goodIn_app (goodIn_of _ (by decide +kernel)) ggX3_look_X3_in
set_option maxRecDepth 20000 in
theorem ggX3_look_X3_kindAt : GoodIn wsX3_look wsX3_kindAt := goodIn_r _ [13, 2, 14, 24, 25, 26, 27, 28, 29, 30, 31, 32, 33, 34, 35, 36, 37, 38] (by decide +kernel) (by decide +kernel)
set_option maxRecDepth 20000 in
theorem gX3_look_X3_kindAt : GoodIn wsX3_look (wsV RX3 37 RX3 yX3_kindAt wsX3_kindAt) := goodIn_app (goodIn_of _ (by decide +kernel)) ggX3_look_X3_kindAt
set_option maxRecDepth 20000 in
theorem ggX3_look_X3_hasRow : GoodIn wsX3_look wsX3_hasRow := goodIn_r _ [18, 10, 11, 12, 5, 13, 2, 14, 7, 8, 9, 24, 25, 26, 27, 28, 29, 30, 31, 32, 33, 34, 35, 36, 37, 38] (by decide +kernel) (by decide +kernel)
set_option maxRecDepth 20000 in
theorem gX3_look_X3_hasRow : GoodIn wsX3_look (wsV RX3 51 RX3 yX3_hasRow wsX3_hasRow) := goodIn_app (goodIn_of _ (by decide +kernel)) ggX3_look_X3_hasRow
set_option maxRecDepth 20000 in
theorem ggX3_look_X3_sizeAt : GoodIn wsX3_look wsX3_sizeAt := goodIn_r _ [22, 23, 2, 24, 25, 26, 27, 28, 29, 30, 31, 32, 33, 34, 35, 36, 37, 38] (by decide +kernel) (by decide +kernel)
set_option maxRecDepth 20000 in
theorem gX3_look_X3_sizeAt : GoodIn wsX3_look (wsV RX3 54 RX3 yX3_sizeAt wsX3_sizeAt) := goodIn_app (goodIn_of _ (by decide +kernel)) ggX3_look_X3_sizeAt
set_option maxRecDepth 20000 in
theorem ggX3_sum_X3_isHook : GoodIn wsX3_sum wsX3_isHook := goodIn_r _ [9, 10, 11, 8, 12] (by decide +kernel) (by decide +kernel)
set_option maxRecDepth 20000 in
theorem gX3_sum_X3_isHook : GoodIn wsX3_sum (va_wsS RX3 41 yX3_isHook wsX3_isHook) := goodIn_app (goodIn_of _ (by decide +kernel)) ggX3_sum_X3_isHook
set_option maxRecDepth 20000 in
theorem ggX3_sum_X3_hasRow : GoodIn wsX3_sum wsX3_hasRow := goodIn_r _ [16, 17, 18, 19, 8, 20, 5, 21, 10, 11, 12, 27, 28, 29, 30, 31, 32, 33, 34, 35, 36, 37, 38, 39, 40, 41] (by decide +kernel) (by decide +kernel)
set_option maxRecDepth 20000 in
theorem gX3_sum_X3_hasRow : GoodIn wsX3_sum (wsV RX3 51 RX3 yX3_hasRow wsX3_hasRow) := goodIn_app (goodIn_of _ (by decide +kernel)) ggX3_sum_X3_hasRow
set_option maxRecDepth 20000 in
theorem ggX3_sum_X3_sizeAt : GoodIn wsX3_sum wsX3_sizeAt := goodIn_r _ [25, 26, 5, 27, 28, 29, 30, 31, 32, 33, 34, 35, 36, 37, 38, 39, 40, 41] (by decide +kernel) (by decide +kernel)
set_option maxRecDepth 20000 in
theorem gX3_sum_X3_sizeAt : GoodIn wsX3_sum (wsV RX3 54 RX3 yX3_sizeAt wsX3_sizeAt) := goodIn_app (goodIn_of _ (by decide +kernel)) ggX3_sum_X3_sizeAt
set_option maxRecDepth 20000 in
theorem ggX3_count_X3_in : GoodIn wsX3_count wsX3_in := goodIn_r _ [13] (by decide +kernel) (by decide +kernel)
set_option maxRecDepth 20000 in
theorem gX3_count_X3_in : GoodIn wsX3_count (va_wsS RX3 33 yX3_in wsX3_in) := goodIn_app (goodIn_of _ (by decide +kernel)) ggX3_count_X3_in
