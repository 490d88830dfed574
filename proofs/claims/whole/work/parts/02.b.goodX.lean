set_option maxRecDepth 20000 in
theorem ggX0_cut_X0_lay : GoodIn wsX0_cut wsX0_lay := goodIn_r _ [11, 1, 12, 13, 14, 15, 16, 17, 18, 19, 20, 21, 22, 23, 24, 25, 26, 27, 28, 29, 30, 31, 32, 33, 34, 35, 36, 37, 38, 39, 40, 41, 42, 43, 44, 45, 46, 47, 48, 49] (by decide +kernel) (by decide +kernel)
set_option maxRecDepth 20000 in
theorem gX0_cut_X0_lay : GoodIn wsX0_cut (wsV RX0 21 RX0 yX0_lay wsX0_lay) := goodIn_app (goodIn_of _ (by decide +kernel)) ggX0_cut_X0_lay
set_option maxRecDepth 20000 in
theorem ggX0_lay_X1_isLike : GoodIn wsX0_lay wsX1_isLike := goodIn_r _ [10, 11, 12, 13, 14, 9, 15, 16, 17, 18, 19, 38, 39] (by decide +kernel) (by decide +kernel)
set_option maxRecDepth 20000 in
theorem gX0_lay_X1_isLike : GoodIn wsX0_lay (wsV RX0 37 RX1 yX1_isLike wsX1_isLike) := goodIn_app (goodIn_of _ (by decide +kernel)) ggX0_lay_X1_isLike
set_option maxRecDepth 20000 in
theorem ggX0_lay_X1_hasFrames : GoodIn wsX0_lay wsX1_hasFrames := goodIn_r _ [23, 24, 38, 39] (by decide +kernel) (by decide +kernel)
set_option maxRecDepth 20000 in
theorem gX0_lay_X1_hasFrames : GoodIn wsX0_lay (wsV RX0 43 RX1 yX1_hasFrames wsX1_hasFrames) := goodIn_app (goodIn_of _ (by decide +kernel)) ggX0_lay_X1_hasFrames
set_option maxRecDepth 20000 in
theorem ggX0_lay_X1_takes : GoodIn wsX0_lay wsX1_takes := goodIn_r _ [28, 11, 29, 30, 38, 39] (by decide +kernel) (by decide +kernel)
set_option maxRecDepth 20000 in
theorem gX0_lay_X1_takes : GoodIn wsX0_lay (wsV RX0 51 RX1 yX1_takes wsX1_takes) := goodIn_app (goodIn_of _ (by decide +kernel)) ggX0_lay_X1_takes
set_option maxRecDepth 20000 in
theorem ggX1_isLike_X1_holdsCards : GoodIn wsX1_isLike wsX1_holdsCards := goodIn_r _ [6, 1, 11, 12] (by decide +kernel) (by decide +kernel)
set_option maxRecDepth 20000 in
theorem gX1_isLike_X1_holdsCards : GoodIn wsX1_isLike (wsV RX1 21 RX1 yX1_holdsCards wsX1_holdsCards) := goodIn_app (goodIn_of _ (by decide +kernel)) ggX1_isLike_X1_holdsCards
set_option maxRecDepth 20000 in
theorem ggX1_isLike_X1_holdsNumbers : GoodIn wsX1_isLike wsX1_holdsNumbers := goodIn_r _ [10, 1, 11, 12] (by decide +kernel) (by decide +kernel)
set_option maxRecDepth 20000 in
theorem gX1_isLike_X1_holdsNumbers : GoodIn wsX1_isLike (wsV RX1 25 RX1 yX1_holdsNumbers wsX1_holdsNumbers) := goodIn_app (goodIn_of _ (by decide +kernel)) ggX1_isLike_X1_holdsNumbers
set_option maxRecDepth 20000 in
theorem ggX2_init_X0_init : GoodIn wsX2_init wsX0_init := goodIn_r _ [18, 19, 2, 3] (by decide +kernel) (by decide +kernel)
set_option maxRecDepth 20000 in
theorem gX2_init_X0_init_n17 : GoodIn wsX2_init (wsX0_init) := ggX2_init_X0_init
set_option maxRecDepth 20000 in
theorem ggX2_wind_X2_requireHook : GoodIn wsX2_wind wsX2_requireHook := goodIn_ca (goodIn_r _ [10, 1, 2] (by decide +kernel) (by decide +kernel)) (goodIn_sub (fun _ h => List.mem_cons_of_mem _ (List.mem_append_right _ h)) (by decide +kernel))
set_option maxRecDepth 20000 in
theorem gX2_wind_X2_requireHook : GoodIn wsX2_wind (va_wsS RX2 42 yX2_requireHook wsX2_requireHook) := goodIn_app (goodIn_of _ (by decide +kernel)) ggX2_wind_X2_requireHook
set_option maxRecDepth 20000 in
theorem ggX2_wind_X1_init : GoodIn wsX2_wind wsX1_init := goodIn_r _ [13, 14, 15, 16, 17, 18, 19, 20, 29, 30] (by decide +kernel) (by decide +kernel)
set_option maxRecDepth 20000 in
theorem gX2_wind_X1_init : GoodIn wsX2_wind (wsX1_init) := ggX2_wind_X1_init
set_option maxRecDepth 20000 in
theorem ggX2_hang_X2_requireHook : GoodIn wsX2_hang wsX2_requireHook := goodIn_ca (goodIn_r _ [5, 6, 7] (by decide +kernel) (by decide +kernel)) (goodIn_sub (fun _ h => List.mem_cons_of_mem _ (List.mem_append_right _ h)) (by decide +kernel))
set_option maxRecDepth 20000 in
theorem gX2_hang_X2_requireHook : GoodIn wsX2_hang (va_wsS RX2 42 yX2_requireHook wsX2_requireHook) := goodIn_app (goodIn_of _ (by decide +kernel)) ggX2_hang_X2_requireHook
set_option maxRecDepth 20000 in
theorem ggX2_hang_X2_kindOn : GoodIn wsX2_hang wsX2_kindOn := goodIn_r _ [11, 1, 12, 13, 14, 15, 16, 17, 18, 19, 20, 21] (by decide +kernel) (by decide +kernel)
set_option maxRecDepth 20000 in
theorem gX2_hang_X2_kindOn : GoodIn wsX2_hang (wsV RX2 58 RX2 yX2_kindOn wsX2_kindOn) := goodIn_app (goodIn_of _ (by decide +kernel)) ggX2_hang_X2_kindOn
set_option maxRecDepth 20000 in
theorem ggX2_twin_X2_requireHook : GoodIn wsX2_twin wsX2_requireHook := goodIn_ca (goodIn_r _ [14, 15, 16] (by decide +kernel) (by decide +kernel)) (goodIn_sub (fun _ h => List.mem_cons_of_mem _ (List.mem_append_right _ h)) (by decide +kernel))
set_option maxRecDepth 20000 in
theorem gX2_twin_X2_requireHook : GoodIn wsX2_twin (va_wsS RX2 42 yX2_requireHook wsX2_requireHook) := goodIn_app (goodIn_of _ (by decide +kernel)) ggX2_twin_X2_requireHook
set_option maxRecDepth 20000 in
theorem ggX2_twin_X1_init : GoodIn wsX2_twin wsX1_init := goodIn_r _ [19, 20, 21, 22, 23, 24, 25, 26, 35, 36] (by decide +kernel) (by decide +kernel)
set_option maxRecDepth 20000 in
theorem gX2_twin_X1_init : GoodIn wsX2_twin (wsX1_init) := ggX2_twin_X1_init
set_option maxRecDepth 20000 in
theorem ggX2_mark_X2_requireHook : GoodIn wsX2_mark wsX2_requireHook := goodIn_ca (goodIn_r _ [7, 8, 9] (by decide +kernel) (by decide +kernel)) (goodIn_sub (fun _ h => List.mem_cons_of_mem _ (List.mem_append_left _ (List.mem_append_right _ h))) (by decide +kernel))
set_option maxRecDepth 20000 in
theorem gX2_mark_X2_requireHook : GoodIn wsX2_mark (va_wsS RX2 42 yX2_requireHook wsX2_requireHook) := goodIn_app (goodIn_of _ (by decide +kernel)) ggX2_mark_X2_requireHook
set_option maxRecDepth 20000 in
theorem ggX2_mark_X1_holdsNumbers : GoodIn wsX2_mark wsX1_holdsNumbers := goodIn_r _ [14, 15, 29, 30] (by decide +kernel) (by decide +kernel)
set_option maxRecDepth 20000 in
theorem gX2_mark_X1_holdsNumbers : GoodIn wsX2_mark (wsV RX2 80 RX1 yX1_holdsNumbers wsX1_holdsNumbers) := goodIn_app (goodIn_of _ (by decide +kernel)) ggX2_mark_X1_holdsNumbers
set_option maxRecDepth 20000 in
theorem ggX2_mark_X2_requireFrame : GoodIn wsX2_mark wsX2_requireFrame := goodIn_ca (goodIn_r _ [18, 19, 20, 29, 30] (by decide +kernel) (by decide +kernel)) (goodIn_sub (fun _ h => List.mem_cons_of_mem _ (List.mem_append_right _ h)) (by decide +kernel))
set_option maxRecDepth 20000 in
theorem gX2_mark_X2_requireFrame : GoodIn wsX2_mark (va_wsS RX2 86 yX2_requireFrame wsX2_requireFrame) := goodIn_app (goodIn_of _ (by decide +kernel)) ggX2_mark_X2_requireFrame
set_option maxRecDepth 20000 in
theorem ggX2_paste_X2_requireHook : GoodIn wsX2_paste wsX2_requireHook := goodIn_ca (goodIn_r _ [9, 1, 2] (by decide +kernel) (by decide +kernel)) (goodIn_sub (fun _ h => List.mem_cons_of_mem _ (List.mem_append_left _ (List.mem_append_left _ (List.mem_append_right _ h)))) (by decide +kernel))
set_option maxRecDepth 20000 in
theorem gX2_paste_X2_requireHook : GoodIn wsX2_paste (va_wsS RX2 42 yX2_requireHook wsX2_requireHook) := goodIn_app (goodIn_of _ (by decide +kernel)) ggX2_paste_X2_requireHook
set_option maxRecDepth 20000 in
theorem ggX2_paste_X1_holdsCards : GoodIn wsX2_paste wsX1_holdsCards := goodIn_r _ [14, 15, 35, 36] (by decide +kernel) (by decide +kernel)
set_option maxRecDepth 20000 in
theorem gX2_paste_X1_holdsCards : GoodIn wsX2_paste (wsV RX2 92 RX1 yX1_holdsCards wsX1_holdsCards) := goodIn_app (goodIn_of _ (by decide +kernel)) ggX2_paste_X1_holdsCards
set_option maxRecDepth 20000 in
theorem ggX2_paste_X2_requireFrame : GoodIn wsX2_paste wsX2_requireFrame := goodIn_ca (goodIn_r _ [18, 19, 20, 35, 36] (by decide +kernel) (by decide +kernel)) (goodIn_sub (fun _ h => List.mem_cons_of_mem _ (List.mem_append_right _ h)) (by decide +kernel))
set_option maxRecDepth 20000 in
theorem gX2_paste_X2_requireFrame : GoodIn wsX2_paste (va_wsS RX2 86 yX2_requireFrame wsX2_requireFrame) := goodIn_app (goodIn_of _ (by decide +kernel)) ggX2_paste_X2_requireFrame
set_option maxRecDepth 20000 in
theorem ggX2_paste_X1_takes : GoodIn wsX2_paste wsX1_takes := goodIn_r _ [24, 15, 25, 26, 35, 36] (by decide +kernel) (by decide +kernel)
set_option maxRecDepth 20000 in
theorem gX2_paste_X1_takes : GoodIn wsX2_paste (wsV RX2 97 RX1 yX1_takes wsX1_takes) := goodIn_app (goodIn_of _ (by decide +kernel)) ggX2_paste_X1_takes
set_option maxRecDepth 20000 in
theorem ggX2_pull_X2_requireHook : GoodIn wsX2_pull wsX2_requireHook := goodIn_ca (goodIn_r _ [8, 9, 10] (by decide +kernel) (by decide +kernel)) (goodIn_sub (fun _ h => List.mem_cons_of_mem _ (List.mem_append_left _ (List.mem_append_right _ h))) (by decide +kernel))
set_option maxRecDepth 20000 in
theorem gX2_pull_X2_requireHook : GoodIn wsX2_pull (va_wsS RX2 42 yX2_requireHook wsX2_requireHook) := goodIn_app (goodIn_of _ (by decide +kernel)) ggX2_pull_X2_requireHook
set_option maxRecDepth 20000 in
theorem ggX2_pull_X1_holdsCards : GoodIn wsX2_pull wsX1_holdsCards := goodIn_r _ [15, 16, 30, 31] (by decide +kernel) (by decide +kernel)
set_option maxRecDepth 20000 in
theorem gX2_pull_X1_holdsCards : GoodIn wsX2_pull (wsV RX2 92 RX1 yX1_holdsCards wsX1_holdsCards) := goodIn_app (goodIn_of _ (by decide +kernel)) ggX2_pull_X1_holdsCards
set_option maxRecDepth 20000 in
theorem ggX2_pull_X2_requireFrame : GoodIn wsX2_pull wsX2_requireFrame := goodIn_ca (goodIn_r _ [19, 20, 21, 30, 31] (by decide +kernel) (by decide +kernel)) (goodIn_sub (fun _ h => List.mem_cons_of_mem _ (List.mem_append_right _ h)) (by decide +kernel))
set_option maxRecDepth 20000 in
theorem gX2_pull_X2_requireFrame : GoodIn wsX2_pull (va_wsS RX2 86 yX2_requireFrame wsX2_requireFrame) := goodIn_app (goodIn_of _ (by decide +kernel)) ggX2_pull_X2_requireFrame
set_option maxRecDepth 20000 in
theorem ggX2_splice_X2_requireHook : GoodIn wsX2_splice wsX2_requireHook := goodIn_ca (goodIn_r _ [6, 7, 8] (by decide +kernel) (by decide +kernel)) (goodIn_sub (fun _ h => List.mem_cons_of_mem _ (List.mem_append_left _ (List.mem_append_right _ h))) (by decide +kernel))
set_option maxRecDepth 20000 in
theorem gX2_splice_X2_requireHook : GoodIn wsX2_splice (va_wsS RX2 42 yX2_requireHook wsX2_requireHook) := goodIn_app (goodIn_of _ (by decide +kernel)) ggX2_splice_X2_requireHook
set_option maxRecDepth 20000 in
theorem ggX2_splice_X2_requireSharpKnife : GoodIn wsX2_splice wsX2_requireSharpKnife := goodIn_ca (goodIn_r _ [12, 13, 14, 1, 15, 16, 17, 18, 19, 20, 63, 64, 65, 66, 67, 68, 69, 70, 71, 72, 73, 74, 75, 76, 77] (by decide +kernel) (by decide +kernel)) (goodIn_sub (fun _ h => List.mem_cons_of_mem _ (List.mem_append_right _ h)) (by decide +kernel))
set_option maxRecDepth 20000 in
theorem gX2_splice_X2_requireSharpKnife : GoodIn wsX2_splice (wsV RX2 103 RX2 yX2_requireSharpKnife wsX2_requireSharpKnife) := goodIn_app (goodIn_of _ (by decide +kernel)) ggX2_splice_X2_requireSharpKnife
set_option maxRecDepth 20000 in
theorem ggX2_splice_X0_cut : GoodIn wsX2_splice wsX0_cut := goodIn_r _ [24, 25, 26, 27, 28, 20, 29, 30, 31, 32, 18, 33, 34, 35, 36, 37, 38, 39, 40, 41, 42, 43, 44, 45, 46, 47, 48, 49, 50, 51, 52, 53, 54, 55, 56, 57, 58, 59, 60, 61, 62, 71, 72, 73, 74, 75, 76, 77, 78, 79] (by decide +kernel) (by decide +kernel)
set_option maxRecDepth 20000 in
theorem gX2_splice_X0_cut : GoodIn wsX2_splice (wsV RX2 106 RX0 yX0_cut wsX0_cut) := goodIn_app (goodIn_of _ (by decide +kernel)) ggX2_splice_X0_cut
set_option maxRecDepth 20000 in
theorem ggX2_step_X2_requireHook : GoodIn wsX2_step wsX2_requireHook := goodIn_ca (goodIn_r _ [12, 13, 14] (by decide +kernel) (by decide +kernel)) (goodIn_sub (fun _ h => List.mem_cons_of_mem _ (List.mem_append_right _ h)) (by decide +kernel))
set_option maxRecDepth 20000 in
theorem gX2_step_X2_requireHook : GoodIn wsX2_step (va_wsS RX2 42 yX2_requireHook wsX2_requireHook) := goodIn_app (goodIn_of _ (by decide +kernel)) ggX2_step_X2_requireHook
set_option maxRecDepth 20000 in
theorem ggX2_play_X2_requireSharpKnife : GoodIn wsX2_play wsX2_requireSharpKnife := goodIn_ca (goodIn_r _ [6, 7, 8, 9, 10, 11, 12, 13, 14, 15, 72, 73, 74, 75, 76, 77, 78, 79, 80, 81, 82, 83, 84, 85, 86] (by decide +kernel) (by decide +kernel)) (goodIn_sub (fun _ h => List.mem_cons_of_mem _ (List.mem_append_right _ h)) (by decide +kernel))
set_option maxRecDepth 20000 in
theorem gX2_play_X2_requireSharpKnife : GoodIn wsX2_play (wsV RX2 103 RX2 yX2_requireSharpKnife wsX2_requireSharpKnife) := goodIn_app (goodIn_of _ (by decide +kernel)) ggX2_play_X2_requireSharpKnife
set_option maxRecDepth 20000 in
theorem ggX2_play_X2_cutTurned : GoodIn wsX2_play wsX2_cutTurned := goodIn_r _ [19, 9, 20, 21, 22, 23, 24, 25, 26, 27, 28, 13, 29, 30, 31, 32, 33, 15, 34, 35, 36, 37, 38, 39, 40, 41, 42, 43, 44, 45, 46, 47, 48, 49, 50, 51, 52, 53, 54, 55, 56, 57, 58, 59, 60, 61, 62, 63, 64, 65, 66, 67, 72, 73, 74, 75, 76, 77, 78, 79, 80, 81, 82, 83, 84, 85, 86, 87, 88] (by decide +kernel) (by decide +kernel)
set_option maxRecDepth 20000 in
theorem gX2_play_X2_cutTurned : GoodIn wsX2_play (wsV RX2 112 RX2 yX2_cutTurned wsX2_cutTurned) := goodIn_app (goodIn_of _ (by decide +kernel)) ggX2_play_X2_cutTurned
set_option maxRecDepth 20000 in
theorem ggX2_play_X2_cutAsWritten : GoodIn wsX2_play wsX2_cutAsWritten := goodIn_r _ [71, 9, 20, 23, 24, 21, 22, 25, 26, 27, 28, 13, 29, 30, 31, 32, 33, 15, 34, 35, 36, 37, 38, 39, 40, 41, 42, 43, 44, 45, 46, 47, 48, 49, 50, 51, 52, 53, 54, 55, 56, 57, 58, 59, 60, 61, 62, 63, 64, 65, 66, 67, 72, 73, 74, 75, 76, 77, 78, 79, 80, 81, 82, 83, 84, 85, 86, 87, 88] (by decide +kernel) (by decide +kernel)
set_option maxRecDepth 20000 in
theorem gX2_play_X2_cutAsWritten : GoodIn wsX2_play (wsV RX2 115 RX2 yX2_cutAsWritten wsX2_cutAsWritten) := goodIn_app (goodIn_of _ (by decide +kernel)) ggX2_play_X2_cutAsWritten
set_option maxRecDepth 20000 in
theorem ggX2_grind_X0_isBlunt : GoodIn wsX2_grind wsX0_isBlunt := goodIn_r _ [8, 9, 23, 24, 25, 26, 27, 28, 29] (by decide +kernel) (by decide +kernel)
set_option maxRecDepth 20000 in
theorem gX2_grind_X0_isBlunt : GoodIn wsX2_grind (wsV RX2 118 RX0 yX0_isBlunt wsX0_isBlunt) := goodIn_app (goodIn_of _ (by decide +kernel)) ggX2_grind_X0_isBlunt
set_option maxRecDepth 20000 in
theorem ggX2_grind_X0_sharpen : GoodIn wsX2_grind wsX0_sharpen := goodIn_r _ [13, 9, 14, 23, 24, 25, 26, 27, 28, 29] (by decide +kernel) (by decide +kernel)
set_option maxRecDepth 20000 in
theorem gX2_grind_X0_sharpen : GoodIn wsX2_grind (wsV RX2 123 RX0 yX0_sharpen wsX0_sharpen) := goodIn_app (goodIn_of _ (by decide +kernel)) ggX2_grind_X0_sharpen
set_option maxRecDepth 20000 in
theorem ggX2_frame_X2_requireHook : GoodIn wsX2_frame wsX2_requireHook := goodIn_ca (goodIn_r _ [7, 8, 9] (by decide +kernel) (by decide +kernel)) (goodIn_sub (fun _ h => List.mem_cons_of_mem _ (List.mem_append_left _ (List.mem_append_right _ h))) (by decide +kernel))
set_option maxRecDepth 20000 in
theorem gX2_frame_X2_requireHook : GoodIn wsX2_frame (va_wsS RX2 42 yX2_requireHook wsX2_requireHook) := goodIn_app (goodIn_of _ (by decide +kernel)) ggX2_frame_X2_requireHook
set_option maxRecDepth 20000 in
theorem ggX2_frame_X2_requireFrame : GoodIn wsX2_frame wsX2_requireFrame := goodIn_ca (goodIn_r _ [12, 13, 14, 23, 24] (by decide +kernel) (by decide +kernel)) (goodIn_sub (fun _ h => List.mem_cons_of_mem _ (List.mem_append_right _ h)) (by decide +kernel))
set_option maxRecDepth 20000 in
theorem gX2_frame_X2_requireFrame : GoodIn wsX2_frame (va_wsS RX2 86 yX2_requireFrame wsX2_requireFrame) := goodIn_app (goodIn_of _ (by decide +kernel)) ggX2_frame_X2_requireFrame
set_option maxRecDepth 20000 in
theorem ggX2_look_X2_requireHook : GoodIn wsX2_look wsX2_requireHook := goodIn_ca (goodIn_r _ [7, 1, 2] (by decide +kernel) (by decide +kernel)) (goodIn_sub (fun _ h => List.mem_cons_of_mem _ (List.mem_append_right _ h)) (by decide +kernel))
set_option maxRecDepth 20000 in
theorem gX2_look_X2_requireHook : GoodIn wsX2_look (va_wsS RX2 42 yX2_requireHook wsX2_requireHook) := goodIn_app (goodIn_of _ (by decide +kernel)) ggX2_look_X2_requireHook
set_option maxRecDepth 20000 in
theorem ggX2_look_X2_kindOn : GoodIn wsX2_look wsX2_kindOn := goodIn_r _ [11, 3, 20, 21, 22, 23, 24, 25, 26, 27, 28, 29] (by decide +kernel) (by decide +kernel)
set_option maxRecDepth 20000 in
theorem gX2_look_X2_kindOn : GoodIn wsX2_look (wsV RX2 58 RX2 yX2_kindOn wsX2_kindOn) := goodIn_app (goodIn_of _ (by decide +kernel)) ggX2_look_X2_kindOn
set_option maxRecDepth 20000 in
theorem ggX2_look_X2_framesOn : GoodIn wsX2_look wsX2_framesOn := goodIn_r _ [15, 3, 20, 21, 22, 23, 24, 25, 26, 27, 28, 29] (by decide +kernel) (by decide +kernel)
set_option maxRecDepth 20000 in
theorem gX2_look_X2_framesOn : GoodIn wsX2_look (wsV RX2 131 RX2 yX2_framesOn wsX2_framesOn) := goodIn_app (goodIn_of _ (by decide +kernel)) ggX2_look_X2_framesOn
set_option maxRecDepth 20000 in
theorem ggX2_look_X2_holdersOf : GoodIn wsX2_look wsX2_holdersOf := goodIn_r _ [19, 3, 20, 21, 22, 23, 24, 25, 26, 27] (by decide +kernel) (by decide +kernel)
set_option maxRecDepth 20000 in
theorem gX2_look_X2_holdersOf : GoodIn wsX2_look (wsV RX2 134 RX2 yX2_holdersOf wsX2_holdersOf) := goodIn_app (goodIn_of _ (by decide +kernel)) ggX2_look_X2_holdersOf
set_option maxRecDepth 20000 in
theorem ggX2_sum_X2_requireHook : GoodIn wsX2_sum wsX2_requireHook := goodIn_ca (goodIn_r _ [7, 8, 9] (by decide +kernel) (by decide +kernel)) (goodIn_sub (fun _ h => List.mem_cons_of_mem _ (List.mem_append_right _ h)) (by decide +kernel))
set_option maxRecDepth 20000 in
theorem gX2_sum_X2_requireHook : GoodIn wsX2_sum (va_wsS RX2 42 yX2_requireHook wsX2_requireHook) := goodIn_app (goodIn_of _ (by decide +kernel)) ggX2_sum_X2_requireHook
set_option maxRecDepth 20000 in
theorem ggX2_requireSharpKnife_X0_isBlunt : GoodIn wsX2_requireSharpKnife wsX0_isBlunt := goodIn_r _ [8, 9, 18, 19, 20, 21, 22, 23, 24] (by decide +kernel) (by decide +kernel)
set_option maxRecDepth 20000 in
theorem gX2_requireSharpKnife_X0_isBlunt : GoodIn wsX2_requireSharpKnife (wsV RX2 118 RX0 yX0_isBlunt wsX0_isBlunt) := goodIn_app (goodIn_of _ (by decide +kernel)) ggX2_requireSharpKnife_X0_isBlunt
set_option maxRecDepth 20000 in
theorem ggX2_cutAsWritten_X0_cut : GoodIn wsX2_cutAsWritten wsX0_cut := goodIn_r _ [12, 13, 14, 15, 16, 17, 18, 19, 20, 21, 11, 22, 23, 24, 25, 26, 27, 28, 29, 30, 31, 32, 33, 34, 35, 36, 37, 38, 39, 40, 41, 42, 43, 44, 45, 46, 47, 48, 49, 50, 51, 60, 61, 62, 63, 64, 65, 66, 67, 68] (by decide +kernel) (by decide +kernel)
set_option maxRecDepth 20000 in
theorem gX2_cutAsWritten_X0_cut : GoodIn wsX2_cutAsWritten (wsV RX2 106 RX0 yX0_cut wsX0_cut) := goodIn_app (goodIn_of _ (by decide +kernel)) ggX2_cutAsWritten_X0_cut
set_option maxRecDepth 20000 in
theorem ggX2_cutTurned_X0_cut : GoodIn wsX2_cutTurned wsX0_cut := goodIn_r _ [12, 13, 14, 15, 16, 17, 18, 19, 20, 21, 11, 22, 23, 24, 25, 26, 27, 28, 29, 30, 31, 32, 33, 34, 35, 36, 37, 38, 39, 40, 41, 42, 43, 44, 45, 46, 47, 48, 49, 50, 51, 60, 61, 62, 63, 64, 65, 66, 67, 68] (by decide +kernel) (by decide +kernel)
set_option maxRecDepth 20000 in
theorem gX2_cutTurned_X0_cut : GoodIn wsX2_cutTurned (wsV RX2 106 RX0 yX0_cut wsX0_cut) := goodIn_app (goodIn_of _ (by decide +kernel)) ggX2_cutTurned_X0_cut
