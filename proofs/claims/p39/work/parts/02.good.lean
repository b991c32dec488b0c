set_option maxRecDepth 20000 in
theorem ggX0_init_X2_init : GoodIn wsX0_init wsX2_init := goodIn_r _ [21, 22, 2, 3, 12, 23, 24, 25, 31, 32, 33, 34, 35] (by decide +kernel) (by decide +kernel)
set_option maxRecDepth 20000 in
theorem gX0_init_X2_init_n11 : GoodIn wsX0_init (wsX2_init) := ggX0_init_X2_init
set_option maxRecDepth 20000 in
theorem ggX0_init_X5_init : GoodIn wsX0_init wsX5_init := goodIn_r _ [27, 28, 2, 3, 12, 29, 30, 44, 45, 46] (by decide +kernel) (by decide +kernel)
set_option maxRecDepth 20000 in
theorem gX0_init_X5_init_n20 : GoodIn wsX0_init (wsX5_init) := ggX0_init_X5_init
set_option maxRecDepth 20000 in
theorem ggX0_callUp_X5_kindOf : GoodIn wsX0_callUp wsX5_kindOf := goodIn_r _ [13, 14, 15, 16, 17, 12, 18, 19, 36, 37, 38] (by decide +kernel) (by decide +kernel)
set_option maxRecDepth 20000 in
theorem gX0_callUp_X5_kindOf : GoodIn wsX0_callUp (wsV RX0 56 RX5 yX5_kindOf wsX5_kindOf) := goodIn_app (goodIn_of _ (by decide +kernel)) ggX0_callUp_X5_kindOf
set_option maxRecDepth 20000 in
theorem ggX0_callUp_X5_weightOf : GoodIn wsX0_callUp wsX5_weightOf := goodIn_r _ [23, 24, 15, 16, 17, 12, 18, 19, 36, 37, 38] (by decide +kernel) (by decide +kernel)
set_option maxRecDepth 20000 in
theorem gX0_callUp_X5_weightOf : GoodIn wsX0_callUp (wsV RX0 60 RX5 yX5_weightOf wsX5_weightOf) := goodIn_app (goodIn_of _ (by decide +kernel)) ggX0_callUp_X5_weightOf
set_option maxRecDepth 20000 in
theorem ggX0_callUp_X5_pull : GoodIn wsX0_callUp wsX5_pull := goodIn_r _ [27] (by decide +kernel) (by decide +kernel)
set_option maxRecDepth 20000 in
theorem gX0_callUp_X5_pull : GoodIn wsX0_callUp (va_wsS RX0 63 yX5_pull wsX5_pull) := goodIn_app (goodIn_of _ (by decide +kernel)) ggX0_callUp_X5_pull
set_option maxRecDepth 20000 in
theorem ggX0_learn_X2_hasBoard : GoodIn wsX0_learn wsX2_hasBoard := goodIn_r _ [7, 8, 26, 27, 28, 29, 30] (by decide +kernel) (by decide +kernel)
set_option maxRecDepth 20000 in
theorem gX0_learn_X2_hasBoard : GoodIn wsX0_learn (wsV RX0 66 RX2 yX2_hasBoard wsX2_hasBoard) := goodIn_app (goodIn_of _ (by decide +kernel)) ggX0_learn_X2_hasBoard
set_option maxRecDepth 20000 in
theorem ggX0_learn_X0_step : GoodIn wsX0_learn wsX0_step := goodIn_r _ [13, 14, 15, 16, 17, 18, 19, 20, 21, 22] (by decide +kernel) (by decide +kernel)
set_option maxRecDepth 20000 in
theorem gX0_learn_X0_step : GoodIn wsX0_learn (wsV RX0 70 RX0 yX0_step wsX0_step) := goodIn_app (goodIn_of _ (by decide +kernel)) ggX0_learn_X0_step
set_option maxRecDepth 20000 in
theorem ggX0_doorOpened_X2_beatsOf : GoodIn wsX0_doorOpened wsX2_beatsOf := goodIn_r _ [6, 7, 8, 9, 10, 5, 11, 12, 101, 102, 103, 104, 105] (by decide +kernel) (by decide +kernel)
set_option maxRecDepth 20000 in
theorem gX0_doorOpened_X2_beatsOf : GoodIn wsX0_doorOpened (wsV RX0 77 RX2 yX2_beatsOf wsX2_beatsOf) := goodIn_app (goodIn_of _ (by decide +kernel)) ggX0_doorOpened_X2_beatsOf
set_option maxRecDepth 20000 in
theorem ggX0_doorOpened_X0_firstWrong : GoodIn wsX0_doorOpened wsX0_firstWrong := goodIn_r _ [17, 1, 2, 3, 4, 5, 6, 7, 8, 9, 10, 11, 12, 18, 19, 20, 16, 21, 22, 23, 24, 25, 26, 27, 28, 29, 30, 31, 32, 33, 34, 35, 36, 37, 38, 39, 40, 41, 42, 43, 44, 45, 46, 47, 48, 49, 50, 51, 52, 53, 54, 55, 56, 57, 58, 59, 60, 61, 62, 63, 64, 65, 66, 67, 68, 69, 70, 71, 72, 73, 74, 75, 76, 77, 78, 79, 80, 81, 82, 83, 84, 85, 86, 87, 88, 89, 90, 91, 92, 93, 94, 95, 96, 97, 98, 99, 100, 101, 102, 103, 104, 105, 106, 107, 108] (by decide +kernel) (by decide +kernel)
set_option maxRecDepth 20000 in
theorem gX0_doorOpened_X0_firstWrong : GoodIn wsX0_doorOpened (wsV RX0 80 RX0 yX0_firstWrong wsX0_firstWrong) := goodIn_app (goodIn_of _ (by decide +kernel)) ggX0_doorOpened_X0_firstWrong
set_option maxRecDepth 20000 in
theorem ggX0_firstWrong_X2_beatsOf : GoodIn wsX0_firstWrong wsX2_beatsOf := goodIn_r _ [6, 7, 8, 9, 10, 5, 11, 12, 97, 98, 99, 100, 101] (by decide +kernel) (by decide +kernel)
set_option maxRecDepth 20000 in
theorem gX0_firstWrong_X2_beatsOf : GoodIn wsX0_firstWrong (wsV RX0 77 RX2 yX2_beatsOf wsX2_beatsOf) := goodIn_app (goodIn_of _ (by decide +kernel)) ggX0_firstWrong_X2_beatsOf
set_option maxRecDepth 20000 in
theorem ggX0_firstWrong_X0_feltIn : GoodIn wsX0_firstWrong wsX0_feltIn := goodIn_r _ [17, 18, 1, 19, 20, 21, 16, 22, 23, 24, 25, 26, 27, 28, 29, 30, 31, 32, 33, 34, 35, 36, 37, 38, 39, 40, 41, 42, 43, 44, 45, 46, 47, 48, 49, 50, 51, 52, 53, 54, 55, 56, 57, 58, 59, 60, 61, 62, 63, 64, 65, 66, 67, 68, 69, 5, 70, 71, 72, 73, 74, 75, 76, 77, 78, 79, 89, 90, 91, 92, 93, 94, 95, 96, 97, 98, 99, 100, 101, 102, 103, 104] (by decide +kernel) (by decide +kernel)
set_option maxRecDepth 20000 in
theorem gX0_firstWrong_X0_feltIn : GoodIn wsX0_firstWrong (wsV RX0 83 RX0 yX0_feltIn wsX0_feltIn) := goodIn_app (goodIn_of _ (by decide +kernel)) ggX0_firstWrong_X0_feltIn
set_option maxRecDepth 20000 in
theorem ggX0_firstWrong_X2_figureAt : GoodIn wsX0_firstWrong wsX2_figureAt := goodIn_r _ [83, 84, 85, 86, 87, 5, 88, 7, 8, 9, 10, 11, 12, 97, 98, 99, 100, 101] (by decide +kernel) (by decide +kernel)
set_option maxRecDepth 20000 in
theorem gX0_firstWrong_X2_figureAt : GoodIn wsX0_firstWrong (wsV RX0 86 RX2 yX2_figureAt wsX2_figureAt) := goodIn_app (goodIn_of _ (by decide +kernel)) ggX0_firstWrong_X2_figureAt
set_option maxRecDepth 20000 in
theorem ggX0_feltIn_X0_callUp : GoodIn wsX0_feltIn wsX0_callUp := goodIn_r _ [7, 8, 9, 10, 11, 12, 1, 13, 14, 15, 16, 17, 18, 19, 20, 21, 22, 23, 24, 25, 26, 27, 28, 29, 30, 31, 32, 33, 66, 67, 68, 69, 70, 71, 72, 73, 79, 80, 81] (by decide +kernel) (by decide +kernel)
set_option maxRecDepth 20000 in
theorem gX0_feltIn_X0_callUp : GoodIn wsX0_feltIn (wsV RX0 89 RX0 yX0_callUp wsX0_callUp) := goodIn_app (goodIn_of _ (by decide +kernel)) ggX0_feltIn_X0_callUp
set_option maxRecDepth 20000 in
theorem ggX0_feltIn_X0_load : GoodIn wsX0_feltIn wsX0_load := goodIn_r _ [37, 38, 1, 2, 39, 40, 41, 42, 43, 44, 45, 6, 46, 14, 47, 48, 49, 50, 51, 52, 53, 54, 55, 56, 57, 58, 59, 60, 61, 13, 66, 67, 68, 69, 70, 71, 72, 73, 74, 75, 76, 77, 78] (by decide +kernel) (by decide +kernel)
set_option maxRecDepth 20000 in
theorem gX0_feltIn_X0_load : GoodIn wsX0_feltIn (wsV RX0 93 RX0 yX0_load wsX0_load) := goodIn_app (goodIn_of _ (by decide +kernel)) ggX0_feltIn_X0_load
set_option maxRecDepth 20000 in
theorem ggX0_feltIn_X0_missingOn : GoodIn wsX0_feltIn wsX0_missingOn := goodIn_r _ [65, 2, 38, 52, 53, 54, 55, 56, 57, 66, 67, 68, 69, 70, 71, 72, 73, 74, 75, 76, 77, 78] (by decide +kernel) (by decide +kernel)
set_option maxRecDepth 20000 in
theorem gX0_feltIn_X0_missingOn : GoodIn wsX0_feltIn (wsV RX0 100 RX0 yX0_missingOn wsX0_missingOn) := goodIn_app (goodIn_of _ (by decide +kernel)) ggX0_feltIn_X0_missingOn
set_option maxRecDepth 20000 in
theorem ggX0_missingOn_X2_hasBoard : GoodIn wsX0_missingOn wsX2_hasBoard := goodIn_r _ [7, 8, 17, 18, 19, 20, 21] (by decide +kernel) (by decide +kernel)
set_option maxRecDepth 20000 in
theorem gX0_missingOn_X2_hasBoard : GoodIn wsX0_missingOn (wsV RX0 66 RX2 yX2_hasBoard wsX2_hasBoard) := goodIn_app (goodIn_of _ (by decide +kernel)) ggX0_missingOn_X2_hasBoard
set_option maxRecDepth 20000 in
theorem ggX0_load_J7_fill_53178 : GoodIn wsX0_load wsJ7_fill_53178 := goodIn_r _ [7] (by decide +kernel) (by decide +kernel)
set_option maxRecDepth 20000 in
theorem gX0_load_J7_fill_53178 : GoodIn wsX0_load (va_wsS RX0 106 yJ7_fill_53178 wsJ7_fill_53178) := goodIn_app (goodIn_of _ (by decide +kernel)) ggX0_load_J7_fill_53178
set_option maxRecDepth 20000 in
theorem ggX0_load_X0_isBound : GoodIn wsX0_load wsX0_isBound := goodIn_r _ [12, 2, 13, 30, 31, 32, 33, 34, 35, 36, 37] (by decide +kernel) (by decide +kernel)
set_option maxRecDepth 20000 in
theorem gX0_load_X0_isBound : GoodIn wsX0_load (wsV RX0 112 RX0 yX0_isBound wsX0_isBound) := goodIn_app (goodIn_of _ (by decide +kernel)) ggX0_load_X0_isBound
set_option maxRecDepth 20000 in
theorem ggX0_load_X0_stepOf : GoodIn wsX0_load wsX0_stepOf := goodIn_r _ [17, 18, 30, 31, 32, 33, 34, 35, 36, 37] (by decide +kernel) (by decide +kernel)
set_option maxRecDepth 20000 in
theorem gX0_load_X0_stepOf : GoodIn wsX0_load (wsV RX0 116 RX0 yX0_stepOf wsX0_stepOf) := goodIn_app (goodIn_of _ (by decide +kernel)) ggX0_load_X0_stepOf
set_option maxRecDepth 20000 in
theorem ggX0_load_X2_hasBoard : GoodIn wsX0_load wsX2_hasBoard := goodIn_r _ [23, 24, 38, 39, 40, 41, 42] (by decide +kernel) (by decide +kernel)
set_option maxRecDepth 20000 in
theorem gX0_load_X2_hasBoard : GoodIn wsX0_load (wsV RX0 66 RX2 yX2_hasBoard wsX2_hasBoard) := goodIn_app (goodIn_of _ (by decide +kernel)) ggX0_load_X2_hasBoard
set_option maxRecDepth 20000 in
theorem ggX0_load_X0_pullOf : GoodIn wsX0_load wsX0_pullOf := goodIn_r _ [28, 2, 29, 30, 31, 32, 33, 34, 35, 36, 37] (by decide +kernel) (by decide +kernel)
set_option maxRecDepth 20000 in
theorem gX0_load_X0_pullOf : GoodIn wsX0_load (wsV RX0 119 RX0 yX0_pullOf wsX0_pullOf) := goodIn_app (goodIn_of _ (by decide +kernel)) ggX0_load_X0_pullOf
set_option maxRecDepth 20000 in
theorem ggX0_findPlan_X0_callUp : GoodIn wsX0_findPlan wsX0_callUp := goodIn_r _ [7, 8, 9, 10, 11, 12, 13, 14, 15, 16, 17, 18, 19, 20, 21, 22, 23, 24, 25, 26, 27, 28, 29, 30, 31, 32, 33, 34, 114, 115, 116, 117, 118, 119, 120, 121, 122, 123, 124] (by decide +kernel) (by decide +kernel)
set_option maxRecDepth 20000 in
theorem gX0_findPlan_X0_callUp : GoodIn wsX0_findPlan (wsV RX0 89 RX0 yX0_callUp wsX0_callUp) := goodIn_app (goodIn_of _ (by decide +kernel)) ggX0_findPlan_X0_callUp
set_option maxRecDepth 20000 in
theorem ggX0_findPlan_X2_beatsOf : GoodIn wsX0_findPlan wsX2_beatsOf := goodIn_r _ [39, 40, 41, 42, 43, 38, 44, 45, 125, 126, 127, 128, 129] (by decide +kernel) (by decide +kernel)
set_option maxRecDepth 20000 in
theorem gX0_findPlan_X2_beatsOf : GoodIn wsX0_findPlan (wsV RX0 77 RX2 yX2_beatsOf wsX2_beatsOf) := goodIn_app (goodIn_of _ (by decide +kernel)) ggX0_findPlan_X2_beatsOf
set_option maxRecDepth 20000 in
theorem ggX0_findPlan_J7_fill_d0a16 : GoodIn wsX0_findPlan wsJ7_fill_d0a16 := goodIn_r _ [49] (by decide +kernel) (by decide +kernel)
set_option maxRecDepth 20000 in
theorem gX0_findPlan_J7_fill_d0a16 : GoodIn wsX0_findPlan (va_wsS RX0 122 yJ7_fill_d0a16 wsJ7_fill_d0a16) := goodIn_app (goodIn_of _ (by decide +kernel)) ggX0_findPlan_J7_fill_d0a16
set_option maxRecDepth 20000 in
theorem ggX0_findPlan_X0_place : GoodIn wsX0_findPlan wsX0_place := goodIn_r _ [53, 1, 13, 54, 55, 56, 38, 57, 58, 59, 60, 61, 62, 40, 41, 42, 43, 44, 45, 63, 64, 65, 6, 66, 67, 68, 69, 70, 71, 72, 73, 48, 74, 75, 76, 77, 78, 15, 79, 80, 81, 82, 83, 84, 85, 86, 87, 88, 89, 90, 91, 92, 14, 93, 94, 95, 96, 97, 98, 99, 100, 101, 102, 103, 104, 105, 106, 107, 108, 50, 51, 52, 109, 2, 110, 111, 112, 113, 114, 115, 116, 117, 118, 119, 120, 121, 125, 126, 127, 128, 129] (by decide +kernel) (by decide +kernel)
set_option maxRecDepth 20000 in
theorem gX0_findPlan_X0_place : GoodIn wsX0_findPlan (wsV RX0 125 RX0 yX0_place wsX0_place) := goodIn_app (goodIn_of _ (by decide +kernel)) ggX0_findPlan_X0_place
set_option maxRecDepth 20000 in
theorem ggX0_place_X2_figureAt : GoodIn wsX0_place wsX2_figureAt := goodIn_r _ [7, 8, 9, 10, 11, 6, 12, 13, 14, 15, 16, 17, 18, 86, 87, 88, 89, 90] (by decide +kernel) (by decide +kernel)
set_option maxRecDepth 20000 in
theorem gX0_place_X2_figureAt : GoodIn wsX0_place (wsV RX0 86 RX2 yX2_figureAt wsX2_figureAt) := goodIn_app (goodIn_of _ (by decide +kernel)) ggX0_place_X2_figureAt
set_option maxRecDepth 20000 in
theorem ggX0_place_X0_isOpen : GoodIn wsX0_place wsX0_isOpen := goodIn_r _ [23, 1, 24, 25, 26, 22, 27, 28, 2, 29, 30, 31, 32, 33, 34, 35, 36, 37, 38, 39, 40, 41, 42, 43, 44, 45, 6, 46, 47, 48, 49, 50, 51, 52, 53, 54, 55, 56, 57, 58, 59, 60, 78, 79, 80, 81, 82, 83, 84, 85, 86, 87, 88, 89, 90] (by decide +kernel) (by decide +kernel)
set_option maxRecDepth 20000 in
theorem gX0_place_X0_isOpen : GoodIn wsX0_place (wsV RX0 129 RX0 yX0_isOpen wsX0_isOpen) := goodIn_app (goodIn_of _ (by decide +kernel)) ggX0_place_X0_isOpen
set_option maxRecDepth 20000 in
theorem ggX0_place_X2_hasBeat : GoodIn wsX0_place wsX2_hasBeat := goodIn_r _ [12, 13, 14, 15, 16, 6, 17, 18, 86, 87, 88, 89, 90] (by decide +kernel) (by decide +kernel)
set_option maxRecDepth 20000 in
theorem gX0_place_X2_hasBeat : GoodIn wsX0_place (wsV RX0 132 RX2 yX2_hasBeat wsX2_hasBeat) := goodIn_app (goodIn_of _ (by decide +kernel)) ggX0_place_X2_hasBeat
set_option maxRecDepth 20000 in
theorem ggX0_place_X0_placeBehind : GoodIn wsX0_place wsX0_placeBehind := goodIn_r _ [72, 73, 74, 75, 76, 22, 77, 2, 33, 34, 35, 36, 37, 38, 39, 40, 41, 42, 69, 70, 71, 0, 1, 3, 4, 5, 6, 7, 8, 9, 10, 11, 12, 13, 14, 15, 16, 17, 18, 19, 20, 21, 23, 24, 25, 26, 27, 28, 29, 30, 31, 32, 43, 44, 45, 46, 47, 48, 49, 50, 51, 52, 53, 54, 55, 56, 57, 58, 59, 60, 61, 62, 63, 64, 65, 66, 67, 68, 78, 79, 80, 81, 82, 83, 84, 85, 86, 87, 88, 89, 90] (by decide +kernel) (by decide +kernel)
set_option maxRecDepth 20000 in
theorem gX0_place_X0_placeBehind : GoodIn wsX0_place (wsV RX0 135 RX0 yX0_placeBehind wsX0_placeBehind) := goodIn_app (goodIn_of _ (by decide +kernel)) ggX0_place_X0_placeBehind
set_option maxRecDepth 20000 in
theorem ggX0_place_X0_isBound : GoodIn wsX0_place wsX0_isBound := goodIn_r _ [36, 2, 37, 78, 79, 80, 81, 82, 83, 84, 85] (by decide +kernel) (by decide +kernel)
set_option maxRecDepth 20000 in
theorem gX0_place_X0_isBound : GoodIn wsX0_place (wsV RX0 112 RX0 yX0_isBound wsX0_isBound) := goodIn_app (goodIn_of _ (by decide +kernel)) ggX0_place_X0_isBound
set_option maxRecDepth 20000 in
theorem ggX0_place_X0_step : GoodIn wsX0_place wsX0_step := goodIn_r _ [68, 42, 78, 79, 80, 81, 82, 83, 84, 85] (by decide +kernel) (by decide +kernel)
set_option maxRecDepth 20000 in
theorem gX0_place_X0_step : GoodIn wsX0_place (wsV RX0 70 RX0 yX0_step wsX0_step) := goodIn_app (goodIn_of _ (by decide +kernel)) ggX0_place_X0_step
set_option maxRecDepth 20000 in
theorem ggX0_place_X0_place : GoodIn wsX0_place wsX0_place := goodIn_r _ [0, 1, 2, 3, 4, 5, 6, 7, 8, 9, 10, 11, 12, 13, 14, 15, 16, 17, 18, 19, 20, 21, 22, 23, 24, 25, 26, 27, 28, 29, 30, 31, 32, 33, 34, 35, 36, 37, 38, 39, 40, 41, 42, 43, 44, 45, 46, 47, 48, 49, 50, 51, 52, 53, 54, 55, 56, 57, 58, 59, 60, 61, 62, 63, 64, 65, 66, 67, 68, 69, 70, 71, 72, 73, 74, 75, 76, 77, 78, 79, 80, 81, 82, 83, 84, 85, 86, 87, 88, 89, 90] (by decide +kernel) (by decide +kernel)
set_option maxRecDepth 20000 in
theorem gX0_place_X0_place : GoodIn wsX0_place (wsV RX0 125 RX0 yX0_place wsX0_place) := goodIn_app (goodIn_of _ (by decide +kernel)) ggX0_place_X0_place
set_option maxRecDepth 20000 in
theorem ggX0_placeBehind_X0_limpersRow : GoodIn wsX0_placeBehind wsX0_limpersRow := goodIn_r _ [6, 7, 8, 9, 10, 5, 11, 12, 13, 14, 15, 16, 17, 78, 79, 80, 81, 82, 83, 84, 85] (by decide +kernel) (by decide +kernel)
set_option maxRecDepth 20000 in
theorem gX0_placeBehind_X0_limpersRow : GoodIn wsX0_placeBehind (wsV RX0 138 RX0 yX0_limpersRow wsX0_limpersRow) := goodIn_app (goodIn_of _ (by decide +kernel)) ggX0_placeBehind_X0_limpersRow
set_option maxRecDepth 20000 in
theorem ggX0_placeBehind_X0_place : GoodIn wsX0_placeBehind wsX0_place := goodIn_r _ [21, 22, 7, 23, 24, 25, 26, 27, 28, 29, 30, 31, 32, 33, 34, 35, 36, 37, 38, 39, 40, 41, 5, 42, 43, 44, 45, 46, 47, 48, 49, 50, 51, 8, 9, 10, 11, 12, 13, 14, 15, 16, 17, 52, 53, 54, 55, 56, 57, 58, 59, 60, 61, 62, 63, 64, 65, 66, 67, 68, 69, 70, 71, 72, 73, 74, 75, 76, 77, 18, 19, 20, 0, 1, 2, 3, 4, 6, 78, 79, 80, 81, 82, 83, 84, 85, 86, 87, 88, 89, 90] (by decide +kernel) (by decide +kernel)
set_option maxRecDepth 20000 in
theorem gX0_placeBehind_X0_place : GoodIn wsX0_placeBehind (wsV RX0 125 RX0 yX0_place wsX0_place) := goodIn_app (goodIn_of _ (by decide +kernel)) ggX0_placeBehind_X0_place
set_option maxRecDepth 20000 in
theorem ggX0_limpersRow_X0_isBound : GoodIn wsX0_limpersRow wsX0_isBound := goodIn_r _ [6, 1, 7, 13, 14, 15, 16, 17, 18, 19, 20] (by decide +kernel) (by decide +kernel)
set_option maxRecDepth 20000 in
theorem gX0_limpersRow_X0_isBound : GoodIn wsX0_limpersRow (wsV RX0 112 RX0 yX0_isBound wsX0_isBound) := goodIn_app (goodIn_of _ (by decide +kernel)) ggX0_limpersRow_X0_isBound
set_option maxRecDepth 20000 in
theorem ggX0_limpersRow_X0_stepOf : GoodIn wsX0_limpersRow wsX0_stepOf := goodIn_r _ [11, 12, 13, 14, 15, 16, 17, 18, 19, 20] (by decide +kernel) (by decide +kernel)
set_option maxRecDepth 20000 in
theorem gX0_limpersRow_X0_stepOf : GoodIn wsX0_limpersRow (wsV RX0 116 RX0 yX0_stepOf wsX0_stepOf) := goodIn_app (goodIn_of _ (by decide +kernel)) ggX0_limpersRow_X0_stepOf
set_option maxRecDepth 20000 in
theorem ggX0_rowsFor_X0_callUp : GoodIn wsX0_rowsFor wsX0_callUp := goodIn_r _ [5, 6, 7, 8, 9, 10, 11, 12, 13, 14, 15, 16, 17, 18, 19, 20, 21, 22, 23, 24, 25, 26, 27, 28, 29, 30, 31, 32, 82, 83, 84, 85, 86, 87, 88, 89, 90, 91, 92] (by decide +kernel) (by decide +kernel)
set_option maxRecDepth 20000 in
theorem gX0_rowsFor_X0_callUp : GoodIn wsX0_rowsFor (wsV RX0 89 RX0 yX0_callUp wsX0_callUp) := goodIn_app (goodIn_of _ (by decide +kernel)) ggX0_rowsFor_X0_callUp
set_option maxRecDepth 20000 in
theorem ggX0_rowsFor_X0_countRows : GoodIn wsX0_rowsFor wsX0_countRows := goodIn_r _ [36, 11, 37, 38, 39, 40, 4, 41, 42, 43, 44, 45, 46, 47, 48, 49, 50, 51, 52, 53, 54, 13, 55, 56, 57, 58, 59, 60, 61, 62, 63, 64, 65, 66, 67, 68, 69, 12, 70, 71, 72, 73, 74, 75, 76, 77, 78, 79, 80, 81, 33, 34, 35, 82, 83, 84, 85, 86, 87, 88, 89, 93, 94, 95, 96, 97] (by decide +kernel) (by decide +kernel)
set_option maxRecDepth 20000 in
theorem gX0_rowsFor_X0_countRows : GoodIn wsX0_rowsFor (wsV RX0 141 RX0 yX0_countRows wsX0_countRows) := goodIn_app (goodIn_of _ (by decide +kernel)) ggX0_rowsFor_X0_countRows
set_option maxRecDepth 20000 in
theorem ggX0_countRows_X0_isOpen : GoodIn wsX0_countRows wsX0_isOpen := goodIn_r _ [7, 2, 8, 9, 10, 6, 11, 12, 1, 13, 14, 15, 16, 17, 18, 19, 20, 21, 22, 23, 24, 25, 26, 27, 28, 29, 30, 31, 32, 33, 34, 35, 36, 37, 38, 39, 40, 41, 42, 43, 44, 45, 53, 54, 55, 56, 57, 58, 59, 60, 61, 62, 63, 64, 65] (by decide +kernel) (by decide +kernel)
set_option maxRecDepth 20000 in
theorem gX0_countRows_X0_isOpen : GoodIn wsX0_countRows (wsV RX0 129 RX0 yX0_isOpen wsX0_isOpen) := goodIn_app (goodIn_of _ (by decide +kernel)) ggX0_countRows_X0_isOpen
set_option maxRecDepth 20000 in
theorem ggX0_countRows_X0_step : GoodIn wsX0_countRows wsX0_step := goodIn_r _ [49, 26, 53, 54, 55, 56, 57, 58, 59, 60] (by decide +kernel) (by decide +kernel)
set_option maxRecDepth 20000 in
theorem gX0_countRows_X0_step : GoodIn wsX0_countRows (wsV RX0 70 RX0 yX0_step wsX0_step) := goodIn_app (goodIn_of _ (by decide +kernel)) ggX0_countRows_X0_step
set_option maxRecDepth 20000 in
theorem ggX0_countRows_X0_countRows : GoodIn wsX0_countRows wsX0_countRows := goodIn_r _ [0, 1, 2, 3, 4, 5, 6, 7, 8, 9, 10, 11, 12, 13, 14, 15, 16, 17, 18, 19, 20, 21, 22, 23, 24, 25, 26, 27, 28, 29, 30, 31, 32, 33, 34, 35, 36, 37, 38, 39, 40, 41, 42, 43, 44, 45, 46, 47, 48, 49, 50, 51, 52, 53, 54, 55, 56, 57, 58, 59, 60, 61, 62, 63, 64, 65] (by decide +kernel) (by decide +kernel)
set_option maxRecDepth 20000 in
theorem gX0_countRows_X0_countRows : GoodIn wsX0_countRows (wsV RX0 141 RX0 yX0_countRows wsX0_countRows) := goodIn_app (goodIn_of _ (by decide +kernel)) ggX0_countRows_X0_countRows
set_option maxRecDepth 20000 in
theorem ggX0_isOpen_X0_load : GoodIn wsX0_isOpen wsX0_load := goodIn_r _ [6, 7, 8, 1, 9, 10, 11, 12, 13, 14, 15, 5, 16, 17, 18, 19, 20, 21, 22, 23, 24, 25, 26, 27, 28, 29, 30, 31, 32, 33, 42, 43, 44, 45, 46, 47, 48, 49, 50, 51, 52, 53, 54] (by decide +kernel) (by decide +kernel)
set_option maxRecDepth 20000 in
theorem gX0_isOpen_X0_load : GoodIn wsX0_isOpen (wsV RX0 93 RX0 yX0_load wsX0_load) := goodIn_app (goodIn_of _ (by decide +kernel)) ggX0_isOpen_X0_load
set_option maxRecDepth 20000 in
theorem ggX0_isOpen_X0_missingOn : GoodIn wsX0_isOpen wsX0_missingOn := goodIn_r _ [37, 1, 7, 23, 24, 25, 26, 27, 28, 42, 43, 44, 45, 46, 47, 48, 49, 50, 51, 52, 53, 54] (by decide +kernel) (by decide +kernel)
set_option maxRecDepth 20000 in
theorem gX0_isOpen_X0_missingOn : GoodIn wsX0_isOpen (wsV RX0 100 RX0 yX0_missingOn wsX0_missingOn) := goodIn_app (goodIn_of _ (by decide +kernel)) ggX0_isOpen_X0_missingOn
set_option maxRecDepth 20000 in
theorem ggX0_isOpen_X0_weightToCome : GoodIn wsX0_isOpen wsX0_weightToCome := goodIn_r _ [41, 8, 13, 14, 15, 5, 16, 17, 29, 30, 31, 32, 33, 42, 43, 44, 45, 46, 47, 48, 49] (by decide +kernel) (by decide +kernel)
set_option maxRecDepth 20000 in
theorem gX0_isOpen_X0_weightToCome : GoodIn wsX0_isOpen (wsV RX0 145 RX0 yX0_weightToCome wsX0_weightToCome) := goodIn_app (goodIn_of _ (by decide +kernel)) ggX0_isOpen_X0_weightToCome
set_option maxRecDepth 20000 in
theorem ggX0_weightToCome_X0_isBound : GoodIn wsX0_weightToCome wsX0_isBound := goodIn_r _ [6, 1, 7, 13, 14, 15, 16, 17, 18, 19, 20] (by decide +kernel) (by decide +kernel)
set_option maxRecDepth 20000 in
theorem gX0_weightToCome_X0_isBound : GoodIn wsX0_weightToCome (wsV RX0 112 RX0 yX0_isBound wsX0_isBound) := goodIn_app (goodIn_of _ (by decide +kernel)) ggX0_weightToCome_X0_isBound
set_option maxRecDepth 20000 in
theorem ggX0_weightToCome_X0_pullOf : GoodIn wsX0_weightToCome wsX0_pullOf := goodIn_r _ [11, 1, 12, 13, 14, 15, 16, 17, 18, 19, 20] (by decide +kernel) (by decide +kernel)
set_option maxRecDepth 20000 in
theorem gX0_weightToCome_X0_pullOf : GoodIn wsX0_weightToCome (wsV RX0 119 RX0 yX0_pullOf wsX0_pullOf) := goodIn_app (goodIn_of _ (by decide +kernel)) ggX0_weightToCome_X0_pullOf
set_option maxRecDepth 20000 in
theorem ggX2_addDoor_X2_addBeat : GoodIn wsX2_addDoor wsX2_addBeat := goodIn_r _ [7, 1, 2, 8, 9, 10, 11, 6, 12, 13, 14, 15, 16, 17] (by decide +kernel) (by decide +kernel)
set_option maxRecDepth 20000 in
theorem gX2_addDoor_X2_addBeat : GoodIn wsX2_addDoor (wsV RX2 34 RX2 yX2_addBeat wsX2_addBeat) := goodIn_app (goodIn_of _ (by decide +kernel)) ggX2_addDoor_X2_addBeat
set_option maxRecDepth 20000 in
theorem ggX2_addBeat_X2_hasDoor : GoodIn wsX2_addBeat wsX2_hasDoor := goodIn_r _ [8, 1, 9, 10, 11, 12, 13] (by decide +kernel) (by decide +kernel)
set_option maxRecDepth 20000 in
theorem gX2_addBeat_X2_hasDoor : GoodIn wsX2_addBeat (wsV RX2 38 RX2 yX2_hasDoor wsX2_hasDoor) := goodIn_app (goodIn_of _ (by decide +kernel)) ggX2_addBeat_X2_hasDoor
set_option maxRecDepth 20000 in
theorem ggX2_addRising_X2_hasDoor : GoodIn wsX2_addRising wsX2_hasDoor := goodIn_r _ [8, 1, 21, 22, 23, 24, 25] (by decide +kernel) (by decide +kernel)
set_option maxRecDepth 20000 in
theorem gX2_addRising_X2_hasDoor : GoodIn wsX2_addRising (wsV RX2 38 RX2 yX2_hasDoor wsX2_hasDoor) := goodIn_app (goodIn_of _ (by decide +kernel)) ggX2_addRising_X2_hasDoor
set_option maxRecDepth 20000 in
theorem ggX2_addRising_X2_hasBoard : GoodIn wsX2_addRising wsX2_hasBoard := goodIn_r _ [12, 13, 21, 22, 23, 24, 25] (by decide +kernel) (by decide +kernel)
set_option maxRecDepth 20000 in
theorem gX2_addRising_X2_hasBoard : GoodIn wsX2_addRising (wsV RX2 42 RX2 yX2_hasBoard wsX2_hasBoard) := goodIn_app (goodIn_of _ (by decide +kernel)) ggX2_addRising_X2_hasBoard
set_option maxRecDepth 20000 in
theorem ggX2_addRising_J6_bitCount_0f7a4 : GoodIn wsX2_addRising wsJ6_bitCount_0f7a4 := goodIn_r _ [17, 18, 19, 20] (by decide +kernel) (by decide +kernel)
set_option maxRecDepth 20000 in
theorem gX2_addRising_J6_bitCount_0f7a4 : GoodIn wsX2_addRising (va_wsS RX2 45 yJ6_bitCount_0f7a4 wsJ6_bitCount_0f7a4) := goodIn_app (goodIn_of _ (by decide +kernel)) ggX2_addRising_J6_bitCount_0f7a4
set_option maxRecDepth 20000 in
theorem ggX2_hasBeat_X2_hasDoor : GoodIn wsX2_hasBeat wsX2_hasDoor := goodIn_r _ [6, 7, 8, 9, 10, 11, 12] (by decide +kernel) (by decide +kernel)
set_option maxRecDepth 20000 in
theorem gX2_hasBeat_X2_hasDoor : GoodIn wsX2_hasBeat (wsV RX2 38 RX2 yX2_hasDoor wsX2_hasDoor) := goodIn_app (goodIn_of _ (by decide +kernel)) ggX2_hasBeat_X2_hasDoor
set_option maxRecDepth 20000 in
theorem ggX2_beatsOf_X2_hasDoor : GoodIn wsX2_beatsOf wsX2_hasDoor := goodIn_r _ [6, 7, 8, 9, 10, 11, 12] (by decide +kernel) (by decide +kernel)
set_option maxRecDepth 20000 in
theorem gX2_beatsOf_X2_hasDoor : GoodIn wsX2_beatsOf (wsV RX2 38 RX2 yX2_hasDoor wsX2_hasDoor) := goodIn_app (goodIn_of _ (by decide +kernel)) ggX2_beatsOf_X2_hasDoor
set_option maxRecDepth 20000 in
theorem ggX2_figureAt_X2_hasBeat : GoodIn wsX2_figureAt wsX2_hasBeat := goodIn_r _ [6, 7, 8, 9, 10, 5, 11, 12, 13, 14, 15, 16, 17] (by decide +kernel) (by decide +kernel)
set_option maxRecDepth 20000 in
theorem gX2_figureAt_X2_hasBeat : GoodIn wsX2_figureAt (wsV RX2 51 RX2 yX2_hasBeat wsX2_hasBeat) := goodIn_app (goodIn_of _ (by decide +kernel)) ggX2_figureAt_X2_hasBeat
set_option maxRecDepth 20000 in
theorem ggX3_init_J7_fill_53178 : GoodIn wsX3_init wsJ7_fill_53178 := goodIn_r _ [11] (by decide +kernel) (by decide +kernel)
set_option maxRecDepth 20000 in
theorem gX3_init_J7_fill_53178 : GoodIn wsX3_init (va_wsS RX3 21 yJ7_fill_53178 wsJ7_fill_53178) := goodIn_app (goodIn_of _ (by decide +kernel)) ggX3_init_J7_fill_53178
set_option maxRecDepth 20000 in
theorem ggX3_isNothing_X3_sortOf : GoodIn wsX3_isNothing wsX3_sortOf := goodIn_r _ [5, 6, 7, 8, 9, 4, 10, 11, 12, 13] (by decide +kernel) (by decide +kernel)
set_option maxRecDepth 20000 in
theorem gX3_isNothing_X3_sortOf : GoodIn wsX3_isNothing (wsV RX3 27 RX3 yX3_sortOf wsX3_sortOf) := goodIn_app (goodIn_of _ (by decide +kernel)) ggX3_isNothing_X3_sortOf
set_option maxRecDepth 20000 in
theorem ggX3_sortOf_X3_includes : GoodIn wsX3_sortOf wsX3_includes := goodIn_r _ [6] (by decide +kernel) (by decide +kernel)
set_option maxRecDepth 20000 in
theorem gX3_sortOf_X3_includes : GoodIn wsX3_sortOf (wsV RX3 31 RX3 yX3_includes wsX3_includes) := goodIn_app (goodIn_of _ (by decide +kernel)) ggX3_sortOf_X3_includes
set_option maxRecDepth 20000 in
theorem ggX3_lengthOf_X3_includes : GoodIn wsX3_lengthOf wsX3_includes := goodIn_r _ [6] (by decide +kernel) (by decide +kernel)
set_option maxRecDepth 20000 in
theorem gX3_lengthOf_X3_includes : GoodIn wsX3_lengthOf (wsV RX3 31 RX3 yX3_includes wsX3_includes) := goodIn_app (goodIn_of _ (by decide +kernel)) ggX3_lengthOf_X3_includes
set_option maxRecDepth 20000 in
theorem ggX3_renew_X3_includes : GoodIn wsX3_renew wsX3_includes := goodIn_r _ [8] (by decide +kernel) (by decide +kernel)
set_option maxRecDepth 20000 in
theorem gX3_renew_X3_includes : GoodIn wsX3_renew (wsV RX3 31 RX3 yX3_includes wsX3_includes) := goodIn_app (goodIn_of _ (by decide +kernel)) ggX3_renew_X3_includes
set_option maxRecDepth 20000 in
theorem ggX3_renew_J7_fill_fda19 : GoodIn wsX3_renew wsJ7_fill_fda19 := goodIn_r _ [12, 13, 14, 11, 15] (by decide +kernel) (by decide +kernel)
set_option maxRecDepth 20000 in
theorem gX3_renew_J7_fill_fda19 : GoodIn wsX3_renew (va_wsS RX3 35 yJ7_fill_fda19 wsJ7_fill_fda19) := goodIn_app (goodIn_of _ (by decide +kernel)) ggX3_renew_J7_fill_fda19
set_option maxRecDepth 20000 in
theorem ggX3_hasCells_X3_lengthOf : GoodIn wsX3_hasCells wsX3_lengthOf := goodIn_r _ [5, 6, 7, 8, 9, 4, 10, 11, 12, 13] (by decide +kernel) (by decide +kernel)
set_option maxRecDepth 20000 in
theorem gX3_hasCells_X3_lengthOf : GoodIn wsX3_hasCells (wsV RX3 38 RX3 yX3_lengthOf wsX3_lengthOf) := goodIn_app (goodIn_of _ (by decide +kernel)) ggX3_hasCells_X3_lengthOf
set_option maxRecDepth 20000 in
theorem ggX3_faultOfCells_X3_isNothing : GoodIn wsX3_faultOfCells wsX3_isNothing := goodIn_r _ [5, 6, 7, 8, 4, 9, 10, 11, 12, 13, 14, 24, 25, 26] (by decide +kernel) (by decide +kernel)
set_option maxRecDepth 20000 in
theorem gX3_faultOfCells_X3_isNothing : GoodIn wsX3_faultOfCells (wsV RX3 41 RX3 yX3_isNothing wsX3_isNothing) := goodIn_app (goodIn_of _ (by decide +kernel)) ggX3_faultOfCells_X3_isNothing
set_option maxRecDepth 20000 in
theorem ggX3_faultOfCells_X3_sortOf : GoodIn wsX3_faultOfCells wsX3_sortOf := goodIn_r _ [9, 10, 11, 12, 13, 4, 14, 24, 25, 26] (by decide +kernel) (by decide +kernel)
set_option maxRecDepth 20000 in
theorem gX3_faultOfCells_X3_sortOf : GoodIn wsX3_faultOfCells (wsV RX3 27 RX3 yX3_sortOf wsX3_sortOf) := goodIn_app (goodIn_of _ (by decide +kernel)) ggX3_faultOfCells_X3_sortOf
set_option maxRecDepth 20000 in
theorem ggX3_faultOfCells_X3_hasCells : GoodIn wsX3_faultOfCells wsX3_hasCells := goodIn_r _ [18, 19, 20, 21, 4, 22, 23, 11, 12, 13, 14, 24, 25, 26] (by decide +kernel) (by decide +kernel)
set_option maxRecDepth 20000 in
theorem gX3_faultOfCells_X3_hasCells : GoodIn wsX3_faultOfCells (wsV RX3 44 RX3 yX3_hasCells wsX3_hasCells) := goodIn_app (goodIn_of _ (by decide +kernel)) ggX3_faultOfCells_X3_hasCells
set_option maxRecDepth 20000 in
theorem ggX3_write_X3_hasCells : GoodIn wsX3_write wsX3_hasCells := goodIn_r _ [6, 7, 8, 9, 5, 10, 11, 12, 13, 14, 15, 25, 26, 27] (by decide +kernel) (by decide +kernel)
set_option maxRecDepth 20000 in
theorem gX3_write_X3_hasCells : GoodIn wsX3_write (wsV RX3 44 RX3 yX3_hasCells wsX3_hasCells) := goodIn_app (goodIn_of _ (by decide +kernel)) ggX3_write_X3_hasCells
set_option maxRecDepth 20000 in
theorem ggX3_write_X3_sortOf : GoodIn wsX3_write wsX3_sortOf := goodIn_r _ [19, 20, 12, 13, 14, 5, 15, 25, 26, 27] (by decide +kernel) (by decide +kernel)
set_option maxRecDepth 20000 in
theorem gX3_write_X3_sortOf : GoodIn wsX3_write (wsV RX3 27 RX3 yX3_sortOf wsX3_sortOf) := goodIn_app (goodIn_of _ (by decide +kernel)) ggX3_write_X3_sortOf
set_option maxRecDepth 20000 in
theorem ggX3_write_X3_cut : GoodIn wsX3_write wsX3_cut := goodIn_r _ [24] (by decide +kernel) (by decide +kernel)
set_option maxRecDepth 20000 in
theorem gX3_write_X3_cut : GoodIn wsX3_write (wsV RX3 48 RX3 yX3_cut wsX3_cut) := goodIn_app (goodIn_of _ (by decide +kernel)) ggX3_write_X3_cut
set_option maxRecDepth 20000 in
theorem ggX3_readInto_X3_hasCells : GoodIn wsX3_readInto wsX3_hasCells := goodIn_r _ [10, 11, 12, 13, 9, 14, 15, 16, 17, 18, 19, 20, 21, 22] (by decide +kernel) (by decide +kernel)
set_option maxRecDepth 20000 in
theorem gX3_readInto_X3_hasCells : GoodIn wsX3_readInto (wsV RX3 44 RX3 yX3_hasCells wsX3_hasCells) := goodIn_app (goodIn_of _ (by decide +kernel)) ggX3_readInto_X3_hasCells
set_option maxRecDepth 20000 in
theorem ggX4_init_X2_init : GoodIn wsX4_init wsX2_init := goodIn_r _ [9, 10, 2, 3, 11, 12, 13, 14, 15, 16, 17, 18, 19] (by decide +kernel) (by decide +kernel)
set_option maxRecDepth 20000 in
theorem gX4_init_X2_init_n9 : GoodIn wsX4_init (wsX2_init) := ggX4_init_X2_init
set_option maxRecDepth 20000 in
theorem ggX4_firstFault_X2_clear : GoodIn wsX4_firstFault wsX2_clear := goodIn_r _ [10, 11, 12, 58, 59, 60, 61, 62] (by decide +kernel) (by decide +kernel)
set_option maxRecDepth 20000 in
theorem gX4_firstFault_X2_clear : GoodIn wsX4_firstFault (wsV RX4 22 RX2 yX2_clear wsX2_clear) := goodIn_app (goodIn_of _ (by decide +kernel)) ggX4_firstFault_X2_clear
set_option maxRecDepth 20000 in
theorem ggX4_firstFault_X2_addBoard : GoodIn wsX4_firstFault wsX2_addBoard := goodIn_r _ [16, 11, 17, 58, 59, 60, 61, 62] (by decide +kernel) (by decide +kernel)
set_option maxRecDepth 20000 in
theorem gX4_firstFault_X2_addBoard : GoodIn wsX4_firstFault (wsV RX4 25 RX2 yX2_addBoard wsX2_addBoard) := goodIn_app (goodIn_of _ (by decide +kernel)) ggX4_firstFault_X2_addBoard
set_option maxRecDepth 20000 in
theorem ggX4_firstFault_X4_firstFaultOfDoors : GoodIn wsX4_firstFault wsX4_firstFaultOfDoors := goodIn_r _ [22, 5, 23, 24, 25, 21, 26, 27, 28, 29, 9, 30, 12, 31, 32, 33, 34, 35, 36, 37, 38, 39, 40, 41, 42, 43, 44, 45, 46, 47, 48, 49, 11, 50, 51, 52, 53, 54, 55, 56, 57, 58, 59, 60, 61, 62] (by decide +kernel) (by decide +kernel)
set_option maxRecDepth 20000 in
theorem gX4_firstFault_X4_firstFaultOfDoors : GoodIn wsX4_firstFault (wsV RX4 29 RX4 yX4_firstFaultOfDoors wsX4_firstFaultOfDoors) := goodIn_app (goodIn_of _ (by decide +kernel)) ggX4_firstFault_X4_firstFaultOfDoors
set_option maxRecDepth 20000 in
theorem ggX4_firstFaultOfDoors_X4_goesOn : GoodIn wsX4_firstFaultOfDoors wsX4_goesOn := goodIn_r _ [6, 1, 7, 8, 9, 10, 11, 12, 13, 14, 15, 16, 17, 18, 19, 20, 21, 22, 23, 24, 25, 26, 27, 28, 29, 30, 31, 32, 33, 34, 35, 36, 37, 38, 39, 40, 41, 42, 43, 44, 45] (by decide +kernel) (by decide +kernel)
set_option maxRecDepth 20000 in
theorem gX4_firstFaultOfDoors_X4_goesOn : GoodIn wsX4_firstFaultOfDoors (wsV RX4 33 RX4 yX4_goesOn wsX4_goesOn) := goodIn_app (goodIn_of _ (by decide +kernel)) ggX4_firstFaultOfDoors_X4_goesOn
set_option maxRecDepth 20000 in
theorem ggX4_goesOn_X2_addDoor : GoodIn wsX4_goesOn wsX2_addDoor := goodIn_r _ [6, 7, 8, 9, 10, 11, 5, 12, 13, 14, 15, 16, 17, 36, 37, 38, 39, 40] (by decide +kernel) (by decide +kernel)
set_option maxRecDepth 20000 in
theorem gX4_goesOn_X2_addDoor : GoodIn wsX4_goesOn (wsV RX4 41 RX2 yX2_addDoor wsX2_addDoor) := goodIn_app (goodIn_of _ (by decide +kernel)) ggX4_goesOn_X2_addDoor
set_option maxRecDepth 20000 in
theorem ggX4_goesOn_X2_addBeat : GoodIn wsX4_goesOn wsX2_addBeat := goodIn_r _ [12, 7, 8, 13, 14, 15, 16, 5, 17, 36, 37, 38, 39, 40] (by decide +kernel) (by decide +kernel)
set_option maxRecDepth 20000 in
theorem gX4_goesOn_X2_addBeat : GoodIn wsX4_goesOn (wsV RX4 45 RX2 yX2_addBeat wsX2_addBeat) := goodIn_app (goodIn_of _ (by decide +kernel)) ggX4_goesOn_X2_addBeat
set_option maxRecDepth 20000 in
theorem ggX4_goesOn_X2_addRising : GoodIn wsX4_goesOn wsX2_addRising := goodIn_r _ [22, 7, 8, 13, 14, 15, 16, 5, 17, 23, 24, 25, 26, 27, 28, 29, 30, 31, 32, 33, 34, 36, 37, 38, 39, 40] (by decide +kernel) (by decide +kernel)
set_option maxRecDepth 20000 in
theorem gX4_goesOn_X2_addRising : GoodIn wsX4_goesOn (wsV RX4 48 RX2 yX2_addRising wsX2_addRising) := goodIn_app (goodIn_of _ (by decide +kernel)) ggX4_goesOn_X2_addRising
set_option maxRecDepth 20000 in
theorem ggX5_join_X5_isFull : GoodIn wsX5_join wsX5_isFull := goodIn_r _ [8, 2, 9, 10, 11] (by decide +kernel) (by decide +kernel)
set_option maxRecDepth 20000 in
theorem gX5_join_X5_isFull : GoodIn wsX5_join (wsV RX5 22 RX5 yX5_isFull wsX5_isFull) := goodIn_app (goodIn_of _ (by decide +kernel)) ggX5_join_X5_isFull
set_option maxRecDepth 20000 in
theorem ggX5_kindOf_X5_includes : GoodIn wsX5_kindOf wsX5_includes := goodIn_r _ [6, 7, 8, 9, 10] (by decide +kernel) (by decide +kernel)
set_option maxRecDepth 20000 in
theorem gX5_kindOf_X5_includes : GoodIn wsX5_kindOf (wsV RX5 26 RX5 yX5_includes wsX5_includes) := goodIn_app (goodIn_of _ (by decide +kernel)) ggX5_kindOf_X5_includes
set_option maxRecDepth 20000 in
theorem ggX5_weightOf_X5_includes : GoodIn wsX5_weightOf wsX5_includes := goodIn_r _ [6, 7, 8, 9, 10] (by decide +kernel) (by decide +kernel)
set_option maxRecDepth 20000 in
theorem gX5_weightOf_X5_includes : GoodIn wsX5_weightOf (wsV RX5 26 RX5 yX5_includes wsX5_includes) := goodIn_app (goodIn_of _ (by decide +kernel)) ggX5_weightOf_X5_includes
set_option maxRecDepth 20000 in
theorem ggX6_init_X3_init : GoodIn wsX6_init wsX3_init := goodIn_r _ [26, 27, 2, 3, 22, 28, 29, 30, 31, 32, 33, 34, 73, 74, 75] (by decide +kernel) (by decide +kernel)
set_option maxRecDepth 20000 in
theorem gX6_init_X3_init : GoodIn wsX6_init (wsX3_init) := ggX6_init_X3_init
set_option maxRecDepth 20000 in
theorem ggX6_init_X4_init : GoodIn wsX6_init wsX4_init := goodIn_r _ [36, 37, 2, 3, 38, 39, 40, 41, 42, 43, 44, 22, 45, 46, 47, 96, 97, 98, 99, 100, 85] (by decide +kernel) (by decide +kernel)
set_option maxRecDepth 20000 in
theorem gX6_init_X4_init_n20 : GoodIn wsX6_init (wsX4_init) := ggX6_init_X4_init
set_option maxRecDepth 20000 in
theorem ggX6_init_X0_init : GoodIn wsX6_init wsX0_init := goodIn_r _ [49, 50, 2, 3, 51, 39, 40, 52, 53, 54, 55, 56, 22, 57, 58, 59, 60, 61, 62, 63, 42, 43, 44, 45, 46, 47, 64, 65, 66, 67, 68, 96, 97, 98, 99, 100, 86, 87, 88, 89, 90, 91, 92, 93, 101, 102, 103] (by decide +kernel) (by decide +kernel)
set_option maxRecDepth 20000 in
theorem gX6_init_X0_init_n27 : GoodIn wsX6_init (wsX0_init) := ggX6_init_X0_init
set_option maxRecDepth 20000 in
theorem ggX6_init_X1_init : GoodIn wsX6_init wsX1_init := goodIn_r _ [70, 71, 2, 3, 22, 72, 94, 95] (by decide +kernel) (by decide +kernel)
set_option maxRecDepth 20000 in
theorem gX6_init_X1_init_n44 : GoodIn wsX6_init (wsX1_init) := ggX6_init_X1_init
set_option maxRecDepth 20000 in
theorem ggX6_lock_X6_takeRow : GoodIn wsX6_lock wsX6_takeRow := goodIn_r _ [10, 11, 12, 2, 13, 14, 15, 16, 17, 18, 19, 20, 21, 22, 23, 24, 25, 26, 27, 28, 29, 30, 31, 32, 33, 34, 35, 36, 37, 38, 39, 40, 41, 42, 43, 9, 44, 45, 46, 47, 48, 49, 50, 51, 52, 53, 119, 120, 121, 122, 123, 124, 125, 126, 127, 139, 140, 141] (by decide +kernel) (by decide +kernel)
set_option maxRecDepth 20000 in
theorem gX6_lock_X6_takeRow : GoodIn wsX6_lock (wsV RX6 53 RX6 yX6_takeRow wsX6_takeRow) := goodIn_app (goodIn_of _ (by decide +kernel)) ggX6_lock_X6_takeRow
set_option maxRecDepth 20000 in
theorem ggX6_lock_X4_firstFault : GoodIn wsX6_lock wsX4_firstFault := goodIn_r _ [58, 59, 60, 61, 62, 63, 64, 65, 66, 67, 68, 69, 70, 71, 72, 73, 74, 75, 76, 77, 78, 57, 79, 80, 81, 82, 83, 84, 85, 86, 87, 88, 89, 90, 91, 92, 93, 94, 95, 96, 97, 98, 99, 100, 101, 102, 103, 104, 105, 106, 107, 108, 109, 110, 111, 112, 113, 128, 134, 135, 136, 137, 138] (by decide +kernel) (by decide +kernel)
set_option maxRecDepth 20000 in
theorem gX6_lock_X4_firstFault : GoodIn wsX6_lock (wsV RX6 57 RX4 yX4_firstFault wsX4_firstFault) := goodIn_app (goodIn_of _ (by decide +kernel)) ggX6_lock_X4_firstFault
set_option maxRecDepth 20000 in
theorem ggX6_lock_X2_becomeLike : GoodIn wsX6_lock wsX2_becomeLike := goodIn_r _ [117, 69, 70, 75, 118, 51, 52, 53, 88, 93, 134, 135, 136, 137, 138] (by decide +kernel) (by decide +kernel)
set_option maxRecDepth 20000 in
theorem gX6_lock_X2_becomeLike : GoodIn wsX6_lock (wsV RX6 64 RX2 yX2_becomeLike wsX2_becomeLike) := goodIn_app (goodIn_of _ (by decide +kernel)) ggX6_lock_X2_becomeLike
set_option maxRecDepth 20000 in
theorem ggX6_dancer_X2_stands : GoodIn wsX6_dancer wsX2_stands := goodIn_r _ [7, 8, 31, 32, 33, 34, 35] (by decide +kernel) (by decide +kernel)
set_option maxRecDepth 20000 in
theorem gX6_dancer_X2_stands : GoodIn wsX6_dancer (wsV RX6 115 RX2 yX2_stands wsX2_stands) := goodIn_app (goodIn_of _ (by decide +kernel)) ggX6_dancer_X2_stands
set_option maxRecDepth 20000 in
theorem ggX6_dancer_X5_isFull : GoodIn wsX6_dancer wsX5_isFull := goodIn_r _ [13, 14, 36, 37, 38] (by decide +kernel) (by decide +kernel)
set_option maxRecDepth 20000 in
theorem gX6_dancer_X5_isFull : GoodIn wsX6_dancer (wsV RX6 119 RX5 yX5_isFull wsX5_isFull) := goodIn_app (goodIn_of _ (by decide +kernel)) ggX6_dancer_X5_isFull
set_option maxRecDepth 20000 in
theorem ggX6_dancer_X5_join : GoodIn wsX6_dancer wsX5_join := goodIn_r _ [18, 19, 14, 20, 21, 10, 11, 12, 13, 36, 37, 38] (by decide +kernel) (by decide +kernel)
set_option maxRecDepth 20000 in
theorem gX6_dancer_X5_join : GoodIn wsX6_dancer (wsV RX6 122 RX5 yX5_join wsX5_join) := goodIn_app (goodIn_of _ (by decide +kernel)) ggX6_dancer_X5_join
set_option maxRecDepth 20000 in
theorem ggX6_ofDancer_X5_includes : GoodIn wsX6_ofDancer wsX5_includes := goodIn_r _ [6, 7, 31, 32, 33] (by decide +kernel) (by decide +kernel)
set_option maxRecDepth 20000 in
theorem gX6_ofDancer_X5_includes : GoodIn wsX6_ofDancer (wsV RX6 125 RX5 yX5_includes wsX5_includes) := goodIn_app (goodIn_of _ (by decide +kernel)) ggX6_ofDancer_X5_includes
set_option maxRecDepth 20000 in
theorem ggX6_ofDancer_X5_kindOf : GoodIn wsX6_ofDancer wsX5_kindOf := goodIn_r _ [11, 12, 13, 3, 4, 5, 6, 7, 31, 32, 33] (by decide +kernel) (by decide +kernel)
set_option maxRecDepth 20000 in
theorem gX6_ofDancer_X5_kindOf : GoodIn wsX6_ofDancer (wsV RX6 128 RX5 yX5_kindOf wsX5_kindOf) := goodIn_app (goodIn_of _ (by decide +kernel)) ggX6_ofDancer_X5_kindOf
set_option maxRecDepth 20000 in
theorem ggX6_ofDancer_X5_weightOf : GoodIn wsX6_ofDancer wsX5_weightOf := goodIn_r _ [17, 18, 13, 3, 4, 5, 6, 7, 31, 32, 33] (by decide +kernel) (by decide +kernel)
set_option maxRecDepth 20000 in
theorem gX6_ofDancer_X5_weightOf : GoodIn wsX6_ofDancer (wsV RX6 131 RX5 yX5_weightOf wsX5_weightOf) := goodIn_app (goodIn_of _ (by decide +kernel)) ggX6_ofDancer_X5_weightOf
set_option maxRecDepth 20000 in
theorem ggX6_ofDancer_X5_pull : GoodIn wsX6_ofDancer wsX5_pull := goodIn_r _ [21] (by decide +kernel) (by decide +kernel)
set_option maxRecDepth 20000 in
theorem gX6_ofDancer_X5_pull : GoodIn wsX6_ofDancer (va_wsS RX6 134 yX5_pull wsX5_pull) := goodIn_app (goodIn_of _ (by decide +kernel)) ggX6_ofDancer_X5_pull
set_option maxRecDepth 20000 in
theorem ggX6_opens_X6_takePlan : GoodIn wsX6_opens wsX6_takePlan := goodIn_r _ [6, 7, 8, 1, 9, 10, 11, 12, 5, 13, 14, 15, 16, 17, 18, 19, 20, 21, 22, 23, 24, 25, 26, 27, 28, 29, 30, 31, 32, 33, 34, 35, 36, 37, 38, 39, 40, 41, 42, 43, 44, 45, 46, 47, 48, 49, 50, 51, 52, 53, 54, 55, 56, 57, 58, 59, 60, 61, 62, 63, 64, 65, 66, 67, 68, 69, 70, 71, 72, 73, 74, 75, 76, 77, 78, 79, 165, 166, 167, 168, 169, 170, 171, 172, 173, 174, 175, 176, 177, 178, 179, 180, 181, 182, 183, 184, 185, 186, 187, 188, 189, 190, 191, 192] (by decide +kernel) (by decide +kernel)
set_option maxRecDepth 20000 in
theorem gX6_opens_X6_takePlan : GoodIn wsX6_opens (wsV RX6 137 RX6 yX6_takePlan wsX6_takePlan) := goodIn_app (goodIn_of _ (by decide +kernel)) ggX6_opens_X6_takePlan
set_option maxRecDepth 20000 in
theorem ggX6_opens_X0_doorOpened : GoodIn wsX6_opens wsX0_doorOpened := goodIn_r _ [83, 69, 84, 85, 86, 60, 87, 88, 89, 90, 91, 92, 62, 93, 94, 95, 66, 96, 97, 98, 99, 100, 101, 102, 103, 104, 105, 68, 106, 107, 108, 109, 110, 111, 112, 113, 114, 115, 116, 117, 118, 119, 120, 121, 122, 123, 124, 125, 126, 127, 128, 129, 130, 131, 132, 133, 134, 135, 136, 137, 138, 139, 140, 141, 142, 143, 144, 145, 146, 147, 79, 70, 71, 72, 73, 74, 148, 149, 150, 151, 152, 153, 154, 155, 156, 157, 158, 159, 160, 161, 162, 163, 164, 185, 186, 187, 188, 189, 190, 191, 192, 180, 181, 182, 183, 184, 174, 175, 176] (by decide +kernel) (by decide +kernel)
set_option maxRecDepth 20000 in
theorem gX6_opens_X0_doorOpened : GoodIn wsX6_opens (wsV RX6 141 RX0 yX0_doorOpened wsX0_doorOpened) := goodIn_app (goodIn_of _ (by decide +kernel)) ggX6_opens_X0_doorOpened
set_option maxRecDepth 20000 in
theorem ggX6_felt_X6_takePlan : GoodIn wsX6_felt wsX6_takePlan := goodIn_r _ [6, 7, 8, 1, 9, 10, 11, 12, 5, 13, 14, 15, 16, 17, 18, 19, 20, 21, 22, 23, 24, 25, 26, 27, 28, 29, 30, 31, 32, 33, 34, 35, 36, 37, 38, 39, 40, 41, 42, 43, 44, 45, 46, 47, 48, 49, 50, 51, 52, 53, 54, 55, 56, 57, 58, 59, 60, 61, 62, 63, 64, 65, 66, 67, 68, 69, 70, 71, 72, 73, 74, 75, 76, 77, 78, 79, 139, 140, 141, 142, 143, 144, 145, 146, 147, 148, 149, 150, 151, 152, 153, 154, 155, 156, 157, 158, 159, 160, 161, 162, 163, 164, 165, 166] (by decide +kernel) (by decide +kernel)
set_option maxRecDepth 20000 in
theorem gX6_felt_X6_takePlan : GoodIn wsX6_felt (wsV RX6 137 RX6 yX6_takePlan wsX6_takePlan) := goodIn_app (goodIn_of _ (by decide +kernel)) ggX6_felt_X6_takePlan
set_option maxRecDepth 20000 in
theorem ggX6_felt_X0_feltIn : GoodIn wsX6_felt wsX0_feltIn := goodIn_r _ [83, 84, 69, 85, 86, 87, 66, 88, 68, 89, 90, 91, 92, 93, 94, 95, 96, 97, 98, 99, 100, 101, 102, 103, 104, 105, 106, 107, 108, 109, 110, 111, 112, 113, 114, 115, 116, 117, 118, 119, 120, 121, 122, 123, 124, 125, 126, 127, 128, 129, 130, 79, 70, 71, 72, 60, 73, 74, 131, 132, 133, 134, 135, 136, 137, 138, 159, 160, 161, 162, 163, 164, 165, 166, 154, 155, 156, 157, 158, 148, 149, 150] (by decide +kernel) (by decide +kernel)
set_option maxRecDepth 20000 in
theorem gX6_felt_X0_feltIn : GoodIn wsX6_felt (wsV RX6 144 RX0 yX0_feltIn wsX0_feltIn) := goodIn_app (goodIn_of _ (by decide +kernel)) ggX6_felt_X0_feltIn
set_option maxRecDepth 20000 in
theorem ggX6_wrong_X2_hasDoor : GoodIn wsX6_wrong wsX2_hasDoor := goodIn_r _ [8, 9, 172, 173, 174, 175, 176] (by decide +kernel) (by decide +kernel)
set_option maxRecDepth 20000 in
theorem gX6_wrong_X2_hasDoor : GoodIn wsX6_wrong (wsV RX6 87 RX2 yX2_hasDoor wsX2_hasDoor) := goodIn_app (goodIn_of _ (by decide +kernel)) ggX6_wrong_X2_hasDoor
set_option maxRecDepth 20000 in
theorem ggX6_wrong_X2_beatsOf : GoodIn wsX6_wrong wsX2_beatsOf := goodIn_r _ [13, 14, 15, 5, 6, 7, 8, 9, 172, 173, 174, 175, 176] (by decide +kernel) (by decide +kernel)
set_option maxRecDepth 20000 in
theorem gX6_wrong_X2_beatsOf : GoodIn wsX6_wrong (wsV RX6 90 RX2 yX2_beatsOf wsX2_beatsOf) := goodIn_app (goodIn_of _ (by decide +kernel)) ggX6_wrong_X2_beatsOf
set_option maxRecDepth 20000 in
theorem ggX6_wrong_X6_takePlan : GoodIn wsX6_wrong wsX6_takePlan := goodIn_r _ [20, 21, 2, 3, 22, 23, 24, 25, 19, 26, 1, 27, 28, 29, 30, 31, 32, 33, 34, 35, 36, 37, 38, 39, 40, 41, 42, 43, 44, 45, 46, 47, 48, 49, 50, 51, 52, 53, 54, 55, 56, 57, 58, 59, 60, 61, 62, 63, 64, 65, 66, 67, 68, 69, 70, 71, 7, 72, 9, 73, 74, 75, 76, 77, 78, 79, 80, 81, 82, 83, 84, 85, 86, 87, 88, 89, 163, 164, 165, 166, 167, 168, 169, 170, 171, 177, 178, 179, 180, 181, 182, 172, 173, 174, 175, 176, 183, 184, 185, 186, 187, 188, 189, 190] (by decide +kernel) (by decide +kernel)
set_option maxRecDepth 20000 in
theorem gX6_wrong_X6_takePlan : GoodIn wsX6_wrong (wsV RX6 137 RX6 yX6_takePlan wsX6_takePlan) := goodIn_app (goodIn_of _ (by decide +kernel)) ggX6_wrong_X6_takePlan
set_option maxRecDepth 20000 in
theorem ggX6_wrong_X0_firstWrong : GoodIn wsX6_wrong wsX0_firstWrong := goodIn_r _ [93, 79, 94, 11, 12, 7, 13, 14, 15, 5, 6, 8, 9, 95, 96, 97, 76, 98, 99, 100, 101, 102, 103, 78, 104, 105, 106, 107, 108, 109, 110, 111, 112, 113, 114, 115, 116, 117, 118, 119, 120, 121, 122, 123, 124, 125, 126, 127, 128, 129, 130, 131, 132, 133, 134, 135, 136, 137, 138, 139, 140, 141, 142, 143, 144, 145, 89, 80, 81, 82, 83, 84, 146, 147, 148, 149, 150, 151, 152, 153, 154, 155, 156, 157, 158, 159, 160, 161, 162, 183, 184, 185, 186, 187, 188, 189, 190, 172, 173, 174, 175, 176, 177, 178, 179] (by decide +kernel) (by decide +kernel)
set_option maxRecDepth 20000 in
theorem gX6_wrong_X0_firstWrong : GoodIn wsX6_wrong (wsV RX6 150 RX0 yX0_firstWrong wsX0_firstWrong) := goodIn_app (goodIn_of _ (by decide +kernel)) ggX6_wrong_X0_firstWrong
set_option maxRecDepth 20000 in
theorem ggX6_can_X2_hasDoor : GoodIn wsX6_can wsX2_hasDoor := goodIn_r _ [7, 8, 130, 131, 132, 133, 134] (by decide +kernel) (by decide +kernel)
set_option maxRecDepth 20000 in
theorem gX6_can_X2_hasDoor : GoodIn wsX6_can (wsV RX6 87 RX2 yX2_hasDoor wsX2_hasDoor) := goodIn_app (goodIn_of _ (by decide +kernel)) ggX6_can_X2_hasDoor
set_option maxRecDepth 20000 in
theorem ggX6_can_X0_findPlan : GoodIn wsX6_can wsX0_findPlan := goodIn_r _ [13, 14, 15, 16, 17, 18, 12, 19, 20, 21, 22, 23, 24, 25, 26, 27, 28, 29, 30, 31, 32, 33, 34, 35, 36, 37, 38, 39, 40, 41, 42, 43, 44, 45, 46, 47, 48, 49, 6, 50, 51, 52, 4, 5, 7, 8, 53, 54, 55, 56, 57, 58, 59, 60, 61, 62, 63, 64, 65, 66, 67, 68, 69, 70, 71, 72, 73, 74, 75, 76, 77, 78, 79, 80, 81, 82, 83, 84, 85, 86, 87, 88, 89, 90, 91, 92, 93, 94, 95, 96, 97, 98, 99, 100, 101, 102, 103, 104, 105, 106, 107, 108, 109, 110, 111, 112, 113, 114, 115, 116, 117, 118, 119, 120, 135, 136, 137, 138, 139, 140, 141, 142, 143, 144, 145, 130, 131, 132, 133, 134] (by decide +kernel) (by decide +kernel)
set_option maxRecDepth 20000 in
theorem gX6_can_X0_findPlan : GoodIn wsX6_can (wsV RX6 153 RX0 yX0_findPlan wsX0_findPlan) := goodIn_app (goodIn_of _ (by decide +kernel)) ggX6_can_X0_findPlan
set_option maxRecDepth 20000 in
theorem ggX6_plan_X2_hasBeat : GoodIn wsX6_plan wsX2_hasBeat := goodIn_r _ [8, 9, 10, 11, 12, 7, 13, 14, 133, 134, 135, 136, 137] (by decide +kernel) (by decide +kernel)
set_option maxRecDepth 20000 in
theorem gX6_plan_X2_hasBeat : GoodIn wsX6_plan (wsV RX6 94 RX2 yX2_hasBeat wsX2_hasBeat) := goodIn_app (goodIn_of _ (by decide +kernel)) ggX6_plan_X2_hasBeat
set_option maxRecDepth 20000 in
theorem ggX6_plan_X5_includes : GoodIn wsX6_plan wsX5_includes := goodIn_r _ [19, 20, 138, 139, 140] (by decide +kernel) (by decide +kernel)
set_option maxRecDepth 20000 in
theorem gX6_plan_X5_includes : GoodIn wsX6_plan (wsV RX6 125 RX5 yX5_includes wsX5_includes) := goodIn_app (goodIn_of _ (by decide +kernel)) ggX6_plan_X5_includes
set_option maxRecDepth 20000 in
theorem ggX6_plan_X0_findPlan : GoodIn wsX6_plan wsX0_findPlan := goodIn_r _ [25, 26, 27, 28, 29, 30, 24, 31, 32, 33, 34, 35, 36, 37, 38, 39, 40, 41, 42, 18, 43, 44, 45, 16, 17, 19, 20, 46, 47, 48, 49, 50, 51, 52, 53, 54, 55, 56, 7, 57, 9, 10, 11, 12, 13, 14, 58, 59, 60, 61, 62, 63, 64, 65, 66, 67, 68, 69, 70, 71, 5, 6, 8, 72, 73, 74, 75, 76, 77, 78, 79, 80, 81, 82, 83, 84, 85, 86, 87, 88, 89, 90, 91, 92, 93, 94, 95, 96, 97, 98, 99, 100, 101, 102, 103, 104, 105, 106, 107, 108, 109, 110, 111, 112, 113, 114, 115, 116, 117, 118, 119, 120, 121, 122, 141, 142, 143, 144, 145, 146, 147, 148, 138, 139, 140, 133, 134, 135, 136, 137] (by decide +kernel) (by decide +kernel)
set_option maxRecDepth 20000 in
theorem gX6_plan_X0_findPlan : GoodIn wsX6_plan (wsV RX6 153 RX0 yX0_findPlan wsX0_findPlan) := goodIn_app (goodIn_of _ (by decide +kernel)) ggX6_plan_X0_findPlan
set_option maxRecDepth 20000 in
theorem ggX6_plan_X0_stepOf : GoodIn wsX6_plan wsX0_stepOf := goodIn_r _ [91, 92, 141, 142, 143, 144, 145, 146, 147, 148] (by decide +kernel) (by decide +kernel)
set_option maxRecDepth 20000 in
theorem gX6_plan_X0_stepOf : GoodIn wsX6_plan (wsV RX6 157 RX0 yX0_stepOf wsX0_stepOf) := goodIn_app (goodIn_of _ (by decide +kernel)) ggX6_plan_X0_stepOf
set_option maxRecDepth 20000 in
theorem ggX6_limped_X2_hasDoor : GoodIn wsX6_limped wsX2_hasDoor := goodIn_r _ [7, 8, 143, 144, 145, 146, 147] (by decide +kernel) (by decide +kernel)
set_option maxRecDepth 20000 in
theorem gX6_limped_X2_hasDoor : GoodIn wsX6_limped (wsV RX6 87 RX2 yX2_hasDoor wsX2_hasDoor) := goodIn_app (goodIn_of _ (by decide +kernel)) ggX6_limped_X2_hasDoor
set_option maxRecDepth 20000 in
theorem ggX6_limped_X0_findPlan : GoodIn wsX6_limped wsX0_findPlan := goodIn_r _ [13, 14, 15, 16, 17, 18, 12, 19, 20, 21, 22, 23, 24, 25, 26, 27, 28, 29, 30, 31, 32, 33, 34, 35, 36, 37, 38, 39, 40, 41, 42, 43, 44, 45, 46, 47, 48, 49, 6, 50, 51, 52, 4, 5, 7, 8, 53, 54, 55, 56, 57, 58, 59, 60, 61, 62, 63, 64, 65, 66, 67, 68, 69, 70, 71, 72, 73, 74, 75, 76, 77, 78, 79, 80, 81, 82, 83, 84, 85, 86, 87, 88, 89, 90, 91, 92, 93, 94, 95, 96, 97, 98, 99, 100, 101, 102, 103, 104, 105, 106, 107, 108, 109, 110, 111, 112, 113, 114, 115, 116, 117, 118, 119, 120, 148, 149, 150, 151, 152, 153, 154, 155, 156, 157, 158, 143, 144, 145, 146, 147] (by decide +kernel) (by decide +kernel)
set_option maxRecDepth 20000 in
theorem gX6_limped_X0_findPlan : GoodIn wsX6_limped (wsV RX6 153 RX0 yX0_findPlan wsX0_findPlan) := goodIn_app (goodIn_of _ (by decide +kernel)) ggX6_limped_X0_findPlan
set_option maxRecDepth 20000 in
theorem ggX6_limped_X2_beatsOf : GoodIn wsX6_limped wsX2_beatsOf := goodIn_r _ [50, 51, 52, 4, 5, 6, 7, 8, 143, 144, 145, 146, 147] (by decide +kernel) (by decide +kernel)
set_option maxRecDepth 20000 in
theorem gX6_limped_X2_beatsOf : GoodIn wsX6_limped (wsV RX6 90 RX2 yX2_beatsOf wsX2_beatsOf) := goodIn_app (goodIn_of _ (by decide +kernel)) ggX6_limped_X2_beatsOf
set_option maxRecDepth 20000 in
theorem ggX6_limped_X0_doorOpened : GoodIn wsX6_limped wsX0_doorOpened := goodIn_r _ [125, 14, 47, 48, 49, 6, 50, 51, 52, 4, 5, 7, 8, 126, 127, 128, 12, 129, 130, 131, 132, 133, 25, 16, 17, 18, 19, 20, 21, 22, 23, 24, 26, 27, 28, 29, 30, 31, 32, 33, 34, 35, 36, 37, 38, 39, 40, 41, 42, 43, 44, 45, 46, 74, 75, 76, 77, 78, 79, 80, 55, 81, 82, 83, 84, 85, 86, 87, 88, 89, 90, 91, 92, 93, 94, 95, 96, 97, 98, 99, 100, 101, 102, 103, 61, 62, 63, 64, 65, 66, 67, 68, 69, 148, 149, 150, 151, 152, 153, 154, 155, 143, 144, 145, 146, 147, 156, 157, 158] (by decide +kernel) (by decide +kernel)
set_option maxRecDepth 20000 in
theorem gX6_limped_X0_doorOpened : GoodIn wsX6_limped (wsV RX6 141 RX0 yX0_doorOpened wsX0_doorOpened) := goodIn_app (goodIn_of _ (by decide +kernel)) ggX6_limped_X0_doorOpened
set_option maxRecDepth 20000 in
theorem ggX6_plans_X2_hasBeat : GoodIn wsX6_plans wsX2_hasBeat := goodIn_r _ [8, 9, 10, 11, 12, 7, 13, 14, 114, 115, 116, 117, 118] (by decide +kernel) (by decide +kernel)
set_option maxRecDepth 20000 in
theorem gX6_plans_X2_hasBeat : GoodIn wsX6_plans (wsV RX6 94 RX2 yX2_hasBeat wsX2_hasBeat) := goodIn_app (goodIn_of _ (by decide +kernel)) ggX6_plans_X2_hasBeat
set_option maxRecDepth 20000 in
theorem ggX6_plans_X2_figureAt : GoodIn wsX6_plans wsX2_figureAt := goodIn_r _ [18, 19, 20, 5, 6, 7, 8, 9, 10, 11, 12, 13, 14, 114, 115, 116, 117, 118] (by decide +kernel) (by decide +kernel)
set_option maxRecDepth 20000 in
theorem gX6_plans_X2_figureAt : GoodIn wsX6_plans (wsV RX6 98 RX2 yX2_figureAt wsX2_figureAt) := goodIn_app (goodIn_of _ (by decide +kernel)) ggX6_plans_X2_figureAt
set_option maxRecDepth 20000 in
theorem ggX6_plans_X0_rowsFor : GoodIn wsX6_plans wsX0_rowsFor := goodIn_r _ [25, 26, 27, 28, 24, 29, 30, 31, 32, 33, 34, 35, 36, 37, 38, 39, 40, 41, 42, 43, 44, 45, 46, 47, 48, 49, 50, 51, 52, 53, 54, 55, 56, 57, 58, 59, 60, 61, 62, 63, 64, 65, 66, 67, 68, 69, 70, 71, 72, 73, 74, 75, 76, 77, 78, 79, 80, 81, 82, 83, 84, 85, 86, 7, 87, 88, 89, 90, 91, 92, 93, 94, 95, 96, 97, 98, 99, 100, 101, 102, 103, 104, 119, 120, 121, 122, 123, 124, 125, 126, 127, 128, 129, 114, 115, 116, 117, 118] (by decide +kernel) (by decide +kernel)
set_option maxRecDepth 20000 in
theorem gX6_plans_X0_rowsFor : GoodIn wsX6_plans (wsV RX6 211 RX0 yX0_rowsFor wsX0_rowsFor) := goodIn_app (goodIn_of _ (by decide +kernel)) ggX6_plans_X0_rowsFor
set_option maxRecDepth 20000 in
theorem ggX6_sheet_X3_includes : GoodIn wsX6_sheet wsX3_includes := goodIn_r _ [7] (by decide +kernel) (by decide +kernel)
set_option maxRecDepth 20000 in
theorem gX6_sheet_X3_includes : GoodIn wsX6_sheet (wsV RX6 217 RX3 yX3_includes wsX3_includes) := goodIn_app (goodIn_of _ (by decide +kernel)) ggX6_sheet_X3_includes
set_option maxRecDepth 20000 in
theorem ggX6_sheet_X6_faulted : GoodIn wsX6_sheet wsX6_faulted := goodIn_r _ [12, 1, 28, 29, 30, 31, 32, 33, 34, 35, 36] (by decide +kernel) (by decide +kernel)
set_option maxRecDepth 20000 in
theorem gX6_sheet_X6_faulted : GoodIn wsX6_sheet (wsV RX6 218 RX6 yX6_faulted wsX6_faulted) := goodIn_app (goodIn_of _ (by decide +kernel)) ggX6_sheet_X6_faulted
set_option maxRecDepth 20000 in
theorem ggX6_sheet_X3_renew : GoodIn wsX6_sheet wsX3_renew := goodIn_r _ [16, 17, 18, 19, 20, 4, 5, 6, 7, 21, 22, 23, 24, 25, 26, 27, 37, 38, 39] (by decide +kernel) (by decide +kernel)
set_option maxRecDepth 20000 in
theorem gX6_sheet_X3_renew : GoodIn wsX6_sheet (wsV RX6 221 RX3 yX3_renew wsX3_renew) := goodIn_app (goodIn_of _ (by decide +kernel)) ggX6_sheet_X3_renew
set_option maxRecDepth 20000 in
theorem ggX6_put_X3_includes : GoodIn wsX6_put wsX3_includes := goodIn_r _ [7] (by decide +kernel) (by decide +kernel)
set_option maxRecDepth 20000 in
theorem gX6_put_X3_includes : GoodIn wsX6_put (wsV RX6 217 RX3 yX3_includes wsX3_includes) := goodIn_app (goodIn_of _ (by decide +kernel)) ggX6_put_X3_includes
set_option maxRecDepth 20000 in
theorem ggX6_put_X3_sortOf : GoodIn wsX6_put wsX3_sortOf := goodIn_r _ [11, 12, 13, 4, 5, 6, 7, 55, 56, 57] (by decide +kernel) (by decide +kernel)
set_option maxRecDepth 20000 in
theorem gX6_put_X3_sortOf : GoodIn wsX6_put (wsV RX6 232 RX3 yX3_sortOf wsX3_sortOf) := goodIn_app (goodIn_of _ (by decide +kernel)) ggX6_put_X3_sortOf
set_option maxRecDepth 20000 in
theorem ggX6_put_X3_faultOfCells : GoodIn wsX6_put wsX3_faultOfCells := goodIn_r _ [17, 18, 19, 20, 6, 21, 22, 9, 10, 11, 12, 13, 4, 5, 7, 23, 24, 25, 26, 27, 28, 29, 30, 31, 55, 56, 57] (by decide +kernel) (by decide +kernel)
set_option maxRecDepth 20000 in
theorem gX6_put_X3_faultOfCells : GoodIn wsX6_put (wsV RX6 235 RX3 yX3_faultOfCells wsX3_faultOfCells) := goodIn_app (goodIn_of _ (by decide +kernel)) ggX6_put_X3_faultOfCells
set_option maxRecDepth 20000 in
theorem ggX6_put_X6_faulted : GoodIn wsX6_put wsX6_faulted := goodIn_r _ [36, 1, 46, 47, 48, 49, 50, 51, 52, 53, 54] (by decide +kernel) (by decide +kernel)
set_option maxRecDepth 20000 in
theorem gX6_put_X6_faulted : GoodIn wsX6_put (wsV RX6 218 RX6 yX6_faulted wsX6_faulted) := goodIn_app (goodIn_of _ (by decide +kernel)) ggX6_put_X6_faulted
set_option maxRecDepth 20000 in
theorem ggX6_put_X3_write : GoodIn wsX6_put wsX3_write := goodIn_r _ [40, 41, 23, 24, 25, 6, 26, 27, 28, 29, 30, 31, 13, 4, 5, 7, 22, 9, 10, 11, 12, 42, 43, 44, 45, 55, 56, 57] (by decide +kernel) (by decide +kernel)
set_option maxRecDepth 20000 in
theorem gX6_put_X3_write : GoodIn wsX6_put (wsV RX6 239 RX3 yX3_write wsX3_write) := goodIn_app (goodIn_of _ (by decide +kernel)) ggX6_put_X3_write
set_option maxRecDepth 20000 in
theorem ggX6_takeRow_X3_includes : GoodIn wsX6_takeRow wsX3_includes := goodIn_r _ [8] (by decide +kernel) (by decide +kernel)
set_option maxRecDepth 20000 in
theorem gX6_takeRow_X3_includes : GoodIn wsX6_takeRow (wsV RX6 217 RX3 yX3_includes wsX3_includes) := goodIn_app (goodIn_of _ (by decide +kernel)) ggX6_takeRow_X3_includes
set_option maxRecDepth 20000 in
theorem ggX6_takeRow_X3_faultOfCells : GoodIn wsX6_takeRow wsX3_faultOfCells := goodIn_r _ [12, 13, 14, 15, 7, 16, 17, 18, 19, 20, 21, 22, 5, 6, 8, 23, 24, 25, 26, 27, 28, 29, 30, 31, 55, 56, 57] (by decide +kernel) (by decide +kernel)
set_option maxRecDepth 20000 in
theorem gX6_takeRow_X3_faultOfCells : GoodIn wsX6_takeRow (wsV RX6 235 RX3 yX3_faultOfCells wsX3_faultOfCells) := goodIn_app (goodIn_of _ (by decide +kernel)) ggX6_takeRow_X3_faultOfCells
set_option maxRecDepth 20000 in
theorem ggX6_takeRow_X6_faulted : GoodIn wsX6_takeRow wsX6_faulted := goodIn_r _ [36, 1, 46, 47, 48, 49, 50, 51, 52, 53, 54] (by decide +kernel) (by decide +kernel)
set_option maxRecDepth 20000 in
theorem gX6_takeRow_X6_faulted : GoodIn wsX6_takeRow (wsV RX6 218 RX6 yX6_faulted wsX6_faulted) := goodIn_app (goodIn_of _ (by decide +kernel)) ggX6_takeRow_X6_faulted
set_option maxRecDepth 20000 in
theorem ggX6_takeRow_X3_readInto : GoodIn wsX6_takeRow wsX3_readInto := goodIn_r _ [40, 41, 42, 43, 44, 45, 23, 24, 25, 7, 26, 27, 28, 29, 30, 31, 22, 5, 6, 8, 55, 56, 57] (by decide +kernel) (by decide +kernel)
set_option maxRecDepth 20000 in
theorem gX6_takeRow_X3_readInto : GoodIn wsX6_takeRow (wsV RX6 271 RX3 yX3_readInto wsX3_readInto) := goodIn_app (goodIn_of _ (by decide +kernel)) ggX6_takeRow_X3_readInto
set_option maxRecDepth 20000 in
theorem ggX6_takePlan_X6_takeRow : GoodIn wsX6_takePlan wsX6_takeRow := goodIn_r _ [9, 10, 11, 4, 12, 13, 14, 15, 16, 17, 18, 19, 20, 21, 22, 23, 24, 25, 26, 27, 28, 29, 30, 31, 32, 33, 34, 35, 36, 37, 38, 39, 40, 41, 42, 8, 43, 44, 45, 46, 47, 48, 49, 50, 51, 52, 76, 77, 78, 79, 80, 81, 82, 83, 84, 88, 89, 90] (by decide +kernel) (by decide +kernel)
set_option maxRecDepth 20000 in
theorem gX6_takePlan_X6_takeRow : GoodIn wsX6_takePlan (wsV RX6 53 RX6 yX6_takeRow wsX6_takeRow) := goodIn_app (goodIn_of _ (by decide +kernel)) ggX6_takePlan_X6_takeRow
set_option maxRecDepth 20000 in
theorem ggX6_takePlan_X2_stands : GoodIn wsX6_takePlan wsX2_stands := goodIn_r _ [57, 58, 91, 92, 93, 94, 95] (by decide +kernel) (by decide +kernel)
set_option maxRecDepth 20000 in
theorem gX6_takePlan_X2_stands : GoodIn wsX6_takePlan (wsV RX6 115 RX2 yX2_stands wsX2_stands) := goodIn_app (goodIn_of _ (by decide +kernel)) ggX6_takePlan_X2_stands
set_option maxRecDepth 20000 in
theorem ggX6_takePlan_X0_learn : GoodIn wsX6_takePlan wsX0_learn := goodIn_r _ [63, 64, 65, 66, 67, 68, 56, 69, 70, 71, 72, 73, 62, 74, 75, 96, 97, 98, 99, 100, 101, 102, 103, 85, 86, 87, 91, 92, 93, 94, 95] (by decide +kernel) (by decide +kernel)
set_option maxRecDepth 20000 in
theorem gX6_takePlan_X0_learn : GoodIn wsX6_takePlan (wsV RX6 275 RX0 yX0_learn wsX0_learn) := goodIn_app (goodIn_of _ (by decide +kernel)) ggX6_takePlan_X0_learn
set_option maxRecDepth 20000 in
theorem ggJ7_fill_fda19_J7_rangeCheck_23922 : GoodIn wsJ7_fill_fda19 wsJ7_rangeCheck_23922 := goodIn_r _ [4] (by decide +kernel) (by decide +kernel)
set_option maxRecDepth 20000 in
theorem gJ7_fill_fda19_J7_rangeCheck_23922 : GoodIn wsJ7_fill_fda19 (va_wsS RJ7 13 yJ7_rangeCheck_23922 wsJ7_rangeCheck_23922) := goodIn_app (goodIn_of _ (by decide +kernel)) ggJ7_fill_fda19_J7_rangeCheck_23922
set_option maxRecDepth 20000 in
theorem ggL_put_L_cell : GoodIn wsL_put wsL_cell := goodIn_r _ [4, 5] (by decide +kernel) (by decide +kernel)
set_option maxRecDepth 20000 in
theorem gL_put_L_cell : GoodIn wsL_put (va_wsS RL 9 yL_cell wsL_cell) := goodIn_app (goodIn_of _ (by decide +kernel)) ggL_put_L_cell
set_option maxRecDepth 20000 in
theorem ggL_put_L_some : GoodIn wsL_put wsL_some := goodIn_r _ [8, 9] (by decide +kernel) (by decide +kernel)
set_option maxRecDepth 20000 in
theorem gL_put_L_some : GoodIn wsL_put (va_wsS RL 15 yL_some wsL_some) := goodIn_app (goodIn_of _ (by decide +kernel)) ggL_put_L_some
set_option maxRecDepth 20000 in
theorem ggL_put_X6_sheet : GoodIn wsL_put wsX6_sheet := goodIn_r _ [14, 15, 16, 17, 18, 19, 20, 21, 22, 23, 24, 13, 25, 26, 27, 28, 29, 30, 31, 32, 33, 34, 35, 36, 37, 38, 39, 40, 74, 75, 76, 77, 78, 79, 80, 81, 82, 83, 84, 85] (by decide +kernel) (by decide +kernel)
set_option maxRecDepth 20000 in
theorem gL_put_X6_sheet : GoodIn wsL_put (wsV RL 19 RX6 yX6_sheet wsX6_sheet) := goodIn_app (goodIn_of _ (by decide +kernel)) ggL_put_X6_sheet
set_option maxRecDepth 20000 in
theorem ggL_put_X6_put : GoodIn wsL_put wsX6_put := goodIn_r _ [44, 15, 16, 17, 18, 19, 20, 21, 45, 46, 47, 48, 30, 33, 49, 50, 51, 52, 53, 54, 55, 56, 57, 58, 59, 60, 61, 62, 63, 64, 65, 31, 22, 23, 24, 13, 25, 66, 67, 68, 69, 32, 70, 71, 72, 73, 74, 75, 76, 77, 78, 79, 80, 81, 82, 83, 84, 85] (by decide +kernel) (by decide +kernel)
set_option maxRecDepth 20000 in
theorem gL_put_X6_put : GoodIn wsL_put (wsV RL 25 RX6 yX6_put wsX6_put) := goodIn_app (goodIn_of _ (by decide +kernel)) ggL_put_X6_put
set_option maxRecDepth 20000 in
theorem ggL_dancer_L_some : GoodIn wsL_dancer wsL_some := goodIn_r _ [4, 5] (by decide +kernel) (by decide +kernel)
set_option maxRecDepth 20000 in
theorem gL_dancer_L_some : GoodIn wsL_dancer (va_wsS RL 15 yL_some wsL_some) := goodIn_app (goodIn_of _ (by decide +kernel)) ggL_dancer_L_some
set_option maxRecDepth 20000 in
theorem ggL_dancer_X6_dancer : GoodIn wsL_dancer wsX6_dancer := goodIn_r _ [10, 11, 12, 13, 14, 15, 16, 17, 18, 19, 20, 21, 22, 23, 24, 25, 26, 27, 28, 29, 30, 31, 32, 33, 34, 35, 36, 37, 38, 39, 40, 41, 42, 43, 44, 45, 46, 47, 48] (by decide +kernel) (by decide +kernel)
set_option maxRecDepth 20000 in
theorem gL_dancer_X6_dancer : GoodIn wsL_dancer (wsV RL 28 RX6 yX6_dancer wsX6_dancer) := goodIn_app (goodIn_of _ (by decide +kernel)) ggL_dancer_X6_dancer
set_option maxRecDepth 20000 in
theorem ggL_opened_L_felt : GoodIn wsL_opened wsL_felt := goodIn_r _ [4] (by decide +kernel) (by decide +kernel)
set_option maxRecDepth 20000 in
theorem gL_opened_L_felt : GoodIn wsL_opened (va_wsS RL 31 yL_felt wsL_felt) := goodIn_app (goodIn_of _ (by decide +kernel)) ggL_opened_L_felt
