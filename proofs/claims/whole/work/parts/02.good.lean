set_option maxRecDepth 20000 in
theorem ggX0_init_X2_init : GoodIn wsX0_init wsX2_init := goodIn_r _ [21, 22, 2, 3, 12, 23, 24, 25, 31, 32, 33, 34, 35] (by decide +kernel) (by decide +kernel)
set_option maxRecDepth 20000 in
theorem gX0_init_X2_init_n11 : GoodIn wsX0_init (wsX2_init) := ggX0_init_X2_init
set_option maxRecDepth 20000 in
theorem ggX0_init_X5_init : GoodIn wsX0_init wsX5_init := goodIn_r _ [27, 28, 2, 3, 12, 29, 30, 44, 45, 46] (by decide +kernel) (by decide +kernel)
set_option maxRecDepth 20000 in
theorem gX0_init_X5_init_n20 : GoodIn wsX0_init (wsX5_init) := ggX0_init_X5_init
set_option maxRecDepth 20000 in
theorem ggX0_callUp_X5_kindOf : GoodIn wsX0_callUp wsX5_kindOf := goodIn_r _ [13, 14, 15, 16, 17, 12, 18, 19, 36, 37, 38] (by decide +kernel) (by decide +kernel)
set_option maxRecDepth 20000 in
theorem gX0_callUp_X5_kindOf : GoodIn wsX0_callUp (wsV RX0 56 RX5 yX5_kindOf wsX5_kindOf) := goodIn_app (goodIn_of _ (by decide +kernel)) ggX0_callUp_X5_kindOf
set_option maxRecDepth 20000 in
theorem ggX0_callUp_X5_weightOf : GoodIn wsX0_callUp wsX5_weightOf := goodIn_r _ [23, 24, 15, 16, 17, 12, 18, 19, 36, 37, 38] (by decide +kernel) (by decide +kernel)
set_option maxRecDepth 20000 in
theorem gX0_callUp_X5_weightOf : GoodIn wsX0_callUp (wsV RX0 60 RX5 yX5_weightOf wsX5_weightOf) := goodIn_app (goodIn_of _ (by decide +kernel)) ggX0_callUp_X5_weightOf
set_option maxRecDepth 20000 in
theorem ggX0_callUp_X5_pull : GoodIn wsX0_callUp wsX5_pull := goodIn_r _ [27] (by decide +kernel) (by decide +kernel)
set_option maxRecDepth 20000 in
theorem gX0_callUp_X5_pull : GoodIn wsX0_callUp (va_wsS RX0 63 yX5_pull wsX5_pull) := goodIn_app (goodIn_of _ (by decide +kernel)) ggX0_callUp_X5_pull
set_option maxRecDepth 20000 in
theorem ggX0_learn_X2_hasBoard : GoodIn wsX0_learn wsX2_hasBoard := goodIn_r _ [7, 8, 26, 27, 28, 29, 30] (by decide +kernel) (by decide +kernel)
set_option maxRecDepth 20000 in
theorem gX0_learn_X2_hasBoard : GoodIn wsX0_learn (wsV RX0 66 RX2 yX2_hasBoard wsX2_hasBoard) := goodIn_app (goodIn_of _ (by decide +kernel)) ggX0_learn_X2_hasBoard
set_option maxRecDepth 20000 in
theorem ggX0_learn_X0_step : GoodIn wsX0_learn wsX0_step := goodIn_r _ [13, 14, 15, 16, 17, 18, 19, 20, 21, 22] (by decide +kernel) (by decide +kernel)
set_option maxRecDepth 20000 in
theorem gX0_learn_X0_step : GoodIn wsX0_learn (wsV RX0 70 RX0 yX0_step wsX0_step) := goodIn_app (goodIn_of _ (by decide +kernel)) ggX0_learn_X0_step
set_option maxRecDepth 20000 in
theorem ggX0_doorOpened_X2_beatsOf : GoodIn wsX0_doorOpened wsX2_beatsOf := goodIn_r _ [6, 7, 8, 9, 10, 5, 11, 12, 101, 102, 103, 104, 105] (by decide +kernel) (by decide +kernel)
set_option maxRecDepth 20000 in
theorem gX0_doorOpened_X2_beatsOf : GoodIn wsX0_doorOpened (wsV RX0 77 RX2 yX2_beatsOf wsX2_beatsOf) := goodIn_app (goodIn_of _ (by decide +kernel)) ggX0_doorOpened_X2_beatsOf
set_option maxRecDepth 20000 in
theorem ggX0_doorOpened_X0_firstWrong : GoodIn wsX0_doorOpened wsX0_firstWrong := goodIn_r _ [17, 1, 2, 3, 4, 5, 6, 7, 8, 9, 10, 11, 12, 18, 19, 20, 16, 21, 22, 23, 24, 25, 26, 27, 28, 29, 30, 31, 32, 33, 34, 35, 36, 37, 38, 39, 40, 41, 42, 43, 44, 45, 46, 47, 48, 49, 50, 51, 52, 53, 54, 55, 56, 57, 58, 59, 60, 61, 62, 63, 64, 65, 66, 67, 68, 69, 70, 71, 72, 73, 74, 75, 76, 77, 78, 79, 80, 81, 82, 83, 84, 85, 86, 87, 88, 89, 90, 91, 92, 93, 94, 95, 96, 97, 98, 99, 100, 101, 102, 103, 104, 105, 106, 107, 108] (by decide +kernel) (by decide +kernel)
set_option maxRecDepth 20000 in
theorem gX0_doorOpened_X0_firstWrong : GoodIn wsX0_doorOpened (wsV RX0 80 RX0 yX0_firstWrong wsX0_firstWrong) := goodIn_app (goodIn_of _ (by decide +kernel)) ggX0_doorOpened_X0_firstWrong
set_option maxRecDepth 20000 in
theorem ggX0_firstWrong_X2_beatsOf : GoodIn wsX0_firstWrong wsX2_beatsOf := goodIn_r _ [6, 7, 8, 9, 10, 5, 11, 12, 97, 98, 99, 100, 101] (by decide +kernel) (by decide +kernel)
set_option maxRecDepth 20000 in
theorem gX0_firstWrong_X2_beatsOf : GoodIn wsX0_firstWrong (wsV RX0 77 RX2 yX2_beatsOf wsX2_beatsOf) := goodIn_app (goodIn_of _ (by decide +kernel)) ggX0_firstWrong_X2_beatsOf
set_option maxRecDepth 20000 in
theorem ggX0_firstWrong_X0_feltIn : GoodIn wsX0_firstWrong wsX0_feltIn := goodIn_r _ [17, 18, 1, 19, 20, 21, 16, 22, 23, 24, 25, 26, 27, 28, 29, 30, 31, 32, 33, 34, 35, 36, 37, 38, 39, 40, 41, 42, 43, 44, 45, 46, 47, 48, 49, 50, 51, 52, 53, 54, 55, 56, 57, 58, 59, 60, 61, 62, 63, 64, 65, 66, 67, 68, 69, 5, 70, 71, 72, 73, 74, 75, 76, 77, 78, 79, 89, 90, 91, 92, 93, 94, 95, 96, 97, 98, 99, 100, 101, 102, 103, 104] (by decide +kernel) (by decide +kernel)
set_option maxRecDepth 20000 in
theorem gX0_firstWrong_X0_feltIn : GoodIn wsX0_firstWrong (wsV RX0 83 RX0 yX0_feltIn wsX0_feltIn) := goodIn_app (goodIn_of _ (by decide +kernel)) ggX0_firstWrong_X0_feltIn
set_option maxRecDepth 20000 in
theorem ggX0_firstWrong_X2_figureAt : GoodIn wsX0_firstWrong wsX2_figureAt := goodIn_r _ [83, 84, 85, 86, 87, 5, 88, 7, 8, 9, 10, 11, 12, 97, 98, 99, 100, 101] (by decide +kernel) (by decide +kernel)
set_option maxRecDepth 20000 in
theorem gX0_firstWrong_X2_figureAt : GoodIn wsX0_firstWrong (wsV RX0 86 RX2 yX2_figureAt wsX2_figureAt) := goodIn_app (goodIn_of _ (by decide +kernel)) ggX0_firstWrong_X2_figureAt
set_option maxRecDepth 20000 in
theorem ggX0_feltIn_X0_callUp : GoodIn wsX0_feltIn wsX0_callUp := goodIn_r _ [7, 8, 9, 10, 11, 12, 1, 13, 14, 15, 16, 17, 18, 19, 20, 21, 22, 23, 24, 25, 26, 27, 28, 29, 30, 31, 32, 33, 66, 67, 68, 69, 70, 71, 72, 73, 79, 80, 81] (by decide +kernel) (by decide +kernel)
set_option maxRecDepth 20000 in
theorem gX0_feltIn_X0_callUp : GoodIn wsX0_feltIn (wsV RX0 89 RX0 yX0_callUp wsX0_callUp) := goodIn_app (goodIn_of _ (by decide +kernel)) ggX0_feltIn_X0_callUp
set_option maxRecDepth 20000 in
theorem ggX0_feltIn_X0_load : GoodIn wsX0_feltIn wsX0_load := goodIn_r _ [37, 38, 1, 2, 39, 40, 41, 42, 43, 44, 45, 6, 46, 14, 47, 48, 49, 50, 51, 52, 53, 54, 55, 56, 57, 58, 59, 60, 61, 13, 66, 67, 68, 69, 70, 71, 72, 73, 74, 75, 76, 77, 78] (by decide +kernel) (by decide +kernel)
set_option maxRecDepth 20000 in
theorem gX0_feltIn_X0_load : GoodIn wsX0_feltIn (wsV RX0 93 RX0 yX0_load wsX0_load) := goodIn_app (goodIn_of _ (by decide +kernel)) ggX0_feltIn_X0_load
set_option maxRecDepth 20000 in
theorem ggX0_feltIn_X0_missingOn : GoodIn wsX0_feltIn wsX0_missingOn := goodIn_r _ [65, 2, 38, 52, 53, 54, 55, 56, 57, 66, 67, 68, 69, 70, 71, 72, 73, 74, 75, 76, 77, 78] (by decide +kernel) (by decide +kernel)
set_option maxRecDepth 20000 in
theorem gX0_feltIn_X0_missingOn : GoodIn wsX0_feltIn (wsV RX0 100 RX0 yX0_missingOn wsX0_missingOn) := goodIn_app (goodIn_of _ (by decide +kernel)) ggX0_feltIn_X0_missingOn
set_option maxRecDepth 20000 in
theorem ggX0_missingOn_X2_hasBoard : GoodIn wsX0_missingOn wsX2_hasBoard := goodIn_r _ [7, 8, 17, 18, 19, 20, 21] (by decide +kernel) (by decide +kernel)
set_option maxRecDepth 20000 in
theorem gX0_missingOn_X2_hasBoard : GoodIn wsX0_missingOn (wsV RX0 66 RX2 yX2_hasBoard wsX2_hasBoard) := goodIn_app (goodIn_of _ (by decide +kernel)) ggX0_missingOn_X2_hasBoard
set_option maxRecDepth 20000 in
theorem ggX0_load_J7_fill_53178 : GoodIn wsX0_load wsJ7_fill_53178 := goodIn_r _ [7] (by decide +kernel) (by decide +kernel)
set_option maxRecDepth 20000 in
theorem gX0_load_J7_fill_53178 : GoodIn wsX0_load (va_wsS RX0 106 yJ7_fill_53178 wsJ7_fill_53178) := goodIn_app (goodIn_of _ (by decide +kernel)) ggX0_load_J7_fill_53178
set_option maxRecDepth 20000 in
theorem ggX0_load_X0_isBound : GoodIn wsX0_load wsX0_isBound := goodIn_r _ [12, 2, 13, 30, 31, 32, 33, 34, 35, 36, 37] (by decide +kernel) (by decide +kernel)
set_option maxRecDepth 20000 in
theorem gX0_load_X0_isBound : GoodIn wsX0_load (wsV RX0 112 RX0 yX0_isBound wsX0_isBound) := goodIn_app (goodIn_of _ (by decide +kernel)) ggX0_load_X0_isBound
set_option maxRecDepth 20000 in
theorem ggX0_load_X0_stepOf : GoodIn wsX0_load wsX0_stepOf := goodIn_r _ [17, 18, 30, 31, 32, 33, 34, 35, 36, 37] (by decide +kernel) (by decide +kernel)
set_option maxRecDepth 20000 in
theorem gX0_load_X0_stepOf : GoodIn wsX0_load (wsV RX0 116 RX0 yX0_stepOf wsX0_stepOf) := goodIn_app (goodIn_of _ (by decide +kernel)) ggX0_load_X0_stepOf
set_option maxRecDepth 20000 in
theorem ggX0_load_X2_hasBoard : GoodIn wsX0_load wsX2_hasBoard := goodIn_r _ [23, 24, 38, 39, 40, 41, 42] (by decide +kernel) (by decide +kernel)
set_option maxRecDepth 20000 in
theorem gX0_load_X2_hasBoard : GoodIn wsX0_load (wsV RX0 66 RX2 yX2_hasBoard wsX2_hasBoard) := goodIn_app (goodIn_of _ (by decide +kernel)) ggX0_load_X2_hasBoard
set_option maxRecDepth 20000 in
theorem ggX0_load_X0_pullOf : GoodIn wsX0_load wsX0_pullOf := goodIn_r _ [28, 2, 29, 30, 31, 32, 33, 34, 35, 36, 37] (by decide +kernel) (by decide +kernel)
set_option maxRecDepth 20000 in
theorem gX0_load_X0_pullOf : GoodIn wsX0_load (wsV RX0 119 RX0 yX0_pullOf wsX0_pullOf) := goodIn_app (goodIn_of _ (by decide +kernel)) ggX0_load_X0_pullOf
set_option maxRecDepth 20000 in
theorem ggX0_findPlan_X0_callUp : GoodIn wsX0_findPlan wsX0_callUp := goodIn_r _ [7, 8, 9, 10, 11, 12, 13, 14, 15, 16, 17, 18, 19, 20, 21, 22, 23, 24, 25, 26, 27, 28, 29, 30, 31, 32, 33, 34, 114, 115, 116, 117, 118, 119, 120, 121, 122, 123, 124] (by decide +kernel) (by decide +kernel)
set_option maxRecDepth 20000 in
theorem gX0_findPlan_X0_callUp : GoodIn wsX0_findPlan (wsV RX0 89 RX0 yX0_callUp wsX0_callUp) := goodIn_app (goodIn_of _ (by decide +kernel)) ggX0_findPlan_X0_callUp
set_option maxRecDepth 20000 in
theorem ggX0_findPlan_X2_beatsOf : GoodIn wsX0_findPlan wsX2_beatsOf := goodIn_r _ [39, 40, 41, 42, 43, 38, 44, 45, 125, 126, 127, 128, 129] (by decide +kernel) (by decide +kernel)
set_option maxRecDepth 20000 in
theorem gX0_findPlan_X2_beatsOf : GoodIn wsX0_findPlan (wsV RX0 77 RX2 yX2_beatsOf wsX2_beatsOf) := goodIn_app (goodIn_of _ (by decide +kernel)) ggX0_findPlan_X2_beatsOf
set_option maxRecDepth 20000 in
theorem ggX0_findPlan_J7_fill_d0a16 : GoodIn wsX0_findPlan wsJ7_fill_d0a16 := goodIn_r _ [49] (by decide +kernel) (by decide +kernel)
set_option maxRecDepth 20000 in
theorem gX0_findPlan_J7_fill_d0a16 : GoodIn wsX0_findPlan (va_wsS RX0 122 yJ7_fill_d0a16 wsJ7_fill_d0a16) := goodIn_app (goodIn_of _ (by decide +kernel)) ggX0_findPlan_J7_fill_d0a16
set_option maxRecDepth 20000 in
theorem ggX0_findPlan_X0_place : GoodIn wsX0_findPlan wsX0_place := goodIn_r _ [53, 1, 13, 54, 55, 56, 38, 57, 58, 59, 60, 61, 62, 40, 41, 42, 43, 44, 45, 63, 64, 65, 6, 66, 67, 68, 69, 70, 71, 72, 73, 48, 74, 75, 76, 77, 78, 15, 79, 80, 81, 82, 83, 84, 85, 86, 87, 88, 89, 90, 91, 92, 14, 93, 94, 95, 96, 97, 98, 99, 100, 101, 102, 103, 104, 105, 106, 107, 108, 50, 51, 52, 109, 2, 110, 111, 112, 113, 114, 115, 116, 117, 118, 119, 120, 121, 125, 126, 127, 128, 129] (by decide +kernel) (by decide +kernel)
set_option maxRecDepth 20000 in
theorem gX0_findPlan_X0_place : GoodIn wsX0_findPlan (wsV RX0 125 RX0 yX0_place wsX0_place) := goodIn_app (goodIn_of _ (by decide +kernel)) ggX0_findPlan_X0_place
set_option maxRecDepth 20000 in
theorem ggX0_place_X2_figureAt : GoodIn wsX0_place wsX2_figureAt := goodIn_r _ [7, 8, 9, 10, 11, 6, 12, 13, 14, 15, 16, 17, 18, 86, 87, 88, 89, 90] (by decide +kernel) (by decide +kernel)
set_option maxRecDepth 20000 in
theorem gX0_place_X2_figureAt : GoodIn wsX0_place (wsV RX0 86 RX2 yX2_figureAt wsX2_figureAt) := goodIn_app (goodIn_of _ (by decide +kernel)) ggX0_place_X2_figureAt
set_option maxRecDepth 20000 in
theorem ggX0_place_X0_isOpen : GoodIn wsX0_place wsX0_isOpen := goodIn_r _ [23, 1, 24, 25, 26, 22, 27, 28, 2, 29, 30, 31, 32, 33, 34, 35, 36, 37, 38, 39, 40, 41, 42, 43, 44, 45, 6, 46, 47, 48, 49, 50, 51, 52, 53, 54, 55, 56, 57, 58, 59, 60, 78, 79, 80, 81, 82, 83, 84, 85, 86, 87, 88, 89, 90] (by decide +kernel) (by decide +kernel)
set_option maxRecDepth 20000 in
theorem gX0_place_X0_isOpen : GoodIn wsX0_place (wsV RX0 129 RX0 yX0_isOpen wsX0_isOpen) := goodIn_app (goodIn_of _ (by decide +kernel)) ggX0_place_X0_isOpen
set_option maxRecDepth 20000 in
theorem ggX0_place_X2_hasBeat : GoodIn wsX0_place wsX2_hasBeat := goodIn_r _ [12, 13, 14, 15, 16, 6, 17, 18, 86, 87, 88, 89, 90] (by decide +kernel) (by decide +kernel)
set_option maxRecDepth 20000 in
theorem gX0_place_X2_hasBeat : GoodIn wsX0_place (wsV RX0 132 RX2 yX2_hasBeat wsX2_hasBeat) := goodIn_app (goodIn_of _ (by decide +kernel)) ggX0_place_X2_hasBeat
set_option maxRecDepth 20000 in
theorem ggX0_place_X0_placeBehind : GoodIn wsX0_place wsX0_placeBehind := goodIn_r _ [72, 73, 74, 75, 76, 22, 77, 2, 33, 34, 35, 36, 37, 38, 39, 40, 41, 42, 69, 70, 71, 0, 1, 3, 4, 5, 6, 7, 8, 9, 10, 11, 12, 13, 14, 15, 16, 17, 18, 19, 20, 21, 23, 24, 25, 26, 27, 28, 29, 30, 31, 32, 43, 44, 45, 46, 47, 48, 49, 50, 51, 52, 53, 54, 55, 56, 57, 58, 59, 60, 61, 62, 63, 64, 65, 66, 67, 68, 78, 79, 80, 81, 82, 83, 84, 85, 86, 87, 88, 89, 90] (by decide +kernel) (by decide +kernel)
set_option maxRecDepth 20000 in
theorem gX0_place_X0_placeBehind : GoodIn wsX0_place (wsV RX0 135 RX0 yX0_placeBehind wsX0_placeBehind) := goodIn_app (goodIn_of _ (by decide +kernel)) ggX0_place_X0_placeBehind
set_option maxRecDepth 20000 in
theorem ggX0_place_X0_isBound : GoodIn wsX0_place wsX0_isBound := goodIn_r _ [36, 2, 37, 78, 79, 80, 81, 82, 83, 84, 85] (by decide +kernel) (by decide +kernel)
set_option maxRecDepth 20000 in
theorem gX0_place_X0_isBound : GoodIn wsX0_place (wsV RX0 112 RX0 yX0_isBound wsX0_isBound) := goodIn_app (goodIn_of _ (by decide +kernel)) ggX0_place_X0_isBound
set_option maxRecDepth 20000 in
theorem ggX0_place_X0_step : GoodIn wsX0_place wsX0_step := goodIn_r _ [68, 42, 78, 79, 80, 81, 82, 83, 84, 85] (by decide +kernel) (by decide +kernel)
set_option maxRecDepth 20000 in
theorem gX0_place_X0_step : GoodIn wsX0_place (wsV RX0 70 RX0 yX0_step wsX0_step) := goodIn_app (goodIn_of _ (by decide +kernel)) ggX0_place_X0_step
set_option maxRecDepth 20000 in
theorem ggX0_place_X0_place : GoodIn wsX0_place wsX0_place := goodIn_r _ [0, 1, 2, 3, 4, 5, 6, 7, 8, 9, 10, 11, 12, 13, 14, 15, 16, 17, 18, 19, 20, 21, 22, 23, 24, 25, 26, 27, 28, 29, 30, 31, 32, 33, 34, 35, 36, 37, 38, 39, 40, 41, 42, 43, 44, 45, 46, 47, 48, 49, 50, 51, 52, 53, 54, 55, 56, 57, 58, 59, 60, 61, 62, 63, 64, 65, 66, 67, 68, 69, 70, 71, 72, 73, 74, 75, 76, 77, 78, 79, 80, 81, 82, 83, 84, 85, 86, 87, 88, 89, 90] (by decide +kernel) (by decide +kernel)
set_option maxRecDepth 20000 in
theorem gX0_place_X0_place : GoodIn wsX0_place (wsV RX0 125 RX0 yX0_place wsX0_place) := goodIn_app (goodIn_of _ (by decide +kernel)) ggX0_place_X0_place
set_option maxRecDepth 20000 in
theorem ggX0_placeBehind_X0_limpersRow : GoodIn wsX0_placeBehind wsX0_limpersRow := goodIn_r _ [6, 7, 8, 9, 10, 5, 11, 12, 13, 14, 15, 16, 17, 78, 79, 80, 81, 82, 83, 84, 85] (by decide +kernel) (by decide +kernel)
set_option maxRecDepth 20000 in
theorem gX0_placeBehind_X0_limpersRow : GoodIn wsX0_placeBehind (wsV RX0 138 RX0 yX0_limpersRow wsX0_limpersRow) := goodIn_app (goodIn_of _ (by decide +kernel)) ggX0_placeBehind_X0_limpersRow
set_option maxRecDepth 20000 in
theorem ggX0_placeBehind_X0_place : GoodIn wsX0_placeBehind wsX0_place := goodIn_r _ [21, 22, 7, 23, 24, 25, 26, 27, 28, 29, 30, 31, 32, 33, 34, 35, 36, 37, 38, 39, 40, 41, 5, 42, 43, 44, 45, 46, 47, 48, 49, 50, 51, 8, 9, 10, 11, 12, 13, 14, 15, 16, 17, 52, 53, 54, 55, 56, 57, 58, 59, 60, 61, 62, 63, 64, 65, 66, 67, 68, 69, 70, 71, 72, 73, 74, 75, 76, 77, 18, 19, 20, 0, 1, 2, 3, 4, 6, 78, 79, 80, 81, 82, 83, 84, 85, 86, 87, 88, 89, 90] (by decide +kernel) (by decide +kernel)
set_option maxRecDepth 20000 in
theorem gX0_placeBehind_X0_place : GoodIn wsX0_placeBehind (wsV RX0 125 RX0 yX0_place wsX0_place) := goodIn_app (goodIn_of _ (by decide +kernel)) ggX0_placeBehind_X0_place
set_option maxRecDepth 20000 in
theorem ggX0_limpersRow_X0_isBound : GoodIn wsX0_limpersRow wsX0_isBound := goodIn_r _ [6, 1, 7, 13, 14, 15, 16, 17, 18, 19, 20] (by decide +kernel) (by decide +kernel)
set_option maxRecDepth 20000 in
theorem gX0_limpersRow_X0_isBound : GoodIn wsX0_limpersRow (wsV RX0 112 RX0 yX0_isBound wsX0_isBound) := goodIn_app (goodIn_of _ (by decide +kernel)) ggX0_limpersRow_X0_isBound
set_option maxRecDepth 20000 in
theorem ggX0_limpersRow_X0_stepOf : GoodIn wsX0_limpersRow wsX0_stepOf := goodIn_r _ [11, 12, 13, 14, 15, 16, 17, 18, 19, 20] (by decide +kernel) (by decide +kernel)
set_option maxRecDepth 20000 in
theorem gX0_limpersRow_X0_stepOf : GoodIn wsX0_limpersRow (wsV RX0 116 RX0 yX0_stepOf wsX0_stepOf) := goodIn_app (goodIn_of _ (by decide +kernel)) ggX0_limpersRow_X0_stepOf
set_option maxRecDepth 20000 in
theorem ggX0_rowsFor_X0_callUp : GoodIn wsX0_rowsFor wsX0_callUp := goodIn_r _ [5, 6, 7, 8, 9, 10, 11, 12, 13, 14, 15, 16, 17, 18, 19, 20, 21, 22, 23, 24, 25, 26, 27, 28, 29, 30, 31, 32, 82, 83, 84, 85, 86, 87, 88, 89, 90, 91, 92] (by decide +kernel) (by decide +kernel)
set_option maxRecDepth 20000 in
theorem gX0_rowsFor_X0_callUp : GoodIn wsX0_rowsFor (wsV RX0 89 RX0 yX0_callUp wsX0_callUp) := goodIn_app (goodIn_of _ (by decide +kernel)) ggX0_rowsFor_X0_callUp
set_option maxRecDepth 20000 in
theorem ggX0_rowsFor_X0_countRows : GoodIn wsX0_rowsFor wsX0_countRows := goodIn_r _ [36, 11, 37, 38, 39, 40, 4, 41, 42, 43, 44, 45, 46, 47, 48, 49, 50, 51, 52, 53, 54, 13, 55, 56, 57, 58, 59, 60, 61, 62, 63, 64, 65, 66, 67, 68, 69, 12, 70, 71, 72, 73, 74, 75, 76, 77, 78, 79, 80, 81, 33, 34, 35, 82, 83, 84, 85, 86, 87, 88, 89, 93, 94, 95, 96, 97] (by decide +kernel) (by decide +kernel)
set_option maxRecDepth 20000 in
theorem gX0_rowsFor_X0_countRows : GoodIn wsX0_rowsFor (wsV RX0 141 RX0 yX0_countRows wsX0_countRows) := goodIn_app (goodIn_of _ (by decide +kernel)) ggX0_rowsFor_X0_countRows
set_option maxRecDepth 20000 in
theorem ggX0_countRows_X0_isOpen : GoodIn wsX0_countRows wsX0_isOpen := goodIn_r _ [7, 2, 8, 9, 10, 6, 11, 12, 1, 13, 14, 15, 16, 17, 18, 19, 20, 21, 22, 23, 24, 25, 26, 27, 28, 29, 30, 31, 32, 33, 34, 35, 36, 37, 38, 39, 40, 41, 42, 43, 44, 45, 53, 54, 55, 56, 57, 58, 59, 60, 61, 62, 63, 64, 65] (by decide +kernel) (by decide +kernel)
set_option maxRecDepth 20000 in
theorem gX0_countRows_X0_isOpen : GoodIn wsX0_countRows (wsV RX0 129 RX0 yX0_isOpen wsX0_isOpen) := goodIn_app (goodIn_of _ (by decide +kernel)) ggX0_countRows_X0_isOpen
set_option maxRecDepth 20000 in
theorem ggX0_countRows_X0_step : GoodIn wsX0_countRows wsX0_step := goodIn_r _ [49, 26, 53, 54, 55, 56, 57, 58, 59, 60] (by decide +kernel) (by decide +kernel)
set_option maxRecDepth 20000 in
theorem gX0_countRows_X0_step : GoodIn wsX0_countRows (wsV RX0 70 RX0 yX0_step wsX0_step) := goodIn_app (goodIn_of _ (by decide +kernel)) ggX0_countRows_X0_step
set_option maxRecDepth 20000 in
theorem ggX0_countRows_X0_countRows : GoodIn wsX0_countRows wsX0_countRows := goodIn_r _ [0, 1, 2, 3, 4, 5, 6, 7, 8, 9, 10, 11, 12, 13, 14, 15, 16, 17, 18, 19, 20, 21, 22, 23, 24, 25, 26, 27, 28, 29, 30, 31, 32, 33, 34, 35, 36, 37, 38, 39, 40, 41, 42, 43, 44, 45, 46, 47, 48, 49, 50, 51, 52, 53, 54, 55, 56, 57, 58, 59, 60, 61, 62, 63, 64, 65] (by decide +kernel) (by decide +kernel)
set_option maxRecDepth 20000 in
theorem gX0_countRows_X0_countRows : GoodIn wsX0_countRows (wsV RX0 141 RX0 yX0_countRows wsX0_countRows) := goodIn_app (goodIn_of _ (by decide +kernel)) ggX0_countRows_X0_countRows
set_option maxRecDepth 20000 in
theorem ggX0_isOpen_X0_load : GoodIn wsX0_isOpen wsX0_load := goodIn_r _ [6, 7, 8, 1, 9, 10, 11, 12, 13, 14, 15, 5, 16, 17, 18, 19, 20, 21, 22, 23, 24, 25, 26, 27, 28, 29, 30, 31, 32, 33, 42, 43, 44, 45, 46, 47, 48, 49, 50, 51, 52, 53, 54] (by decide +kernel) (by decide +kernel)
set_option maxRecDepth 20000 in
theorem gX0_isOpen_X0_load : GoodIn wsX0_isOpen (wsV RX0 93 RX0 yX0_load wsX0_load) := goodIn_app (goodIn_of _ (by decide +kernel)) ggX0_isOpen_X0_load
set_option maxRecDepth 20000 in
theorem ggX0_isOpen_X0_missingOn : GoodIn wsX0_isOpen wsX0_missingOn := goodIn_r _ [37, 1, 7, 23, 24, 25, 26, 27, 28, 42, 43, 44, 45, 46, 47, 48, 49, 50, 51, 52, 53, 54] (by decide +kernel) (by decide +kernel)
set_option maxRecDepth 20000 in
theorem gX0_isOpen_X0_missingOn : GoodIn wsX0_isOpen (wsV RX0 100 RX0 yX0_missingOn wsX0_missingOn) := goodIn_app (goodIn_of _ (by decide +kernel)) ggX0_isOpen_X0_missingOn
set_option maxRecDepth 20000 in
theorem ggX0_isOpen_X0_weightToCome : GoodIn wsX0_isOpen wsX0_weightToCome := goodIn_r _ [41, 8, 13, 14, 15, 5, 16, 17, 29, 30, 31, 32, 33, 42, 43, 44, 45, 46, 47, 48, 49] (by decide +kernel) (by decide +kernel)
set_option maxRecDepth 20000 in
theorem gX0_isOpen_X0_weightToCome : GoodIn wsX0_isOpen (wsV RX0 145 RX0 yX0_weightToCome wsX0_weightToCome) := goodIn_app (goodIn_of _ (by decide +kernel)) ggX0_isOpen_X0_weightToCome
set_option maxRecDepth 20000 in
theorem ggX0_weightToCome_X0_isBound : GoodIn wsX0_weightToCome wsX0_isBound := goodIn_r _ [6, 1, 7, 13, 14, 15, 16, 17, 18, 19, 20] (by decide +kernel) (by decide +kernel)
set_option maxRecDepth 20000 in
theorem gX0_weightToCome_X0_isBound : GoodIn wsX0_weightToCome (wsV RX0 112 RX0 yX0_isBound wsX0_isBound) := goodIn_app (goodIn_of _ (by decide +kernel)) ggX0_weightToCome_X0_isBound
set_option maxRecDepth 20000 in
theorem ggX0_weightToCome_X0_pullOf : GoodIn wsX0_weightToCome wsX0_pullOf := goodIn_r _ [11, 1, 12, 13, 14, 15, 16, 17, 18, 19, 20] (by decide +kernel) (by decide +kernel)
set_option maxRecDepth 20000 in
theorem gX0_weightToCome_X0_pullOf : GoodIn wsX0_weightToCome (wsV RX0 119 RX0 yX0_pullOf wsX0_pullOf) := goodIn_app (goodIn_of _ (by decide +kernel)) ggX0_weightToCome_X0_pullOf
set_option maxRecDepth 20000 in
theorem ggX1_add_X1_isFull : GoodIn wsX1_add wsX1_isFull := goodIn_r _ [7, 2, 8, 9] (by decide +kernel) (by decide +kernel)
set_option maxRecDepth 20000 in
theorem gX1_add_X1_isFull : GoodIn wsX1_add (wsV RX1 19 RX1 yX1_isFull wsX1_isFull) := goodIn_app (goodIn_of _ (by decide +kernel)) ggX1_add_X1_isFull
set_option maxRecDepth 20000 in
theorem ggX1_barsOf_X1_includes : GoodIn wsX1_barsOf wsX1_includes := goodIn_r _ [6, 7, 8, 9] (by decide +kernel) (by decide +kernel)
set_option maxRecDepth 20000 in
theorem gX1_barsOf_X1_includes : GoodIn wsX1_barsOf (wsV RX1 23 RX1 yX1_includes wsX1_includes) := goodIn_app (goodIn_of _ (by decide +kernel)) ggX1_barsOf_X1_includes
set_option maxRecDepth 20000 in
theorem ggX1_knownTogether_X1_barsOf : GoodIn wsX1_knownTogether wsX1_barsOf := goodIn_r _ [6, 7, 8, 9, 10, 5, 11, 1, 12, 13] (by decide +kernel) (by decide +kernel)
set_option maxRecDepth 20000 in
theorem gX1_knownTogether_X1_barsOf : GoodIn wsX1_knownTogether (wsV RX1 27 RX1 yX1_barsOf wsX1_barsOf) := goodIn_app (goodIn_of _ (by decide +kernel)) ggX1_knownTogether_X1_barsOf
set_option maxRecDepth 20000 in
theorem ggX1_leastSetThatKnows_X1_all : GoodIn wsX1_leastSetThatKnows wsX1_all := goodIn_r _ [5, 6, 27, 28] (by decide +kernel) (by decide +kernel)
set_option maxRecDepth 20000 in
theorem gX1_leastSetThatKnows_X1_all : GoodIn wsX1_leastSetThatKnows (wsV RX1 31 RX1 yX1_all wsX1_all) := goodIn_app (goodIn_of _ (by decide +kernel)) ggX1_leastSetThatKnows_X1_all
set_option maxRecDepth 20000 in
theorem ggX1_leastSetThatKnows_X1_knownTogether : GoodIn wsX1_leastSetThatKnows wsX1_knownTogether := goodIn_r _ [10, 6, 11, 12, 13, 4, 14, 15, 16, 17, 18, 19, 27, 28] (by decide +kernel) (by decide +kernel)
set_option maxRecDepth 20000 in
theorem gX1_leastSetThatKnows_X1_knownTogether : GoodIn wsX1_leastSetThatKnows (wsV RX1 35 RX1 yX1_knownTogether wsX1_knownTogether) := goodIn_app (goodIn_of _ (by decide +kernel)) ggX1_leastSetThatKnows_X1_knownTogether
set_option maxRecDepth 20000 in
theorem ggX1_leastSetThatKnows_J6_bitCount_0f7a4 : GoodIn wsX1_leastSetThatKnows wsJ6_bitCount_0f7a4 := goodIn_r _ [23, 24, 25, 26] (by decide +kernel) (by decide +kernel)
set_option maxRecDepth 20000 in
theorem gX1_leastSetThatKnows_J6_bitCount_0f7a4 : GoodIn wsX1_leastSetThatKnows (va_wsS RX1 38 yJ6_bitCount_0f7a4 wsJ6_bitCount_0f7a4) := goodIn_app (goodIn_of _ (by decide +kernel)) ggX1_leastSetThatKnows_J6_bitCount_0f7a4
set_option maxRecDepth 20000 in
theorem ggX1_numberThatMustKnow_X1_ignorantOf : GoodIn wsX1_numberThatMustKnow wsX1_ignorantOf := goodIn_r _ [10, 5, 11, 12, 13, 9, 14, 15, 16, 17, 18, 19, 20, 21] (by decide +kernel) (by decide +kernel)
set_option maxRecDepth 20000 in
theorem gX1_numberThatMustKnow_X1_ignorantOf : GoodIn wsX1_numberThatMustKnow (wsV RX1 43 RX1 yX1_ignorantOf wsX1_ignorantOf) := goodIn_app (goodIn_of _ (by decide +kernel)) ggX1_numberThatMustKnow_X1_ignorantOf
set_option maxRecDepth 20000 in
theorem ggX1_ignorantOf_X1_barsOf : GoodIn wsX1_ignorantOf wsX1_barsOf := goodIn_r _ [6, 7, 8, 9, 10, 5, 11, 1, 12, 13] (by decide +kernel) (by decide +kernel)
set_option maxRecDepth 20000 in
theorem gX1_ignorantOf_X1_barsOf : GoodIn wsX1_ignorantOf (wsV RX1 27 RX1 yX1_barsOf wsX1_barsOf) := goodIn_app (goodIn_of _ (by decide +kernel)) ggX1_ignorantOf_X1_barsOf
set_option maxRecDepth 20000 in
theorem ggX1_mostToLearn_X1_all : GoodIn wsX1_mostToLearn wsX1_all := goodIn_r _ [10, 1, 31, 32] (by decide +kernel) (by decide +kernel)
set_option maxRecDepth 20000 in
theorem gX1_mostToLearn_X1_all : GoodIn wsX1_mostToLearn (wsV RX1 31 RX1 yX1_all wsX1_all) := goodIn_app (goodIn_of _ (by decide +kernel)) ggX1_mostToLearn_X1_all
set_option maxRecDepth 20000 in
theorem ggX1_mostToLearn_X1_knownTogether : GoodIn wsX1_mostToLearn wsX1_knownTogether := goodIn_r _ [14, 1, 15, 16, 17, 9, 18, 19, 20, 21, 22, 23, 31, 32] (by decide +kernel) (by decide +kernel)
set_option maxRecDepth 20000 in
theorem gX1_mostToLearn_X1_knownTogether : GoodIn wsX1_mostToLearn (wsV RX1 35 RX1 yX1_knownTogether wsX1_knownTogether) := goodIn_app (goodIn_of _ (by decide +kernel)) ggX1_mostToLearn_X1_knownTogether
set_option maxRecDepth 20000 in
theorem ggX1_mostToLearn_X1_barsOf : GoodIn wsX1_mostToLearn wsX1_barsOf := goodIn_r _ [18, 19, 20, 21, 22, 9, 23, 1, 31, 32] (by decide +kernel) (by decide +kernel)
set_option maxRecDepth 20000 in
theorem gX1_mostToLearn_X1_barsOf : GoodIn wsX1_mostToLearn (wsV RX1 27 RX1 yX1_barsOf wsX1_barsOf) := goodIn_app (goodIn_of _ (by decide +kernel)) ggX1_mostToLearn_X1_barsOf
set_option maxRecDepth 20000 in
theorem ggX1_mostToLearn_J6_bitCount_0f7a4 : GoodIn wsX1_mostToLearn wsJ6_bitCount_0f7a4 := goodIn_r _ [27, 28, 29, 30] (by decide +kernel) (by decide +kernel)
set_option maxRecDepth 20000 in
theorem gX1_mostToLearn_J6_bitCount_0f7a4 : GoodIn wsX1_mostToLearn (va_wsS RX1 38 yJ6_bitCount_0f7a4 wsJ6_bitCount_0f7a4) := goodIn_app (goodIn_of _ (by decide +kernel)) ggX1_mostToLearn_J6_bitCount_0f7a4
set_option maxRecDepth 20000 in
theorem ggX2_addDoor_X2_addBeat : GoodIn wsX2_addDoor wsX2_addBeat := goodIn_r _ [7, 1, 2, 8, 9, 10, 11, 6, 12, 13, 14, 15, 16, 17] (by decide +kernel) (by decide +kernel)
set_option maxRecDepth 20000 in
theorem gX2_addDoor_X2_addBeat : GoodIn wsX2_addDoor (wsV RX2 34 RX2 yX2_addBeat wsX2_addBeat) := goodIn_app (goodIn_of _ (by decide +kernel)) ggX2_addDoor_X2_addBeat
set_option maxRecDepth 20000 in
theorem ggX2_addBeat_X2_hasDoor : GoodIn wsX2_addBeat wsX2_hasDoor := goodIn_r _ [8, 1, 9, 10, 11, 12, 13] (by decide +kernel) (by decide +kernel)
set_option maxRecDepth 20000 in
theorem gX2_addBeat_X2_hasDoor : GoodIn wsX2_addBeat (wsV RX2 38 RX2 yX2_hasDoor wsX2_hasDoor) := goodIn_app (goodIn_of _ (by decide +kernel)) ggX2_addBeat_X2_hasDoor
set_option maxRecDepth 20000 in
theorem ggX2_addRising_X2_hasDoor : GoodIn wsX2_addRising wsX2_hasDoor := goodIn_r _ [8, 1, 21, 22, 23, 24, 25] (by decide +kernel) (by decide +kernel)
set_option maxRecDepth 20000 in
theorem gX2_addRising_X2_hasDoor : GoodIn wsX2_addRising (wsV RX2 38 RX2 yX2_hasDoor wsX2_hasDoor) := goodIn_app (goodIn_of _ (by decide +kernel)) ggX2_addRising_X2_hasDoor
set_option maxRecDepth 20000 in
theorem ggX2_addRising_X2_hasBoard : GoodIn wsX2_addRising wsX2_hasBoard := goodIn_r _ [12, 13, 21, 22, 23, 24, 25] (by decide +kernel) (by decide +kernel)
set_option maxRecDepth 20000 in
theorem gX2_addRising_X2_hasBoard : GoodIn wsX2_addRising (wsV RX2 42 RX2 yX2_hasBoard wsX2_hasBoard) := goodIn_app (goodIn_of _ (by decide +kernel)) ggX2_addRising_X2_hasBoard
set_option maxRecDepth 20000 in
theorem ggX2_addRising_J6_bitCount_0f7a4 : GoodIn wsX2_addRising wsJ6_bitCount_0f7a4 := goodIn_r _ [17, 18, 19, 20] (by decide +kernel) (by decide +kernel)
set_option maxRecDepth 20000 in
theorem gX2_addRising_J6_bitCount_0f7a4 : GoodIn wsX2_addRising (va_wsS RX2 45 yJ6_bitCount_0f7a4 wsJ6_bitCount_0f7a4) := goodIn_app (goodIn_of _ (by decide +kernel)) ggX2_addRising_J6_bitCount_0f7a4
set_option maxRecDepth 20000 in
theorem ggX2_hasBeat_X2_hasDoor : GoodIn wsX2_hasBeat wsX2_hasDoor := goodIn_r _ [6, 7, 8, 9, 10, 11, 12] (by decide +kernel) (by decide +kernel)
set_option maxRecDepth 20000 in
theorem gX2_hasBeat_X2_hasDoor : GoodIn wsX2_hasBeat (wsV RX2 38 RX2 yX2_hasDoor wsX2_hasDoor) := goodIn_app (goodIn_of _ (by decide +kernel)) ggX2_hasBeat_X2_hasDoor
set_option maxRecDepth 20000 in
theorem ggX2_beatsOf_X2_hasDoor : GoodIn wsX2_beatsOf wsX2_hasDoor := goodIn_r _ [6, 7, 8, 9, 10, 11, 12] (by decide +kernel) (by decide +kernel)
set_option maxRecDepth 20000 in
theorem gX2_beatsOf_X2_hasDoor : GoodIn wsX2_beatsOf (wsV RX2 38 RX2 yX2_hasDoor wsX2_hasDoor) := goodIn_app (goodIn_of _ (by decide +kernel)) ggX2_beatsOf_X2_hasDoor
set_option maxRecDepth 20000 in
theorem ggX2_figureAt_X2_hasBeat : GoodIn wsX2_figureAt wsX2_hasBeat := goodIn_r _ [6, 7, 8, 9, 10, 5, 11, 12, 13, 14, 15, 16, 17] (by decide +kernel) (by decide +kernel)
set_option maxRecDepth 20000 in
theorem gX2_figureAt_X2_hasBeat : GoodIn wsX2_figureAt (wsV RX2 51 RX2 yX2_hasBeat wsX2_hasBeat) := goodIn_app (goodIn_of _ (by decide +kernel)) ggX2_figureAt_X2_hasBeat
set_option maxRecDepth 20000 in
theorem ggX2_exchange_X2_figureAt : GoodIn wsX2_exchange wsX2_figureAt := goodIn_r _ [6, 1, 7, 8, 9, 5, 10, 11, 12, 13, 14, 15, 16, 17, 18, 19, 20, 21] (by decide +kernel) (by decide +kernel)
set_option maxRecDepth 20000 in
theorem gX2_exchange_X2_figureAt : GoodIn wsX2_exchange (wsV RX2 55 RX2 yX2_figureAt wsX2_figureAt) := goodIn_app (goodIn_of _ (by decide +kernel)) ggX2_exchange_X2_figureAt
set_option maxRecDepth 20000 in
theorem ggX2_exchange_X2_hasBeat : GoodIn wsX2_exchange wsX2_hasBeat := goodIn_r _ [10, 11, 12, 13, 14, 5, 15, 16, 17, 18, 19, 20, 21] (by decide +kernel) (by decide +kernel)
set_option maxRecDepth 20000 in
theorem gX2_exchange_X2_hasBeat : GoodIn wsX2_exchange (wsV RX2 51 RX2 yX2_hasBeat wsX2_hasBeat) := goodIn_app (goodIn_of _ (by decide +kernel)) ggX2_exchange_X2_hasBeat
set_option maxRecDepth 20000 in
theorem ggX2_barsOfDoor_X2_beatsOf : GoodIn wsX2_barsOfDoor wsX2_beatsOf := goodIn_r _ [5, 6, 7, 8, 9, 4, 10, 11, 12, 13, 14, 15, 16] (by decide +kernel) (by decide +kernel)
set_option maxRecDepth 20000 in
theorem gX2_barsOfDoor_X2_beatsOf : GoodIn wsX2_barsOfDoor (wsV RX2 59 RX2 yX2_beatsOf wsX2_beatsOf) := goodIn_app (goodIn_of _ (by decide +kernel)) ggX2_barsOfDoor_X2_beatsOf
set_option maxRecDepth 20000 in
theorem ggX2_allBars_X2_barsOfDoor : GoodIn wsX2_allBars wsX2_barsOfDoor := goodIn_r _ [6, 7, 8, 9, 5, 10, 11, 12, 13, 14, 15, 1, 16, 17, 18, 19, 20] (by decide +kernel) (by decide +kernel)
set_option maxRecDepth 20000 in
theorem gX2_allBars_X2_barsOfDoor : GoodIn wsX2_allBars (wsV RX2 62 RX2 yX2_barsOfDoor wsX2_barsOfDoor) := goodIn_app (goodIn_of _ (by decide +kernel)) ggX2_allBars_X2_barsOfDoor
set_option maxRecDepth 20000 in
theorem ggX2_beatsOfBars_X2_barsOfDoor : GoodIn wsX2_beatsOfBars wsX2_barsOfDoor := goodIn_r _ [5, 6, 7, 8, 4, 9, 10, 11, 12, 13, 14, 15, 16, 17, 18, 19, 20] (by decide +kernel) (by decide +kernel)
set_option maxRecDepth 20000 in
theorem gX2_beatsOfBars_X2_barsOfDoor : GoodIn wsX2_beatsOfBars (wsV RX2 62 RX2 yX2_barsOfDoor wsX2_barsOfDoor) := goodIn_app (goodIn_of _ (by decide +kernel)) ggX2_beatsOfBars_X2_barsOfDoor
set_option maxRecDepth 20000 in
theorem ggX2_doorsSeen_X2_beatsOf : GoodIn wsX2_doorsSeen wsX2_beatsOf := goodIn_r _ [6, 7, 8, 9, 10, 5, 11, 1, 25, 26, 27, 28, 29] (by decide +kernel) (by decide +kernel)
set_option maxRecDepth 20000 in
theorem gX2_doorsSeen_X2_beatsOf : GoodIn wsX2_doorsSeen (wsV RX2 59 RX2 yX2_beatsOf wsX2_beatsOf) := goodIn_app (goodIn_of _ (by decide +kernel)) ggX2_doorsSeen_X2_beatsOf
set_option maxRecDepth 20000 in
theorem ggX2_doorsSeen_X2_agrees : GoodIn wsX2_doorsSeen wsX2_agrees := goodIn_r _ [15, 16, 17, 18, 5, 19, 20, 21, 22, 23, 24, 7, 8, 9, 10, 11, 1, 25, 26, 27, 28, 29] (by decide +kernel) (by decide +kernel)
set_option maxRecDepth 20000 in
theorem gX2_doorsSeen_X2_agrees : GoodIn wsX2_doorsSeen (wsV RX2 65 RX2 yX2_agrees wsX2_agrees) := goodIn_app (goodIn_of _ (by decide +kernel)) ggX2_doorsSeen_X2_agrees
set_option maxRecDepth 20000 in
theorem ggX2_doorsWithPart_X2_beatsOf : GoodIn wsX2_doorsWithPart wsX2_beatsOf := goodIn_r _ [6, 7, 8, 9, 10, 5, 11, 1, 30, 31, 32, 33, 34] (by decide +kernel) (by decide +kernel)
set_option maxRecDepth 20000 in
theorem gX2_doorsWithPart_X2_beatsOf : GoodIn wsX2_doorsWithPart (wsV RX2 59 RX2 yX2_beatsOf wsX2_beatsOf) := goodIn_app (goodIn_of _ (by decide +kernel)) ggX2_doorsWithPart_X2_beatsOf
set_option maxRecDepth 20000 in
theorem ggX2_doorsWithPart_X2_allBoards : GoodIn wsX2_doorsWithPart wsX2_allBoards := goodIn_r _ [15, 16, 30, 31, 32, 33, 34] (by decide +kernel) (by decide +kernel)
set_option maxRecDepth 20000 in
theorem gX2_doorsWithPart_X2_allBoards : GoodIn wsX2_doorsWithPart (wsV RX2 69 RX2 yX2_allBoards wsX2_allBoards) := goodIn_app (goodIn_of _ (by decide +kernel)) ggX2_doorsWithPart_X2_allBoards
set_option maxRecDepth 20000 in
theorem ggX2_doorsWithPart_X2_agrees : GoodIn wsX2_doorsWithPart wsX2_agrees := goodIn_r _ [20, 21, 22, 23, 5, 24, 25, 26, 27, 28, 29, 7, 8, 9, 10, 11, 1, 30, 31, 32, 33, 34] (by decide +kernel) (by decide +kernel)
set_option maxRecDepth 20000 in
theorem gX2_doorsWithPart_X2_agrees : GoodIn wsX2_doorsWithPart (wsV RX2 65 RX2 yX2_agrees wsX2_agrees) := goodIn_app (goodIn_of _ (by decide +kernel)) ggX2_doorsWithPart_X2_agrees
set_option maxRecDepth 20000 in
theorem ggX2_agrees_X2_figureAt : GoodIn wsX2_agrees wsX2_figureAt := goodIn_r _ [5, 6, 7, 8, 9, 4, 10, 11, 12, 13, 14, 15, 16, 17, 18, 19, 20, 21] (by decide +kernel) (by decide +kernel)
set_option maxRecDepth 20000 in
theorem gX2_agrees_X2_figureAt : GoodIn wsX2_agrees (wsV RX2 55 RX2 yX2_figureAt wsX2_figureAt) := goodIn_app (goodIn_of _ (by decide +kernel)) ggX2_agrees_X2_figureAt
set_option maxRecDepth 20000 in
theorem ggX2_beatsUnlike_X2_hasBeat : GoodIn wsX2_beatsUnlike wsX2_hasBeat := goodIn_r _ [5, 6, 7, 8, 9, 4, 10, 11, 17, 18, 19, 20, 21] (by decide +kernel) (by decide +kernel)
set_option maxRecDepth 20000 in
theorem gX2_beatsUnlike_X2_hasBeat : GoodIn wsX2_beatsUnlike (wsV RX2 51 RX2 yX2_hasBeat wsX2_hasBeat) := goodIn_app (goodIn_of _ (by decide +kernel)) ggX2_beatsUnlike_X2_hasBeat
set_option maxRecDepth 20000 in
theorem ggX2_beatsUnlike_X2_figureAt : GoodIn wsX2_beatsUnlike wsX2_figureAt := goodIn_r _ [15, 16, 1, 2, 3, 4, 5, 6, 7, 8, 9, 10, 11, 17, 18, 19, 20, 21] (by decide +kernel) (by decide +kernel)
set_option maxRecDepth 20000 in
theorem gX2_beatsUnlike_X2_figureAt : GoodIn wsX2_beatsUnlike (wsV RX2 55 RX2 yX2_figureAt wsX2_figureAt) := goodIn_app (goodIn_of _ (by decide +kernel)) ggX2_beatsUnlike_X2_figureAt
set_option maxRecDepth 20000 in
theorem ggX2_leastUnlike_X2_beatsUnlike : GoodIn wsX2_leastUnlike wsX2_beatsUnlike := goodIn_r _ [6, 7, 8, 9, 5, 10, 11, 12, 13, 14, 15, 1, 16, 17, 18, 19, 20, 21, 22, 23, 24, 25] (by decide +kernel) (by decide +kernel)
set_option maxRecDepth 20000 in
theorem gX2_leastUnlike_X2_beatsUnlike : GoodIn wsX2_leastUnlike (wsV RX2 73 RX2 yX2_beatsUnlike wsX2_beatsUnlike) := goodIn_app (goodIn_of _ (by decide +kernel)) ggX2_leastUnlike_X2_beatsUnlike
set_option maxRecDepth 20000 in
theorem ggX2_someDoorBeginsAnother_X2_begins : GoodIn wsX2_someDoorBeginsAnother wsX2_begins := goodIn_r _ [6, 7, 8, 9, 5, 10, 11, 12, 13, 14, 15, 1, 16, 17, 18, 19, 20, 21, 22, 23, 24, 25, 26, 27, 28, 29, 30, 31, 32, 33] (by decide +kernel) (by decide +kernel)
set_option maxRecDepth 20000 in
theorem gX2_someDoorBeginsAnother_X2_begins : GoodIn wsX2_someDoorBeginsAnother (wsV RX2 76 RX2 yX2_begins wsX2_begins) := goodIn_app (goodIn_of _ (by decide +kernel)) ggX2_someDoorBeginsAnother_X2_begins
set_option maxRecDepth 20000 in
theorem ggX2_begins_X2_beatsOf : GoodIn wsX2_begins wsX2_beatsOf := goodIn_r _ [5, 6, 7, 8, 9, 4, 10, 11, 25, 26, 27, 28, 29] (by decide +kernel) (by decide +kernel)
set_option maxRecDepth 20000 in
theorem gX2_begins_X2_beatsOf : GoodIn wsX2_begins (wsV RX2 59 RX2 yX2_beatsOf wsX2_beatsOf) := goodIn_app (goodIn_of _ (by decide +kernel)) ggX2_begins_X2_beatsOf
set_option maxRecDepth 20000 in
theorem ggX2_begins_X2_beatsUnlike : GoodIn wsX2_begins wsX2_beatsUnlike := goodIn_r _ [15, 16, 17, 18, 4, 19, 6, 7, 8, 9, 10, 11, 20, 21, 22, 23, 24, 25, 26, 27, 28, 29] (by decide +kernel) (by decide +kernel)
set_option maxRecDepth 20000 in
theorem gX2_begins_X2_beatsUnlike : GoodIn wsX2_begins (wsV RX2 73 RX2 yX2_beatsUnlike wsX2_beatsUnlike) := goodIn_app (goodIn_of _ (by decide +kernel)) ggX2_begins_X2_beatsUnlike
set_option maxRecDepth 20000 in
theorem ggX3_init_J7_fill_53178 : GoodIn wsX3_init wsJ7_fill_53178 := goodIn_r _ [11] (by decide +kernel) (by decide +kernel)
set_option maxRecDepth 20000 in
theorem gX3_init_J7_fill_53178 : GoodIn wsX3_init (va_wsS RX3 21 yJ7_fill_53178 wsJ7_fill_53178) := goodIn_app (goodIn_of _ (by decide +kernel)) ggX3_init_J7_fill_53178
set_option maxRecDepth 20000 in
theorem ggX3_isNothing_X3_sortOf : GoodIn wsX3_isNothing wsX3_sortOf := goodIn_r _ [5, 6, 7, 8, 9, 4, 10, 11, 12, 13] (by decide +kernel) (by decide +kernel)
set_option maxRecDepth 20000 in
theorem gX3_isNothing_X3_sortOf : GoodIn wsX3_isNothing (wsV RX3 27 RX3 yX3_sortOf wsX3_sortOf) := goodIn_app (goodIn_of _ (by decide +kernel)) ggX3_isNothing_X3_sortOf
set_option maxRecDepth 20000 in
theorem ggX3_sortOf_X3_includes : GoodIn wsX3_sortOf wsX3_includes := goodIn_r _ [6] (by decide +kernel) (by decide +kernel)
set_option maxRecDepth 20000 in
theorem gX3_sortOf_X3_includes : GoodIn wsX3_sortOf (wsV RX3 31 RX3 yX3_includes wsX3_includes) := goodIn_app (goodIn_of _ (by decide +kernel)) ggX3_sortOf_X3_includes
set_option maxRecDepth 20000 in
theorem ggX3_lengthOf_X3_includes : GoodIn wsX3_lengthOf wsX3_includes := goodIn_r _ [6] (by decide +kernel) (by decide +kernel)
set_option maxRecDepth 20000 in
theorem gX3_lengthOf_X3_includes : GoodIn wsX3_lengthOf (wsV RX3 31 RX3 yX3_includes wsX3_includes) := goodIn_app (goodIn_of _ (by decide +kernel)) ggX3_lengthOf_X3_includes
set_option maxRecDepth 20000 in
theorem ggX3_renew_X3_includes : GoodIn wsX3_renew wsX3_includes := goodIn_r _ [8] (by decide +kernel) (by decide +kernel)
set_option maxRecDepth 20000 in
theorem gX3_renew_X3_includes : GoodIn wsX3_renew (wsV RX3 31 RX3 yX3_includes wsX3_includes) := goodIn_app (goodIn_of _ (by decide +kernel)) ggX3_renew_X3_includes
set_option maxRecDepth 20000 in
theorem ggX3_renew_J7_fill_fda19 : GoodIn wsX3_renew wsJ7_fill_fda19 := goodIn_r _ [12, 13, 14, 11, 15] (by decide +kernel) (by decide +kernel)
set_option maxRecDepth 20000 in
theorem gX3_renew_J7_fill_fda19 : GoodIn wsX3_renew (va_wsS RX3 35 yJ7_fill_fda19 wsJ7_fill_fda19) := goodIn_app (goodIn_of _ (by decide +kernel)) ggX3_renew_J7_fill_fda19
set_option maxRecDepth 20000 in
theorem ggX3_drop_X3_includes : GoodIn wsX3_drop wsX3_includes := goodIn_r _ [7] (by decide +kernel) (by decide +kernel)
set_option maxRecDepth 20000 in
theorem gX3_drop_X3_includes : GoodIn wsX3_drop (wsV RX3 31 RX3 yX3_includes wsX3_includes) := goodIn_app (goodIn_of _ (by decide +kernel)) ggX3_drop_X3_includes
set_option maxRecDepth 20000 in
theorem ggX3_hasCells_X3_lengthOf : GoodIn wsX3_hasCells wsX3_lengthOf := goodIn_r _ [5, 6, 7, 8, 9, 4, 10, 11, 12, 13] (by decide +kernel) (by decide +kernel)
set_option maxRecDepth 20000 in
theorem gX3_hasCells_X3_lengthOf : GoodIn wsX3_hasCells (wsV RX3 38 RX3 yX3_lengthOf wsX3_lengthOf) := goodIn_app (goodIn_of _ (by decide +kernel)) ggX3_hasCells_X3_lengthOf
set_option maxRecDepth 20000 in
theorem ggX3_faultOfCells_X3_isNothing : GoodIn wsX3_faultOfCells wsX3_isNothing := goodIn_r _ [5, 6, 7, 8, 4, 9, 10, 11, 12, 13, 14, 24, 25, 26] (by decide +kernel) (by decide +kernel)
set_option maxRecDepth 20000 in
theorem gX3_faultOfCells_X3_isNothing : GoodIn wsX3_faultOfCells (wsV RX3 41 RX3 yX3_isNothing wsX3_isNothing) := goodIn_app (goodIn_of _ (by decide +kernel)) ggX3_faultOfCells_X3_isNothing
set_option maxRecDepth 20000 in
theorem ggX3_faultOfCells_X3_sortOf : GoodIn wsX3_faultOfCells wsX3_sortOf := goodIn_r _ [9, 10, 11, 12, 13, 4, 14, 24, 25, 26] (by decide +kernel) (by decide +kernel)
set_option maxRecDepth 20000 in
theorem gX3_faultOfCells_X3_sortOf : GoodIn wsX3_faultOfCells (wsV RX3 27 RX3 yX3_sortOf wsX3_sortOf) := goodIn_app (goodIn_of _ (by decide +kernel)) ggX3_faultOfCells_X3_sortOf
set_option maxRecDepth 20000 in
theorem ggX3_faultOfCells_X3_hasCells : GoodIn wsX3_faultOfCells wsX3_hasCells := goodIn_r _ [18, 19, 20, 21, 4, 22, 23, 11, 12, 13, 14, 24, 25, 26] (by decide +kernel) (by decide +kernel)
set_option maxRecDepth 20000 in
theorem gX3_faultOfCells_X3_hasCells : GoodIn wsX3_faultOfCells (wsV RX3 44 RX3 yX3_hasCells wsX3_hasCells) := goodIn_app (goodIn_of _ (by decide +kernel)) ggX3_faultOfCells_X3_hasCells
set_option maxRecDepth 20000 in
theorem ggX3_faultOfMove_X3_isNothing : GoodIn wsX3_faultOfMove wsX3_isNothing := goodIn_r _ [5, 6, 7, 8, 4, 9, 10, 11, 12, 13, 14, 24, 25, 26] (by decide +kernel) (by decide +kernel)
set_option maxRecDepth 20000 in
theorem gX3_faultOfMove_X3_isNothing : GoodIn wsX3_faultOfMove (wsV RX3 41 RX3 yX3_isNothing wsX3_isNothing) := goodIn_app (goodIn_of _ (by decide +kernel)) ggX3_faultOfMove_X3_isNothing
set_option maxRecDepth 20000 in
theorem ggX3_faultOfMove_X3_sortOf : GoodIn wsX3_faultOfMove wsX3_sortOf := goodIn_r _ [9, 10, 11, 12, 13, 4, 14, 24, 25, 26] (by decide +kernel) (by decide +kernel)
set_option maxRecDepth 20000 in
theorem gX3_faultOfMove_X3_sortOf : GoodIn wsX3_faultOfMove (wsV RX3 27 RX3 yX3_sortOf wsX3_sortOf) := goodIn_app (goodIn_of _ (by decide +kernel)) ggX3_faultOfMove_X3_sortOf
set_option maxRecDepth 20000 in
theorem ggX3_faultOfMove_X3_hasCells : GoodIn wsX3_faultOfMove wsX3_hasCells := goodIn_r _ [18, 19, 20, 21, 4, 22, 23, 11, 12, 13, 14, 24, 25, 26] (by decide +kernel) (by decide +kernel)
set_option maxRecDepth 20000 in
theorem gX3_faultOfMove_X3_hasCells : GoodIn wsX3_faultOfMove (wsV RX3 44 RX3 yX3_hasCells wsX3_hasCells) := goodIn_app (goodIn_of _ (by decide +kernel)) ggX3_faultOfMove_X3_hasCells
set_option maxRecDepth 20000 in
theorem ggX3_write_X3_hasCells : GoodIn wsX3_write wsX3_hasCells := goodIn_r _ [6, 7, 8, 9, 5, 10, 11, 12, 13, 14, 15, 25, 26, 27] (by decide +kernel) (by decide +kernel)
set_option maxRecDepth 20000 in
theorem gX3_write_X3_hasCells : GoodIn wsX3_write (wsV RX3 44 RX3 yX3_hasCells wsX3_hasCells) := goodIn_app (goodIn_of _ (by decide +kernel)) ggX3_write_X3_hasCells
set_option maxRecDepth 20000 in
theorem ggX3_write_X3_sortOf : GoodIn wsX3_write wsX3_sortOf := goodIn_r _ [19, 20, 12, 13, 14, 5, 15, 25, 26, 27] (by decide +kernel) (by decide +kernel)
set_option maxRecDepth 20000 in
theorem gX3_write_X3_sortOf : GoodIn wsX3_write (wsV RX3 27 RX3 yX3_sortOf wsX3_sortOf) := goodIn_app (goodIn_of _ (by decide +kernel)) ggX3_write_X3_sortOf
set_option maxRecDepth 20000 in
theorem ggX3_write_X3_cut : GoodIn wsX3_write wsX3_cut := goodIn_r _ [24] (by decide +kernel) (by decide +kernel)
set_option maxRecDepth 20000 in
theorem gX3_write_X3_cut : GoodIn wsX3_write (wsV RX3 48 RX3 yX3_cut wsX3_cut) := goodIn_app (goodIn_of _ (by decide +kernel)) ggX3_write_X3_cut
set_option maxRecDepth 20000 in
theorem ggX3_readInto_X3_hasCells : GoodIn wsX3_readInto wsX3_hasCells := goodIn_r _ [10, 11, 12, 13, 9, 14, 15, 16, 17, 18, 19, 20, 21, 22] (by decide +kernel) (by decide +kernel)
set_option maxRecDepth 20000 in
theorem gX3_readInto_X3_hasCells : GoodIn wsX3_readInto (wsV RX3 44 RX3 yX3_hasCells wsX3_hasCells) := goodIn_app (goodIn_of _ (by decide +kernel)) ggX3_readInto_X3_hasCells
set_option maxRecDepth 20000 in
theorem ggX3_move_X3_hasCells : GoodIn wsX3_move wsX3_hasCells := goodIn_r _ [10, 11, 12, 13, 9, 14, 15, 16, 17, 18, 19, 20, 21, 22] (by decide +kernel) (by decide +kernel)
set_option maxRecDepth 20000 in
theorem gX3_move_X3_hasCells : GoodIn wsX3_move (wsV RX3 44 RX3 yX3_hasCells wsX3_hasCells) := goodIn_app (goodIn_of _ (by decide +kernel)) ggX3_move_X3_hasCells
set_option maxRecDepth 20000 in
theorem ggX4_init_X2_init : GoodIn wsX4_init wsX2_init := goodIn_r _ [9, 10, 2, 3, 11, 12, 13, 14, 15, 16, 17, 18, 19] (by decide +kernel) (by decide +kernel)
set_option maxRecDepth 20000 in
theorem gX4_init_X2_init_n9 : GoodIn wsX4_init (wsX2_init) := ggX4_init_X2_init
set_option maxRecDepth 20000 in
theorem ggX4_firstFault_X2_clear : GoodIn wsX4_firstFault wsX2_clear := goodIn_r _ [10, 11, 12, 58, 59, 60, 61, 62] (by decide +kernel) (by decide +kernel)
set_option maxRecDepth 20000 in
theorem gX4_firstFault_X2_clear : GoodIn wsX4_firstFault (wsV RX4 22 RX2 yX2_clear wsX2_clear) := goodIn_app (goodIn_of _ (by decide +kernel)) ggX4_firstFault_X2_clear
set_option maxRecDepth 20000 in
theorem ggX4_firstFault_X2_addBoard : GoodIn wsX4_firstFault wsX2_addBoard := goodIn_r _ [16, 11, 17, 58, 59, 60, 61, 62] (by decide +kernel) (by decide +kernel)
set_option maxRecDepth 20000 in
theorem gX4_firstFault_X2_addBoard : GoodIn wsX4_firstFault (wsV RX4 25 RX2 yX2_addBoard wsX2_addBoard) := goodIn_app (goodIn_of _ (by decide +kernel)) ggX4_firstFault_X2_addBoard
set_option maxRecDepth 20000 in
theorem ggX4_firstFault_X4_firstFaultOfDoors : GoodIn wsX4_firstFault wsX4_firstFaultOfDoors := goodIn_r _ [22, 5, 23, 24, 25, 21, 26, 27, 28, 29, 9, 30, 12, 31, 32, 33, 34, 35, 36, 37, 38, 39, 40, 41, 42, 43, 44, 45, 46, 47, 48, 49, 11, 50, 51, 52, 53, 54, 55, 56, 57, 58, 59, 60, 61, 62] (by decide +kernel) (by decide +kernel)
set_option maxRecDepth 20000 in
theorem gX4_firstFault_X4_firstFaultOfDoors : GoodIn wsX4_firstFault (wsV RX4 29 RX4 yX4_firstFaultOfDoors wsX4_firstFaultOfDoors) := goodIn_app (goodIn_of _ (by decide +kernel)) ggX4_firstFault_X4_firstFaultOfDoors
set_option maxRecDepth 20000 in
theorem ggX4_firstFaultOfDoors_X4_goesOn : GoodIn wsX4_firstFaultOfDoors wsX4_goesOn := goodIn_r _ [6, 1, 7, 8, 9, 10, 11, 12, 13, 14, 15, 16, 17, 18, 19, 20, 21, 22, 23, 24, 25, 26, 27, 28, 29, 30, 31, 32, 33, 34, 35, 36, 37, 38, 39, 40, 41, 42, 43, 44, 45] (by decide +kernel) (by decide +kernel)
set_option maxRecDepth 20000 in
theorem gX4_firstFaultOfDoors_X4_goesOn : GoodIn wsX4_firstFaultOfDoors (wsV RX4 33 RX4 yX4_goesOn wsX4_goesOn) := goodIn_app (goodIn_of _ (by decide +kernel)) ggX4_firstFaultOfDoors_X4_goesOn
set_option maxRecDepth 20000 in
theorem ggX4_goesOn_X2_addDoor : GoodIn wsX4_goesOn wsX2_addDoor := goodIn_r _ [6, 7, 8, 9, 10, 11, 5, 12, 13, 14, 15, 16, 17, 36, 37, 38, 39, 40] (by decide +kernel) (by decide +kernel)
set_option maxRecDepth 20000 in
theorem gX4_goesOn_X2_addDoor : GoodIn wsX4_goesOn (wsV RX4 41 RX2 yX2_addDoor wsX2_addDoor) := goodIn_app (goodIn_of _ (by decide +kernel)) ggX4_goesOn_X2_addDoor
set_option maxRecDepth 20000 in
theorem ggX4_goesOn_X2_addBeat : GoodIn wsX4_goesOn wsX2_addBeat := goodIn_r _ [12, 7, 8, 13, 14, 15, 16, 5, 17, 36, 37, 38, 39, 40] (by decide +kernel) (by decide +kernel)
set_option maxRecDepth 20000 in
theorem gX4_goesOn_X2_addBeat : GoodIn wsX4_goesOn (wsV RX4 45 RX2 yX2_addBeat wsX2_addBeat) := goodIn_app (goodIn_of _ (by decide +kernel)) ggX4_goesOn_X2_addBeat
set_option maxRecDepth 20000 in
theorem ggX4_goesOn_X2_addRising : GoodIn wsX4_goesOn wsX2_addRising := goodIn_r _ [22, 7, 8, 13, 14, 15, 16, 5, 17, 23, 24, 25, 26, 27, 28, 29, 30, 31, 32, 33, 34, 36, 37, 38, 39, 40] (by decide +kernel) (by decide +kernel)
set_option maxRecDepth 20000 in
theorem gX4_goesOn_X2_addRising : GoodIn wsX4_goesOn (wsV RX4 48 RX2 yX2_addRising wsX2_addRising) := goodIn_app (goodIn_of _ (by decide +kernel)) ggX4_goesOn_X2_addRising
set_option maxRecDepth 20000 in
theorem ggX5_join_X5_isFull : GoodIn wsX5_join wsX5_isFull := goodIn_r _ [8, 2, 9, 10, 11] (by decide +kernel) (by decide +kernel)
set_option maxRecDepth 20000 in
theorem gX5_join_X5_isFull : GoodIn wsX5_join (wsV RX5 22 RX5 yX5_isFull wsX5_isFull) := goodIn_app (goodIn_of _ (by decide +kernel)) ggX5_join_X5_isFull
set_option maxRecDepth 20000 in
theorem ggX5_kindOf_X5_includes : GoodIn wsX5_kindOf wsX5_includes := goodIn_r _ [6, 7, 8, 9, 10] (by decide +kernel) (by decide +kernel)
set_option maxRecDepth 20000 in
theorem gX5_kindOf_X5_includes : GoodIn wsX5_kindOf (wsV RX5 26 RX5 yX5_includes wsX5_includes) := goodIn_app (goodIn_of _ (by decide +kernel)) ggX5_kindOf_X5_includes
set_option maxRecDepth 20000 in
theorem ggX5_weightOf_X5_includes : GoodIn wsX5_weightOf wsX5_includes := goodIn_r _ [6, 7, 8, 9, 10] (by decide +kernel) (by decide +kernel)
set_option maxRecDepth 20000 in
theorem gX5_weightOf_X5_includes : GoodIn wsX5_weightOf (wsV RX5 26 RX5 yX5_includes wsX5_includes) := goodIn_app (goodIn_of _ (by decide +kernel)) ggX5_weightOf_X5_includes
set_option maxRecDepth 20000 in
theorem ggX5_isOfKind_X5_kindOf : GoodIn wsX5_isOfKind wsX5_kindOf := goodIn_r _ [5, 6, 7, 8, 9, 4, 10, 11, 12, 13, 14] (by decide +kernel) (by decide +kernel)
set_option maxRecDepth 20000 in
theorem gX5_isOfKind_X5_kindOf : GoodIn wsX5_isOfKind (wsV RX5 30 RX5 yX5_kindOf wsX5_kindOf) := goodIn_app (goodIn_of _ (by decide +kernel)) ggX5_isOfKind_X5_kindOf
set_option maxRecDepth 20000 in
theorem ggX6_init_X3_init : GoodIn wsX6_init wsX3_init := goodIn_r _ [26, 27, 2, 3, 22, 28, 29, 30, 31, 32, 33, 34, 73, 74, 75] (by decide +kernel) (by decide +kernel)
set_option maxRecDepth 20000 in
theorem gX6_init_X3_init : GoodIn wsX6_init (wsX3_init) := ggX6_init_X3_init
set_option maxRecDepth 20000 in
theorem ggX6_init_X4_init : GoodIn wsX6_init wsX4_init := goodIn_r _ [36, 37, 2, 3, 38, 39, 40, 41, 42, 43, 44, 22, 45, 46, 47, 96, 97, 98, 99, 100, 85] (by decide +kernel) (by decide +kernel)
set_option maxRecDepth 20000 in
theorem gX6_init_X4_init_n20 : GoodIn wsX6_init (wsX4_init) := ggX6_init_X4_init
set_option maxRecDepth 20000 in
theorem ggX6_init_X0_init : GoodIn wsX6_init wsX0_init := goodIn_r _ [49, 50, 2, 3, 51, 39, 40, 52, 53, 54, 55, 56, 22, 57, 58, 59, 60, 61, 62, 63, 42, 43, 44, 45, 46, 47, 64, 65, 66, 67, 68, 96, 97, 98, 99, 100, 86, 87, 88, 89, 90, 91, 92, 93, 101, 102, 103] (by decide +kernel) (by decide +kernel)
set_option maxRecDepth 20000 in
theorem gX6_init_X0_init_n27 : GoodIn wsX6_init (wsX0_init) := ggX6_init_X0_init
set_option maxRecDepth 20000 in
theorem ggX6_init_X1_init : GoodIn wsX6_init wsX1_init := goodIn_r _ [70, 71, 2, 3, 22, 72, 94, 95] (by decide +kernel) (by decide +kernel)
set_option maxRecDepth 20000 in
theorem gX6_init_X1_init_n44 : GoodIn wsX6_init (wsX1_init) := ggX6_init_X1_init
set_option maxRecDepth 20000 in
theorem ggX6_lock_X6_takeRow : GoodIn wsX6_lock wsX6_takeRow := goodIn_r _ [10, 11, 12, 2, 13, 14, 15, 16, 17, 18, 19, 20, 21, 22, 23, 24, 25, 26, 27, 28, 29, 30, 31, 32, 33, 34, 35, 36, 37, 38, 39, 40, 41, 42, 43, 9, 44, 45, 46, 47, 48, 49, 50, 51, 52, 53, 119, 120, 121, 122, 123, 124, 125, 126, 127, 139, 140, 141] (by decide +kernel) (by decide +kernel)
set_option maxRecDepth 20000 in
theorem gX6_lock_X6_takeRow : GoodIn wsX6_lock (wsV RX6 53 RX6 yX6_takeRow wsX6_takeRow) := goodIn_app (goodIn_of _ (by decide +kernel)) ggX6_lock_X6_takeRow
set_option maxRecDepth 20000 in
theorem ggX6_lock_X4_firstFault : GoodIn wsX6_lock wsX4_firstFault := goodIn_r _ [58, 59, 60, 61, 62, 63, 64, 65, 66, 67, 68, 69, 70, 71, 72, 73, 74, 75, 76, 77, 78, 57, 79, 80, 81, 82, 83, 84, 85, 86, 87, 88, 89, 90, 91, 92, 93, 94, 95, 96, 97, 98, 99, 100, 101, 102, 103, 104, 105, 106, 107, 108, 109, 110, 111, 112, 113, 128, 134, 135, 136, 137, 138] (by decide +kernel) (by decide +kernel)
set_option maxRecDepth 20000 in
theorem gX6_lock_X4_firstFault : GoodIn wsX6_lock (wsV RX6 57 RX4 yX4_firstFault wsX4_firstFault) := goodIn_app (goodIn_of _ (by decide +kernel)) ggX6_lock_X4_firstFault
set_option maxRecDepth 20000 in
theorem ggX6_lock_X2_becomeLike : GoodIn wsX6_lock wsX2_becomeLike := goodIn_r _ [117, 69, 70, 75, 118, 51, 52, 53, 88, 93, 134, 135, 136, 137, 138] (by decide +kernel) (by decide +kernel)
set_option maxRecDepth 20000 in
theorem gX6_lock_X2_becomeLike : GoodIn wsX6_lock (wsV RX6 64 RX2 yX2_becomeLike wsX2_becomeLike) := goodIn_app (goodIn_of _ (by decide +kernel)) ggX6_lock_X2_becomeLike
set_option maxRecDepth 20000 in
theorem ggX6_board_X2_hasBoard : GoodIn wsX6_board wsX2_hasBoard := goodIn_r _ [6, 7, 17, 18, 19, 20, 21] (by decide +kernel) (by decide +kernel)
set_option maxRecDepth 20000 in
theorem gX6_board_X2_hasBoard : GoodIn wsX6_board (wsV RX6 80 RX2 yX2_hasBoard wsX2_hasBoard) := goodIn_app (goodIn_of _ (by decide +kernel)) ggX6_board_X2_hasBoard
set_option maxRecDepth 20000 in
theorem ggX6_beat_X2_hasDoor : GoodIn wsX6_beat wsX2_hasDoor := goodIn_r _ [6, 7, 33, 34, 35, 36, 37] (by decide +kernel) (by decide +kernel)
set_option maxRecDepth 20000 in
theorem gX6_beat_X2_hasDoor : GoodIn wsX6_beat (wsV RX6 87 RX2 yX2_hasDoor wsX2_hasDoor) := goodIn_app (goodIn_of _ (by decide +kernel)) ggX6_beat_X2_hasDoor
set_option maxRecDepth 20000 in
theorem ggX6_beat_X2_beatsOf : GoodIn wsX6_beat wsX2_beatsOf := goodIn_r _ [11, 12, 13, 3, 4, 5, 6, 7, 33, 34, 35, 36, 37] (by decide +kernel) (by decide +kernel)
set_option maxRecDepth 20000 in
theorem gX6_beat_X2_beatsOf : GoodIn wsX6_beat (wsV RX6 90 RX2 yX2_beatsOf wsX2_beatsOf) := goodIn_app (goodIn_of _ (by decide +kernel)) ggX6_beat_X2_beatsOf
set_option maxRecDepth 20000 in
theorem ggX6_beat_X2_hasBeat : GoodIn wsX6_beat wsX2_hasBeat := goodIn_r _ [17, 12, 13, 3, 4, 5, 6, 7, 33, 34, 35, 36, 37] (by decide +kernel) (by decide +kernel)
set_option maxRecDepth 20000 in
theorem gX6_beat_X2_hasBeat : GoodIn wsX6_beat (wsV RX6 94 RX2 yX2_hasBeat wsX2_hasBeat) := goodIn_app (goodIn_of _ (by decide +kernel)) ggX6_beat_X2_hasBeat
set_option maxRecDepth 20000 in
theorem ggX6_beat_X2_figureAt : GoodIn wsX6_beat wsX2_figureAt := goodIn_r _ [21, 22, 23, 15, 16, 5, 17, 12, 13, 3, 4, 6, 7, 33, 34, 35, 36, 37] (by decide +kernel) (by decide +kernel)
set_option maxRecDepth 20000 in
theorem gX6_beat_X2_figureAt : GoodIn wsX6_beat (wsV RX6 98 RX2 yX2_figureAt wsX2_figureAt) := goodIn_app (goodIn_of _ (by decide +kernel)) ggX6_beat_X2_figureAt
set_option maxRecDepth 20000 in
theorem ggX6_change_X2_hasBeat : GoodIn wsX6_change wsX2_hasBeat := goodIn_r _ [6, 7, 8, 9, 10, 5, 11, 12, 44, 45, 46, 47, 48] (by decide +kernel) (by decide +kernel)
set_option maxRecDepth 20000 in
theorem gX6_change_X2_hasBeat : GoodIn wsX6_change (wsV RX6 94 RX2 yX2_hasBeat wsX2_hasBeat) := goodIn_app (goodIn_of _ (by decide +kernel)) ggX6_change_X2_hasBeat
set_option maxRecDepth 20000 in
theorem ggX6_change_X2_allBoards : GoodIn wsX6_change wsX2_allBoards := goodIn_r _ [16, 17, 44, 45, 46, 47, 48] (by decide +kernel) (by decide +kernel)
set_option maxRecDepth 20000 in
theorem gX6_change_X2_allBoards : GoodIn wsX6_change (wsV RX6 102 RX2 yX2_allBoards wsX2_allBoards) := goodIn_app (goodIn_of _ (by decide +kernel)) ggX6_change_X2_allBoards
set_option maxRecDepth 20000 in
theorem ggX6_change_J6_bitCount_0f7a4 : GoodIn wsX6_change wsJ6_bitCount_0f7a4 := goodIn_r _ [21, 22, 23, 24] (by decide +kernel) (by decide +kernel)
set_option maxRecDepth 20000 in
theorem gX6_change_J6_bitCount_0f7a4 : GoodIn wsX6_change (va_wsS RX6 106 yJ6_bitCount_0f7a4 wsJ6_bitCount_0f7a4) := goodIn_app (goodIn_of _ (by decide +kernel)) ggX6_change_J6_bitCount_0f7a4
set_option maxRecDepth 20000 in
theorem ggX6_change_X2_exchange : GoodIn wsX6_change wsX2_exchange := goodIn_r _ [28, 29, 30, 31, 32, 5, 33, 34, 3, 4, 6, 7, 8, 9, 10, 11, 12, 44, 45, 46, 47, 48] (by decide +kernel) (by decide +kernel)
set_option maxRecDepth 20000 in
theorem gX6_change_X2_exchange : GoodIn wsX6_change (wsV RX6 111 RX2 yX2_exchange wsX2_exchange) := goodIn_app (goodIn_of _ (by decide +kernel)) ggX6_change_X2_exchange
set_option maxRecDepth 20000 in
theorem ggX6_dancer_X2_stands : GoodIn wsX6_dancer wsX2_stands := goodIn_r _ [7, 8, 31, 32, 33, 34, 35] (by decide +kernel) (by decide +kernel)
set_option maxRecDepth 20000 in
theorem gX6_dancer_X2_stands : GoodIn wsX6_dancer (wsV RX6 115 RX2 yX2_stands wsX2_stands) := goodIn_app (goodIn_of _ (by decide +kernel)) ggX6_dancer_X2_stands
set_option maxRecDepth 20000 in
theorem ggX6_dancer_X5_isFull : GoodIn wsX6_dancer wsX5_isFull := goodIn_r _ [13, 14, 36, 37, 38] (by decide +kernel) (by decide +kernel)
set_option maxRecDepth 20000 in
theorem gX6_dancer_X5_isFull : GoodIn wsX6_dancer (wsV RX6 119 RX5 yX5_isFull wsX5_isFull) := goodIn_app (goodIn_of _ (by decide +kernel)) ggX6_dancer_X5_isFull
set_option maxRecDepth 20000 in
theorem ggX6_dancer_X5_join : GoodIn wsX6_dancer wsX5_join := goodIn_r _ [18, 19, 14, 20, 21, 10, 11, 12, 13, 36, 37, 38] (by decide +kernel) (by decide +kernel)
set_option maxRecDepth 20000 in
theorem gX6_dancer_X5_join : GoodIn wsX6_dancer (wsV RX6 122 RX5 yX5_join wsX5_join) := goodIn_app (goodIn_of _ (by decide +kernel)) ggX6_dancer_X5_join
set_option maxRecDepth 20000 in
theorem ggX6_ofDancer_X5_includes : GoodIn wsX6_ofDancer wsX5_includes := goodIn_r _ [6, 7, 31, 32, 33] (by decide +kernel) (by decide +kernel)
set_option maxRecDepth 20000 in
theorem gX6_ofDancer_X5_includes : GoodIn wsX6_ofDancer (wsV RX6 125 RX5 yX5_includes wsX5_includes) := goodIn_app (goodIn_of _ (by decide +kernel)) ggX6_ofDancer_X5_includes
set_option maxRecDepth 20000 in
theorem ggX6_ofDancer_X5_kindOf : GoodIn wsX6_ofDancer wsX5_kindOf := goodIn_r _ [11, 12, 13, 3, 4, 5, 6, 7, 31, 32, 33] (by decide +kernel) (by decide +kernel)
set_option maxRecDepth 20000 in
theorem gX6_ofDancer_X5_kindOf : GoodIn wsX6_ofDancer (wsV RX6 128 RX5 yX5_kindOf wsX5_kindOf) := goodIn_app (goodIn_of _ (by decide +kernel)) ggX6_ofDancer_X5_kindOf
set_option maxRecDepth 20000 in
theorem ggX6_ofDancer_X5_weightOf : GoodIn wsX6_ofDancer wsX5_weightOf := goodIn_r _ [17, 18, 13, 3, 4, 5, 6, 7, 31, 32, 33] (by decide +kernel) (by decide +kernel)
set_option maxRecDepth 20000 in
theorem gX6_ofDancer_X5_weightOf : GoodIn wsX6_ofDancer (wsV RX6 131 RX5 yX5_weightOf wsX5_weightOf) := goodIn_app (goodIn_of _ (by decide +kernel)) ggX6_ofDancer_X5_weightOf
set_option maxRecDepth 20000 in
theorem ggX6_ofDancer_X5_pull : GoodIn wsX6_ofDancer wsX5_pull := goodIn_r _ [21] (by decide +kernel) (by decide +kernel)
set_option maxRecDepth 20000 in
theorem gX6_ofDancer_X5_pull : GoodIn wsX6_ofDancer (va_wsS RX6 134 yX5_pull wsX5_pull) := goodIn_app (goodIn_of _ (by decide +kernel)) ggX6_ofDancer_X5_pull
set_option maxRecDepth 20000 in
theorem ggX6_opens_X6_takePlan : GoodIn wsX6_opens wsX6_takePlan := goodIn_r _ [6, 7, 8, 1, 9, 10, 11, 12, 5, 13, 14, 15, 16, 17, 18, 19, 20, 21, 22, 23, 24, 25, 26, 27, 28, 29, 30, 31, 32, 33, 34, 35, 36, 37, 38, 39, 40, 41, 42, 43, 44, 45, 46, 47, 48, 49, 50, 51, 52, 53, 54, 55, 56, 57, 58, 59, 60, 61, 62, 63, 64, 65, 66, 67, 68, 69, 70, 71, 72, 73, 74, 75, 76, 77, 78, 79, 165, 166, 167, 168, 169, 170, 171, 172, 173, 174, 175, 176, 177, 178, 179, 180, 181, 182, 183, 184, 185, 186, 187, 188, 189, 190, 191, 192] (by decide +kernel) (by decide +kernel)
set_option maxRecDepth 20000 in
theorem gX6_opens_X6_takePlan : GoodIn wsX6_opens (wsV RX6 137 RX6 yX6_takePlan wsX6_takePlan) := goodIn_app (goodIn_of _ (by decide +kernel)) ggX6_opens_X6_takePlan
set_option maxRecDepth 20000 in
theorem ggX6_opens_X0_doorOpened : GoodIn wsX6_opens wsX0_doorOpened := goodIn_r _ [83, 69, 84, 85, 86, 60, 87, 88, 89, 90, 91, 92, 62, 93, 94, 95, 66, 96, 97, 98, 99, 100, 101, 102, 103, 104, 105, 68, 106, 107, 108, 109, 110, 111, 112, 113, 114, 115, 116, 117, 118, 119, 120, 121, 122, 123, 124, 125, 126, 127, 128, 129, 130, 131, 132, 133, 134, 135, 136, 137, 138, 139, 140, 141, 142, 143, 144, 145, 146, 147, 79, 70, 71, 72, 73, 74, 148, 149, 150, 151, 152, 153, 154, 155, 156, 157, 158, 159, 160, 161, 162, 163, 164, 185, 186, 187, 188, 189, 190, 191, 192, 180, 181, 182, 183, 184, 174, 175, 176] (by decide +kernel) (by decide +kernel)
set_option maxRecDepth 20000 in
theorem gX6_opens_X0_doorOpened : GoodIn wsX6_opens (wsV RX6 141 RX0 yX0_doorOpened wsX0_doorOpened) := goodIn_app (goodIn_of _ (by decide +kernel)) ggX6_opens_X0_doorOpened
set_option maxRecDepth 20000 in
theorem ggX6_felt_X6_takePlan : GoodIn wsX6_felt wsX6_takePlan := goodIn_r _ [6, 7, 8, 1, 9, 10, 11, 12, 5, 13, 14, 15, 16, 17, 18, 19, 20, 21, 22, 23, 24, 25, 26, 27, 28, 29, 30, 31, 32, 33, 34, 35, 36, 37, 38, 39, 40, 41, 42, 43, 44, 45, 46, 47, 48, 49, 50, 51, 52, 53, 54, 55, 56, 57, 58, 59, 60, 61, 62, 63, 64, 65, 66, 67, 68, 69, 70, 71, 72, 73, 74, 75, 76, 77, 78, 79, 139, 140, 141, 142, 143, 144, 145, 146, 147, 148, 149, 150, 151, 152, 153, 154, 155, 156, 157, 158, 159, 160, 161, 162, 163, 164, 165, 166] (by decide +kernel) (by decide +kernel)
set_option maxRecDepth 20000 in
theorem gX6_felt_X6_takePlan : GoodIn wsX6_felt (wsV RX6 137 RX6 yX6_takePlan wsX6_takePlan) := goodIn_app (goodIn_of _ (by decide +kernel)) ggX6_felt_X6_takePlan
set_option maxRecDepth 20000 in
theorem ggX6_felt_X0_feltIn : GoodIn wsX6_felt wsX0_feltIn := goodIn_r _ [83, 84, 69, 85, 86, 87, 66, 88, 68, 89, 90, 91, 92, 93, 94, 95, 96, 97, 98, 99, 100, 101, 102, 103, 104, 105, 106, 107, 108, 109, 110, 111, 112, 113, 114, 115, 116, 117, 118, 119, 120, 121, 122, 123, 124, 125, 126, 127, 128, 129, 130, 79, 70, 71, 72, 60, 73, 74, 131, 132, 133, 134, 135, 136, 137, 138, 159, 160, 161, 162, 163, 164, 165, 166, 154, 155, 156, 157, 158, 148, 149, 150] (by decide +kernel) (by decide +kernel)
set_option maxRecDepth 20000 in
theorem gX6_felt_X0_feltIn : GoodIn wsX6_felt (wsV RX6 144 RX0 yX0_feltIn wsX0_feltIn) := goodIn_app (goodIn_of _ (by decide +kernel)) ggX6_felt_X0_feltIn
set_option maxRecDepth 20000 in
theorem ggX6_wrong_X2_hasDoor : GoodIn wsX6_wrong wsX2_hasDoor := goodIn_r _ [8, 9, 172, 173, 174, 175, 176] (by decide +kernel) (by decide +kernel)
set_option maxRecDepth 20000 in
theorem gX6_wrong_X2_hasDoor : GoodIn wsX6_wrong (wsV RX6 87 RX2 yX2_hasDoor wsX2_hasDoor) := goodIn_app (goodIn_of _ (by decide +kernel)) ggX6_wrong_X2_hasDoor
set_option maxRecDepth 20000 in
theorem ggX6_wrong_X2_beatsOf : GoodIn wsX6_wrong wsX2_beatsOf := goodIn_r _ [13, 14, 15, 5, 6, 7, 8, 9, 172, 173, 174, 175, 176] (by decide +kernel) (by decide +kernel)
set_option maxRecDepth 20000 in
theorem gX6_wrong_X2_beatsOf : GoodIn wsX6_wrong (wsV RX6 90 RX2 yX2_beatsOf wsX2_beatsOf) := goodIn_app (goodIn_of _ (by decide +kernel)) ggX6_wrong_X2_beatsOf
set_option maxRecDepth 20000 in
theorem ggX6_wrong_X6_takePlan : GoodIn wsX6_wrong wsX6_takePlan := goodIn_r _ [20, 21, 2, 3, 22, 23, 24, 25, 19, 26, 1, 27, 28, 29, 30, 31, 32, 33, 34, 35, 36, 37, 38, 39, 40, 41, 42, 43, 44, 45, 46, 47, 48, 49, 50, 51, 52, 53, 54, 55, 56, 57, 58, 59, 60, 61, 62, 63, 64, 65, 66, 67, 68, 69, 70, 71, 7, 72, 9, 73, 74, 75, 76, 77, 78, 79, 80, 81, 82, 83, 84, 85, 86, 87, 88, 89, 163, 164, 165, 166, 167, 168, 169, 170, 171, 177, 178, 179, 180, 181, 182, 172, 173, 174, 175, 176, 183, 184, 185, 186, 187, 188, 189, 190] (by decide +kernel) (by decide +kernel)
set_option maxRecDepth 20000 in
theorem gX6_wrong_X6_takePlan : GoodIn wsX6_wrong (wsV RX6 137 RX6 yX6_takePlan wsX6_takePlan) := goodIn_app (goodIn_of _ (by decide +kernel)) ggX6_wrong_X6_takePlan
set_option maxRecDepth 20000 in
theorem ggX6_wrong_X0_firstWrong : GoodIn wsX6_wrong wsX0_firstWrong := goodIn_r _ [93, 79, 94, 11, 12, 7, 13, 14, 15, 5, 6, 8, 9, 95, 96, 97, 76, 98, 99, 100, 101, 102, 103, 78, 104, 105, 106, 107, 108, 109, 110, 111, 112, 113, 114, 115, 116, 117, 118, 119, 120, 121, 122, 123, 124, 125, 126, 127, 128, 129, 130, 131, 132, 133, 134, 135, 136, 137, 138, 139, 140, 141, 142, 143, 144, 145, 89, 80, 81, 82, 83, 84, 146, 147, 148, 149, 150, 151, 152, 153, 154, 155, 156, 157, 158, 159, 160, 161, 162, 183, 184, 185, 186, 187, 188, 189, 190, 172, 173, 174, 175, 176, 177, 178, 179] (by decide +kernel) (by decide +kernel)
set_option maxRecDepth 20000 in
theorem gX6_wrong_X0_firstWrong : GoodIn wsX6_wrong (wsV RX6 150 RX0 yX0_firstWrong wsX0_firstWrong) := goodIn_app (goodIn_of _ (by decide +kernel)) ggX6_wrong_X0_firstWrong
set_option maxRecDepth 20000 in
theorem ggX6_can_X2_hasDoor : GoodIn wsX6_can wsX2_hasDoor := goodIn_r _ [7, 8, 130, 131, 132, 133, 134] (by decide +kernel) (by decide +kernel)
set_option maxRecDepth 20000 in
theorem gX6_can_X2_hasDoor : GoodIn wsX6_can (wsV RX6 87 RX2 yX2_hasDoor wsX2_hasDoor) := goodIn_app (goodIn_of _ (by decide +kernel)) ggX6_can_X2_hasDoor
set_option maxRecDepth 20000 in
theorem ggX6_can_X0_findPlan : GoodIn wsX6_can wsX0_findPlan := goodIn_r _ [13, 14, 15, 16, 17, 18, 12, 19, 20, 21, 22, 23, 24, 25, 26, 27, 28, 29, 30, 31, 32, 33, 34, 35, 36, 37, 38, 39, 40, 41, 42, 43, 44, 45, 46, 47, 48, 49, 6, 50, 51, 52, 4, 5, 7, 8, 53, 54, 55, 56, 57, 58, 59, 60, 61, 62, 63, 64, 65, 66, 67, 68, 69, 70, 71, 72, 73, 74, 75, 76, 77, 78, 79, 80, 81, 82, 83, 84, 85, 86, 87, 88, 89, 90, 91, 92, 93, 94, 95, 96, 97, 98, 99, 100, 101, 102, 103, 104, 105, 106, 107, 108, 109, 110, 111, 112, 113, 114, 115, 116, 117, 118, 119, 120, 135, 136, 137, 138, 139, 140, 141, 142, 143, 144, 145, 130, 131, 132, 133, 134] (by decide +kernel) (by decide +kernel)
set_option maxRecDepth 20000 in
theorem gX6_can_X0_findPlan : GoodIn wsX6_can (wsV RX6 153 RX0 yX0_findPlan wsX0_findPlan) := goodIn_app (goodIn_of _ (by decide +kernel)) ggX6_can_X0_findPlan
set_option maxRecDepth 20000 in
theorem ggX6_plan_X2_hasBeat : GoodIn wsX6_plan wsX2_hasBeat := goodIn_r _ [8, 9, 10, 11, 12, 7, 13, 14, 133, 134, 135, 136, 137] (by decide +kernel) (by decide +kernel)
set_option maxRecDepth 20000 in
theorem gX6_plan_X2_hasBeat : GoodIn wsX6_plan (wsV RX6 94 RX2 yX2_hasBeat wsX2_hasBeat) := goodIn_app (goodIn_of _ (by decide +kernel)) ggX6_plan_X2_hasBeat
set_option maxRecDepth 20000 in
theorem ggX6_plan_X5_includes : GoodIn wsX6_plan wsX5_includes := goodIn_r _ [19, 20, 138, 139, 140] (by decide +kernel) (by decide +kernel)
set_option maxRecDepth 20000 in
theorem gX6_plan_X5_includes : GoodIn wsX6_plan (wsV RX6 125 RX5 yX5_includes wsX5_includes) := goodIn_app (goodIn_of _ (by decide +kernel)) ggX6_plan_X5_includes
set_option maxRecDepth 20000 in
theorem ggX6_plan_X0_findPlan : GoodIn wsX6_plan wsX0_findPlan := goodIn_r _ [25, 26, 27, 28, 29, 30, 24, 31, 32, 33, 34, 35, 36, 37, 38, 39, 40, 41, 42, 18, 43, 44, 45, 16, 17, 19, 20, 46, 47, 48, 49, 50, 51, 52, 53, 54, 55, 56, 7, 57, 9, 10, 11, 12, 13, 14, 58, 59, 60, 61, 62, 63, 64, 65, 66, 67, 68, 69, 70, 71, 5, 6, 8, 72, 73, 74, 75, 76, 77, 78, 79, 80, 81, 82, 83, 84, 85, 86, 87, 88, 89, 90, 91, 92, 93, 94, 95, 96, 97, 98, 99, 100, 101, 102, 103, 104, 105, 106, 107, 108, 109, 110, 111, 112, 113, 114, 115, 116, 117, 118, 119, 120, 121, 122, 141, 142, 143, 144, 145, 146, 147, 148, 138, 139, 140, 133, 134, 135, 136, 137] (by decide +kernel) (by decide +kernel)
set_option maxRecDepth 20000 in
theorem gX6_plan_X0_findPlan : GoodIn wsX6_plan (wsV RX6 153 RX0 yX0_findPlan wsX0_findPlan) := goodIn_app (goodIn_of _ (by decide +kernel)) ggX6_plan_X0_findPlan
set_option maxRecDepth 20000 in
theorem ggX6_plan_X0_stepOf : GoodIn wsX6_plan wsX0_stepOf := goodIn_r _ [91, 92, 141, 142, 143, 144, 145, 146, 147, 148] (by decide +kernel) (by decide +kernel)
set_option maxRecDepth 20000 in
theorem gX6_plan_X0_stepOf : GoodIn wsX6_plan (wsV RX6 157 RX0 yX0_stepOf wsX0_stepOf) := goodIn_app (goodIn_of _ (by decide +kernel)) ggX6_plan_X0_stepOf
set_option maxRecDepth 20000 in
theorem ggX6_limped_X2_hasDoor : GoodIn wsX6_limped wsX2_hasDoor := goodIn_r _ [7, 8, 143, 144, 145, 146, 147] (by decide +kernel) (by decide +kernel)
set_option maxRecDepth 20000 in
theorem gX6_limped_X2_hasDoor : GoodIn wsX6_limped (wsV RX6 87 RX2 yX2_hasDoor wsX2_hasDoor) := goodIn_app (goodIn_of _ (by decide +kernel)) ggX6_limped_X2_hasDoor
set_option maxRecDepth 20000 in
theorem ggX6_limped_X0_findPlan : GoodIn wsX6_limped wsX0_findPlan := goodIn_r _ [13, 14, 15, 16, 17, 18, 12, 19, 20, 21, 22, 23, 24, 25, 26, 27, 28, 29, 30, 31, 32, 33, 34, 35, 36, 37, 38, 39, 40, 41, 42, 43, 44, 45, 46, 47, 48, 49, 6, 50, 51, 52, 4, 5, 7, 8, 53, 54, 55, 56, 57, 58, 59, 60, 61, 62, 63, 64, 65, 66, 67, 68, 69, 70, 71, 72, 73, 74, 75, 76, 77, 78, 79, 80, 81, 82, 83, 84, 85, 86, 87, 88, 89, 90, 91, 92, 93, 94, 95, 96, 97, 98, 99, 100, 101, 102, 103, 104, 105, 106, 107, 108, 109, 110, 111, 112, 113, 114, 115, 116, 117, 118, 119, 120, 148, 149, 150, 151, 152, 153, 154, 155, 156, 157, 158, 143, 144, 145, 146, 147] (by decide +kernel) (by decide +kernel)
set_option maxRecDepth 20000 in
theorem gX6_limped_X0_findPlan : GoodIn wsX6_limped (wsV RX6 153 RX0 yX0_findPlan wsX0_findPlan) := goodIn_app (goodIn_of _ (by decide +kernel)) ggX6_limped_X0_findPlan
set_option maxRecDepth 20000 in
theorem ggX6_limped_X2_beatsOf : GoodIn wsX6_limped wsX2_beatsOf := goodIn_r _ [50, 51, 52, 4, 5, 6, 7, 8, 143, 144, 145, 146, 147] (by decide +kernel) (by decide +kernel)
set_option maxRecDepth 20000 in
theorem gX6_limped_X2_beatsOf : GoodIn wsX6_limped (wsV RX6 90 RX2 yX2_beatsOf wsX2_beatsOf) := goodIn_app (goodIn_of _ (by decide +kernel)) ggX6_limped_X2_beatsOf
set_option maxRecDepth 20000 in
theorem ggX6_limped_X0_doorOpened : GoodIn wsX6_limped wsX0_doorOpened := goodIn_r _ [125, 14, 47, 48, 49, 6, 50, 51, 52, 4, 5, 7, 8, 126, 127, 128, 12, 129, 130, 131, 132, 133, 25, 16, 17, 18, 19, 20, 21, 22, 23, 24, 26, 27, 28, 29, 30, 31, 32, 33, 34, 35, 36, 37, 38, 39, 40, 41, 42, 43, 44, 45, 46, 74, 75, 76, 77, 78, 79, 80, 55, 81, 82, 83, 84, 85, 86, 87, 88, 89, 90, 91, 92, 93, 94, 95, 96, 97, 98, 99, 100, 101, 102, 103, 61, 62, 63, 64, 65, 66, 67, 68, 69, 148, 149, 150, 151, 152, 153, 154, 155, 143, 144, 145, 146, 147, 156, 157, 158] (by decide +kernel) (by decide +kernel)
set_option maxRecDepth 20000 in
theorem gX6_limped_X0_doorOpened : GoodIn wsX6_limped (wsV RX6 141 RX0 yX0_doorOpened wsX0_doorOpened) := goodIn_app (goodIn_of _ (by decide +kernel)) ggX6_limped_X0_doorOpened
set_option maxRecDepth 20000 in
theorem ggX6_family_X2_allBars : GoodIn wsX6_family wsX2_allBars := goodIn_r _ [7, 8, 9, 10, 11, 6, 12, 13, 14, 15, 16, 17, 18, 19, 20, 21, 47, 48, 49, 50, 51] (by decide +kernel) (by decide +kernel)
set_option maxRecDepth 20000 in
theorem gX6_family_X2_allBars : GoodIn wsX6_family (wsV RX6 160 RX2 yX2_allBars wsX2_allBars) := goodIn_app (goodIn_of _ (by decide +kernel)) ggX6_family_X2_allBars
set_option maxRecDepth 20000 in
theorem ggX6_family_X2_stands : GoodIn wsX6_family wsX2_stands := goodIn_r _ [25, 8, 47, 48, 49, 50, 51] (by decide +kernel) (by decide +kernel)
set_option maxRecDepth 20000 in
theorem gX6_family_X2_stands : GoodIn wsX6_family (wsV RX6 115 RX2 yX2_stands wsX2_stands) := goodIn_app (goodIn_of _ (by decide +kernel)) ggX6_family_X2_stands
set_option maxRecDepth 20000 in
theorem ggX6_family_X1_isFull : GoodIn wsX6_family wsX1_isFull := goodIn_r _ [30, 31, 52, 53] (by decide +kernel) (by decide +kernel)
set_option maxRecDepth 20000 in
theorem gX6_family_X1_isFull : GoodIn wsX6_family (wsV RX6 163 RX1 yX1_isFull wsX1_isFull) := goodIn_app (goodIn_of _ (by decide +kernel)) ggX6_family_X1_isFull
set_option maxRecDepth 20000 in
theorem ggX6_family_X1_add : GoodIn wsX6_family wsX1_add := goodIn_r _ [35, 36, 31, 37, 27, 28, 29, 30, 52, 53] (by decide +kernel) (by decide +kernel)
set_option maxRecDepth 20000 in
theorem gX6_family_X1_add : GoodIn wsX6_family (wsV RX6 164 RX1 yX1_add wsX1_add) := goodIn_app (goodIn_of _ (by decide +kernel)) ggX6_family_X1_add
set_option maxRecDepth 20000 in
theorem ggX6_knows_X1_includes : GoodIn wsX6_knows wsX1_includes := goodIn_r _ [6, 7, 23, 24] (by decide +kernel) (by decide +kernel)
set_option maxRecDepth 20000 in
theorem gX6_knows_X1_includes : GoodIn wsX6_knows (wsV RX6 167 RX1 yX1_includes wsX1_includes) := goodIn_app (goodIn_of _ (by decide +kernel)) ggX6_knows_X1_includes
set_option maxRecDepth 20000 in
theorem ggX6_knows_X1_barsOf : GoodIn wsX6_knows wsX1_barsOf := goodIn_r _ [11, 12, 13, 3, 4, 5, 6, 7, 23, 24] (by decide +kernel) (by decide +kernel)
set_option maxRecDepth 20000 in
theorem gX6_knows_X1_barsOf : GoodIn wsX6_knows (wsV RX6 168 RX1 yX1_barsOf wsX1_barsOf) := goodIn_app (goodIn_of _ (by decide +kernel)) ggX6_knows_X1_barsOf
set_option maxRecDepth 20000 in
theorem ggX6_fewest_X2_hasDoor : GoodIn wsX6_fewest wsX2_hasDoor := goodIn_r _ [7, 8, 58, 59, 60, 61, 62] (by decide +kernel) (by decide +kernel)
set_option maxRecDepth 20000 in
theorem gX6_fewest_X2_hasDoor : GoodIn wsX6_fewest (wsV RX6 87 RX2 yX2_hasDoor wsX2_hasDoor) := goodIn_app (goodIn_of _ (by decide +kernel)) ggX6_fewest_X2_hasDoor
set_option maxRecDepth 20000 in
theorem ggX6_fewest_X2_barsOfDoor : GoodIn wsX6_fewest wsX2_barsOfDoor := goodIn_r _ [12, 13, 14, 15, 6, 16, 17, 18, 4, 5, 7, 8, 58, 59, 60, 61, 62] (by decide +kernel) (by decide +kernel)
set_option maxRecDepth 20000 in
theorem gX6_fewest_X2_barsOfDoor : GoodIn wsX6_fewest (wsV RX6 171 RX2 yX2_barsOfDoor wsX2_barsOfDoor) := goodIn_app (goodIn_of _ (by decide +kernel)) ggX6_fewest_X2_barsOfDoor
set_option maxRecDepth 20000 in
theorem ggX6_fewest_X1_leastSetThatKnows : GoodIn wsX6_fewest wsX1_leastSetThatKnows := goodIn_r _ [23, 24, 25, 26, 22, 27, 28, 29, 30, 31, 32, 33, 34, 35, 36, 37, 38, 39, 40, 41, 42, 43, 44, 45, 46, 47, 48, 63, 64] (by decide +kernel) (by decide +kernel)
set_option maxRecDepth 20000 in
theorem gX6_fewest_X1_leastSetThatKnows : GoodIn wsX6_fewest (wsV RX6 174 RX1 yX1_leastSetThatKnows wsX1_leastSetThatKnows) := goodIn_app (goodIn_of _ (by decide +kernel)) ggX6_fewest_X1_leastSetThatKnows
set_option maxRecDepth 20000 in
theorem ggX6_any_X2_hasDoor : GoodIn wsX6_any wsX2_hasDoor := goodIn_r _ [7, 8, 51, 52, 53, 54, 55] (by decide +kernel) (by decide +kernel)
set_option maxRecDepth 20000 in
theorem gX6_any_X2_hasDoor : GoodIn wsX6_any (wsV RX6 87 RX2 yX2_hasDoor wsX2_hasDoor) := goodIn_app (goodIn_of _ (by decide +kernel)) ggX6_any_X2_hasDoor
set_option maxRecDepth 20000 in
theorem ggX6_any_X2_barsOfDoor : GoodIn wsX6_any wsX2_barsOfDoor := goodIn_r _ [12, 13, 14, 15, 6, 16, 17, 18, 4, 5, 7, 8, 51, 52, 53, 54, 55] (by decide +kernel) (by decide +kernel)
set_option maxRecDepth 20000 in
theorem gX6_any_X2_barsOfDoor : GoodIn wsX6_any (wsV RX6 171 RX2 yX2_barsOfDoor wsX2_barsOfDoor) := goodIn_app (goodIn_of _ (by decide +kernel)) ggX6_any_X2_barsOfDoor
set_option maxRecDepth 20000 in
theorem ggX6_any_X1_numberThatMustKnow : GoodIn wsX6_any wsX1_numberThatMustKnow := goodIn_r _ [23, 24, 25, 26, 27, 28, 29, 30, 31, 22, 32, 33, 34, 35, 36, 37, 38, 39, 40, 41, 56, 57] (by decide +kernel) (by decide +kernel)
set_option maxRecDepth 20000 in
theorem gX6_any_X1_numberThatMustKnow : GoodIn wsX6_any (wsV RX6 177 RX1 yX1_numberThatMustKnow wsX1_numberThatMustKnow) := goodIn_app (goodIn_of _ (by decide +kernel)) ggX6_any_X1_numberThatMustKnow
set_option maxRecDepth 20000 in
theorem ggX6_gone_X2_hasDoor : GoodIn wsX6_gone wsX2_hasDoor := goodIn_r _ [7, 8, 51, 52, 53, 54, 55] (by decide +kernel) (by decide +kernel)
set_option maxRecDepth 20000 in
theorem gX6_gone_X2_hasDoor : GoodIn wsX6_gone (wsV RX6 87 RX2 yX2_hasDoor wsX2_hasDoor) := goodIn_app (goodIn_of _ (by decide +kernel)) ggX6_gone_X2_hasDoor
set_option maxRecDepth 20000 in
theorem ggX6_gone_X1_all : GoodIn wsX6_gone wsX1_all := goodIn_r _ [13, 14, 56, 57] (by decide +kernel) (by decide +kernel)
set_option maxRecDepth 20000 in
theorem gX6_gone_X1_all : GoodIn wsX6_gone (wsV RX6 180 RX1 yX1_all wsX1_all) := goodIn_app (goodIn_of _ (by decide +kernel)) ggX6_gone_X1_all
set_option maxRecDepth 20000 in
theorem ggX6_gone_X1_knownTogether : GoodIn wsX6_gone wsX1_knownTogether := goodIn_r _ [18, 14, 19, 20, 21, 12, 22, 23, 24, 25, 26, 27, 56, 57] (by decide +kernel) (by decide +kernel)
set_option maxRecDepth 20000 in
theorem gX6_gone_X1_knownTogether : GoodIn wsX6_gone (wsV RX6 183 RX1 yX1_knownTogether wsX1_knownTogether) := goodIn_app (goodIn_of _ (by decide +kernel)) ggX6_gone_X1_knownTogether
set_option maxRecDepth 20000 in
theorem ggX6_gone_X2_beatsOfBars : GoodIn wsX6_gone wsX2_beatsOfBars := goodIn_r _ [31, 32, 33, 34, 6, 35, 36, 37, 38, 39, 40, 41, 4, 5, 7, 8, 51, 52, 53, 54, 55] (by decide +kernel) (by decide +kernel)
set_option maxRecDepth 20000 in
theorem gX6_gone_X2_beatsOfBars : GoodIn wsX6_gone (wsV RX6 186 RX2 yX2_beatsOfBars wsX2_beatsOfBars) := goodIn_app (goodIn_of _ (by decide +kernel)) ggX6_gone_X2_beatsOfBars
set_option maxRecDepth 20000 in
theorem ggX6_evenings_X2_hasDoor : GoodIn wsX6_evenings wsX2_hasDoor := goodIn_r _ [7, 8, 62, 63, 64, 65, 66] (by decide +kernel) (by decide +kernel)
set_option maxRecDepth 20000 in
theorem gX6_evenings_X2_hasDoor : GoodIn wsX6_evenings (wsV RX6 87 RX2 yX2_hasDoor wsX2_hasDoor) := goodIn_app (goodIn_of _ (by decide +kernel)) ggX6_evenings_X2_hasDoor
set_option maxRecDepth 20000 in
theorem ggX6_evenings_X2_barsOfDoor : GoodIn wsX6_evenings wsX2_barsOfDoor := goodIn_r _ [12, 13, 14, 15, 6, 16, 17, 18, 4, 5, 7, 8, 62, 63, 64, 65, 66] (by decide +kernel) (by decide +kernel)
set_option maxRecDepth 20000 in
theorem gX6_evenings_X2_barsOfDoor : GoodIn wsX6_evenings (wsV RX6 171 RX2 yX2_barsOfDoor wsX2_barsOfDoor) := goodIn_app (goodIn_of _ (by decide +kernel)) ggX6_evenings_X2_barsOfDoor
set_option maxRecDepth 20000 in
theorem ggX6_evenings_X1_mostToLearn : GoodIn wsX6_evenings wsX1_mostToLearn := goodIn_r _ [23, 24, 25, 26, 27, 28, 29, 30, 31, 22, 32, 33, 34, 35, 36, 37, 38, 39, 40, 41, 42, 43, 44, 45, 46, 47, 48, 49, 50, 51, 52, 67, 68] (by decide +kernel) (by decide +kernel)
set_option maxRecDepth 20000 in
theorem gX6_evenings_X1_mostToLearn : GoodIn wsX6_evenings (wsV RX6 189 RX1 yX1_mostToLearn wsX1_mostToLearn) := goodIn_app (goodIn_of _ (by decide +kernel)) ggX6_evenings_X1_mostToLearn
set_option maxRecDepth 20000 in
theorem ggX6_seen_X2_allBoards : GoodIn wsX6_seen wsX2_allBoards := goodIn_r _ [7, 8, 101, 102, 103, 104, 105] (by decide +kernel) (by decide +kernel)
set_option maxRecDepth 20000 in
theorem gX6_seen_X2_allBoards : GoodIn wsX6_seen (wsV RX6 102 RX2 yX2_allBoards wsX2_allBoards) := goodIn_app (goodIn_of _ (by decide +kernel)) ggX6_seen_X2_allBoards
set_option maxRecDepth 20000 in
theorem ggX6_seen_X6_takeRow : GoodIn wsX6_seen wsX6_takeRow := goodIn_r _ [13, 14, 15, 2, 16, 17, 18, 19, 20, 21, 22, 23, 24, 25, 26, 27, 28, 29, 30, 31, 32, 33, 34, 35, 36, 37, 38, 39, 40, 41, 42, 43, 44, 45, 46, 12, 47, 48, 49, 50, 51, 52, 53, 54, 55, 56, 92, 93, 94, 95, 96, 97, 98, 99, 100, 106, 107, 108] (by decide +kernel) (by decide +kernel)
set_option maxRecDepth 20000 in
theorem gX6_seen_X6_takeRow : GoodIn wsX6_seen (wsV RX6 53 RX6 yX6_takeRow wsX6_takeRow) := goodIn_app (goodIn_of _ (by decide +kernel)) ggX6_seen_X6_takeRow
set_option maxRecDepth 20000 in
theorem ggX6_seen_X2_stands : GoodIn wsX6_seen wsX2_stands := goodIn_r _ [60, 61, 101, 102, 103, 104, 105] (by decide +kernel) (by decide +kernel)
set_option maxRecDepth 20000 in
theorem gX6_seen_X2_stands : GoodIn wsX6_seen (wsV RX6 115 RX2 yX2_stands wsX2_stands) := goodIn_app (goodIn_of _ (by decide +kernel)) ggX6_seen_X2_stands
set_option maxRecDepth 20000 in
theorem ggX6_seen_X6_rowIsWithin : GoodIn wsX6_seen wsX6_rowIsWithin := goodIn_r _ [65, 2, 92, 93, 94, 95, 96, 97, 98, 99, 100] (by decide +kernel) (by decide +kernel)
set_option maxRecDepth 20000 in
theorem gX6_seen_X6_rowIsWithin : GoodIn wsX6_seen (wsV RX6 192 RX6 yX6_rowIsWithin wsX6_rowIsWithin) := goodIn_app (goodIn_of _ (by decide +kernel)) ggX6_seen_X6_rowIsWithin
set_option maxRecDepth 20000 in
theorem ggX6_seen_X2_doorsSeen : GoodIn wsX6_seen wsX2_doorsSeen := goodIn_r _ [69, 61, 70, 71, 72, 6, 73, 74, 75, 76, 77, 78, 79, 80, 81, 82, 83, 84, 85, 86, 87, 88, 89, 90, 91, 101, 102, 103, 104, 105] (by decide +kernel) (by decide +kernel)
set_option maxRecDepth 20000 in
theorem gX6_seen_X2_doorsSeen : GoodIn wsX6_seen (wsV RX6 195 RX2 yX2_doorsSeen wsX2_doorsSeen) := goodIn_app (goodIn_of _ (by decide +kernel)) ggX6_seen_X2_doorsSeen
set_option maxRecDepth 20000 in
theorem ggX6_part_X6_takeRow : GoodIn wsX6_part wsX6_takeRow := goodIn_r _ [7, 8, 9, 2, 10, 11, 12, 13, 14, 15, 16, 17, 18, 19, 20, 21, 22, 23, 24, 25, 26, 27, 28, 29, 30, 31, 32, 33, 34, 35, 36, 37, 38, 39, 40, 6, 41, 42, 43, 44, 45, 46, 47, 48, 49, 50, 93, 94, 95, 96, 97, 98, 99, 100, 101, 102, 103, 104] (by decide +kernel) (by decide +kernel)
set_option maxRecDepth 20000 in
theorem gX6_part_X6_takeRow : GoodIn wsX6_part (wsV RX6 53 RX6 yX6_takeRow wsX6_takeRow) := goodIn_app (goodIn_of _ (by decide +kernel)) ggX6_part_X6_takeRow
set_option maxRecDepth 20000 in
theorem ggX6_part_X2_stands : GoodIn wsX6_part wsX2_stands := goodIn_r _ [55, 56, 105, 106, 107, 108, 109] (by decide +kernel) (by decide +kernel)
set_option maxRecDepth 20000 in
theorem gX6_part_X2_stands : GoodIn wsX6_part (wsV RX6 115 RX2 yX2_stands wsX2_stands) := goodIn_app (goodIn_of _ (by decide +kernel)) ggX6_part_X2_stands
set_option maxRecDepth 20000 in
theorem ggX6_part_X2_allBoards : GoodIn wsX6_part wsX2_allBoards := goodIn_r _ [60, 61, 105, 106, 107, 108, 109] (by decide +kernel) (by decide +kernel)
set_option maxRecDepth 20000 in
theorem gX6_part_X2_allBoards : GoodIn wsX6_part (wsV RX6 102 RX2 yX2_allBoards wsX2_allBoards) := goodIn_app (goodIn_of _ (by decide +kernel)) ggX6_part_X2_allBoards
set_option maxRecDepth 20000 in
theorem ggX6_part_X6_rowIsWithin : GoodIn wsX6_part wsX6_rowIsWithin := goodIn_r _ [65, 2, 93, 94, 95, 96, 97, 98, 99, 100, 101] (by decide +kernel) (by decide +kernel)
set_option maxRecDepth 20000 in
theorem gX6_part_X6_rowIsWithin : GoodIn wsX6_part (wsV RX6 192 RX6 yX6_rowIsWithin wsX6_rowIsWithin) := goodIn_app (goodIn_of _ (by decide +kernel)) ggX6_part_X6_rowIsWithin
set_option maxRecDepth 20000 in
theorem ggX6_part_X2_doorsWithPart : GoodIn wsX6_part wsX2_doorsWithPart := goodIn_r _ [69, 56, 70, 71, 72, 54, 73, 74, 75, 76, 77, 78, 79, 58, 59, 60, 61, 80, 81, 82, 83, 84, 85, 86, 87, 88, 89, 90, 91, 92, 105, 106, 107, 108, 109] (by decide +kernel) (by decide +kernel)
set_option maxRecDepth 20000 in
theorem gX6_part_X2_doorsWithPart : GoodIn wsX6_part (wsV RX6 199 RX2 yX2_doorsWithPart wsX2_doorsWithPart) := goodIn_app (goodIn_of _ (by decide +kernel)) ggX6_part_X2_doorsWithPart
set_option maxRecDepth 20000 in
theorem ggX6_apart_X2_hasDoor : GoodIn wsX6_apart wsX2_hasDoor := goodIn_r _ [6, 7, 32, 33, 34, 35, 36] (by decide +kernel) (by decide +kernel)
set_option maxRecDepth 20000 in
theorem gX6_apart_X2_hasDoor : GoodIn wsX6_apart (wsV RX6 87 RX2 yX2_hasDoor wsX2_hasDoor) := goodIn_app (goodIn_of _ (by decide +kernel)) ggX6_apart_X2_hasDoor
set_option maxRecDepth 20000 in
theorem ggX6_apart_X2_beatsUnlike : GoodIn wsX6_apart wsX2_beatsUnlike := goodIn_r _ [11, 12, 13, 14, 5, 15, 16, 17, 3, 4, 6, 7, 18, 19, 20, 21, 22, 32, 33, 34, 35, 36] (by decide +kernel) (by decide +kernel)
set_option maxRecDepth 20000 in
theorem gX6_apart_X2_beatsUnlike : GoodIn wsX6_apart (wsV RX6 202 RX2 yX2_beatsUnlike wsX2_beatsUnlike) := goodIn_app (goodIn_of _ (by decide +kernel)) ggX6_apart_X2_beatsUnlike
set_option maxRecDepth 20000 in
theorem ggX6_nearest_X2_hasDoor : GoodIn wsX6_nearest wsX2_hasDoor := goodIn_r _ [6, 7, 36, 37, 38, 39, 40] (by decide +kernel) (by decide +kernel)
set_option maxRecDepth 20000 in
theorem gX6_nearest_X2_hasDoor : GoodIn wsX6_nearest (wsV RX6 87 RX2 yX2_hasDoor wsX2_hasDoor) := goodIn_app (goodIn_of _ (by decide +kernel)) ggX6_nearest_X2_hasDoor
set_option maxRecDepth 20000 in
theorem ggX6_nearest_X2_leastUnlike : GoodIn wsX6_nearest wsX2_leastUnlike := goodIn_r _ [11, 7, 12, 13, 14, 5, 15, 16, 17, 18, 19, 20, 21, 3, 4, 6, 22, 23, 24, 25, 26, 36, 37, 38, 39, 40] (by decide +kernel) (by decide +kernel)
set_option maxRecDepth 20000 in
theorem gX6_nearest_X2_leastUnlike : GoodIn wsX6_nearest (wsV RX6 205 RX2 yX2_leastUnlike wsX2_leastUnlike) := goodIn_app (goodIn_of _ (by decide +kernel)) ggX6_nearest_X2_leastUnlike
set_option maxRecDepth 20000 in
theorem ggX6_safe_X2_stands : GoodIn wsX6_safe wsX2_stands := goodIn_r _ [6, 7, 47, 48, 49, 50, 51] (by decide +kernel) (by decide +kernel)
set_option maxRecDepth 20000 in
theorem gX6_safe_X2_stands : GoodIn wsX6_safe (wsV RX6 115 RX2 yX2_stands wsX2_stands) := goodIn_app (goodIn_of _ (by decide +kernel)) ggX6_safe_X2_stands
set_option maxRecDepth 20000 in
theorem ggX6_safe_X2_someDoorBeginsAnother : GoodIn wsX6_safe wsX2_someDoorBeginsAnother := goodIn_r _ [11, 7, 12, 13, 14, 5, 15, 16, 17, 18, 19, 20, 21, 22, 23, 24, 25, 26, 27, 28, 29, 30, 31, 32, 33, 34, 35, 36, 37, 47, 48, 49, 50, 51] (by decide +kernel) (by decide +kernel)
set_option maxRecDepth 20000 in
theorem gX6_safe_X2_someDoorBeginsAnother : GoodIn wsX6_safe (wsV RX6 208 RX2 yX2_someDoorBeginsAnother wsX2_someDoorBeginsAnother) := goodIn_app (goodIn_of _ (by decide +kernel)) ggX6_safe_X2_someDoorBeginsAnother
set_option maxRecDepth 20000 in
theorem ggX6_plans_X2_hasBeat : GoodIn wsX6_plans wsX2_hasBeat := goodIn_r _ [8, 9, 10, 11, 12, 7, 13, 14, 114, 115, 116, 117, 118] (by decide +kernel) (by decide +kernel)
set_option maxRecDepth 20000 in
theorem gX6_plans_X2_hasBeat : GoodIn wsX6_plans (wsV RX6 94 RX2 yX2_hasBeat wsX2_hasBeat) := goodIn_app (goodIn_of _ (by decide +kernel)) ggX6_plans_X2_hasBeat
set_option maxRecDepth 20000 in
theorem ggX6_plans_X2_figureAt : GoodIn wsX6_plans wsX2_figureAt := goodIn_r _ [18, 19, 20, 5, 6, 7, 8, 9, 10, 11, 12, 13, 14, 114, 115, 116, 117, 118] (by decide +kernel) (by decide +kernel)
set_option maxRecDepth 20000 in
theorem gX6_plans_X2_figureAt : GoodIn wsX6_plans (wsV RX6 98 RX2 yX2_figureAt wsX2_figureAt) := goodIn_app (goodIn_of _ (by decide +kernel)) ggX6_plans_X2_figureAt
set_option maxRecDepth 20000 in
theorem ggX6_plans_X0_rowsFor : GoodIn wsX6_plans wsX0_rowsFor := goodIn_r _ [25, 26, 27, 28, 24, 29, 30, 31, 32, 33, 34, 35, 36, 37, 38, 39, 40, 41, 42, 43, 44, 45, 46, 47, 48, 49, 50, 51, 52, 53, 54, 55, 56, 57, 58, 59, 60, 61, 62, 63, 64, 65, 66, 67, 68, 69, 70, 71, 72, 73, 74, 75, 76, 77, 78, 79, 80, 81, 82, 83, 84, 85, 86, 7, 87, 88, 89, 90, 91, 92, 93, 94, 95, 96, 97, 98, 99, 100, 101, 102, 103, 104, 119, 120, 121, 122, 123, 124, 125, 126, 127, 128, 129, 114, 115, 116, 117, 118] (by decide +kernel) (by decide +kernel)
set_option maxRecDepth 20000 in
theorem gX6_plans_X0_rowsFor : GoodIn wsX6_plans (wsV RX6 211 RX0 yX0_rowsFor wsX0_rowsFor) := goodIn_app (goodIn_of _ (by decide +kernel)) ggX6_plans_X0_rowsFor
set_option maxRecDepth 20000 in
theorem ggX6_sheet_X3_includes : GoodIn wsX6_sheet wsX3_includes := goodIn_r _ [7] (by decide +kernel) (by decide +kernel)
set_option maxRecDepth 20000 in
theorem gX6_sheet_X3_includes : GoodIn wsX6_sheet (wsV RX6 217 RX3 yX3_includes wsX3_includes) := goodIn_app (goodIn_of _ (by decide +kernel)) ggX6_sheet_X3_includes
set_option maxRecDepth 20000 in
theorem ggX6_sheet_X6_faulted : GoodIn wsX6_sheet wsX6_faulted := goodIn_r _ [12, 1, 28, 29, 30, 31, 32, 33, 34, 35, 36] (by decide +kernel) (by decide +kernel)
set_option maxRecDepth 20000 in
theorem gX6_sheet_X6_faulted : GoodIn wsX6_sheet (wsV RX6 218 RX6 yX6_faulted wsX6_faulted) := goodIn_app (goodIn_of _ (by decide +kernel)) ggX6_sheet_X6_faulted
set_option maxRecDepth 20000 in
theorem ggX6_sheet_X3_renew : GoodIn wsX6_sheet wsX3_renew := goodIn_r _ [16, 17, 18, 19, 20, 4, 5, 6, 7, 21, 22, 23, 24, 25, 26, 27, 37, 38, 39] (by decide +kernel) (by decide +kernel)
set_option maxRecDepth 20000 in
theorem gX6_sheet_X3_renew : GoodIn wsX6_sheet (wsV RX6 221 RX3 yX3_renew wsX3_renew) := goodIn_app (goodIn_of _ (by decide +kernel)) ggX6_sheet_X3_renew
set_option maxRecDepth 20000 in
theorem ggX6_lose_X3_includes : GoodIn wsX6_lose wsX3_includes := goodIn_r _ [6] (by decide +kernel) (by decide +kernel)
set_option maxRecDepth 20000 in
theorem gX6_lose_X3_includes : GoodIn wsX6_lose (wsV RX6 217 RX3 yX3_includes wsX3_includes) := goodIn_app (goodIn_of _ (by decide +kernel)) ggX6_lose_X3_includes
set_option maxRecDepth 20000 in
theorem ggX6_lose_X3_isNothing : GoodIn wsX6_lose wsX3_isNothing := goodIn_r _ [10, 11, 12, 13, 5, 14, 15, 16, 3, 4, 6, 31, 32, 33] (by decide +kernel) (by decide +kernel)
set_option maxRecDepth 20000 in
theorem gX6_lose_X3_isNothing : GoodIn wsX6_lose (wsV RX6 225 RX3 yX3_isNothing wsX3_isNothing) := goodIn_app (goodIn_of _ (by decide +kernel)) ggX6_lose_X3_isNothing
set_option maxRecDepth 20000 in
theorem ggX6_lose_X3_drop : GoodIn wsX6_lose wsX3_drop := goodIn_r _ [20, 15, 21, 16, 3, 4, 5, 6, 31, 32, 33] (by decide +kernel) (by decide +kernel)
set_option maxRecDepth 20000 in
theorem gX6_lose_X3_drop : GoodIn wsX6_lose (wsV RX6 228 RX3 yX3_drop wsX3_drop) := goodIn_app (goodIn_of _ (by decide +kernel)) ggX6_lose_X3_drop
set_option maxRecDepth 20000 in
theorem ggX6_put_X3_includes : GoodIn wsX6_put wsX3_includes := goodIn_r _ [7] (by decide +kernel) (by decide +kernel)
set_option maxRecDepth 20000 in
theorem gX6_put_X3_includes : GoodIn wsX6_put (wsV RX6 217 RX3 yX3_includes wsX3_includes) := goodIn_app (goodIn_of _ (by decide +kernel)) ggX6_put_X3_includes
set_option maxRecDepth 20000 in
theorem ggX6_put_X3_sortOf : GoodIn wsX6_put wsX3_sortOf := goodIn_r _ [11, 12, 13, 4, 5, 6, 7, 55, 56, 57] (by decide +kernel) (by decide +kernel)
set_option maxRecDepth 20000 in
theorem gX6_put_X3_sortOf : GoodIn wsX6_put (wsV RX6 232 RX3 yX3_sortOf wsX3_sortOf) := goodIn_app (goodIn_of _ (by decide +kernel)) ggX6_put_X3_sortOf
set_option maxRecDepth 20000 in
theorem ggX6_put_X3_faultOfCells : GoodIn wsX6_put wsX3_faultOfCells := goodIn_r _ [17, 18, 19, 20, 6, 21, 22, 9, 10, 11, 12, 13, 4, 5, 7, 23, 24, 25, 26, 27, 28, 29, 30, 31, 55, 56, 57] (by decide +kernel) (by decide +kernel)
set_option maxRecDepth 20000 in
theorem gX6_put_X3_faultOfCells : GoodIn wsX6_put (wsV RX6 235 RX3 yX3_faultOfCells wsX3_faultOfCells) := goodIn_app (goodIn_of _ (by decide +kernel)) ggX6_put_X3_faultOfCells
set_option maxRecDepth 20000 in
theorem ggX6_put_X6_faulted : GoodIn wsX6_put wsX6_faulted := goodIn_r _ [36, 1, 46, 47, 48, 49, 50, 51, 52, 53, 54] (by decide +kernel) (by decide +kernel)
set_option maxRecDepth 20000 in
theorem gX6_put_X6_faulted : GoodIn wsX6_put (wsV RX6 218 RX6 yX6_faulted wsX6_faulted) := goodIn_app (goodIn_of _ (by decide +kernel)) ggX6_put_X6_faulted
set_option maxRecDepth 20000 in
theorem ggX6_put_X3_write : GoodIn wsX6_put wsX3_write := goodIn_r _ [40, 41, 23, 24, 25, 6, 26, 27, 28, 29, 30, 31, 13, 4, 5, 7, 22, 9, 10, 11, 12, 42, 43, 44, 45, 55, 56, 57] (by decide +kernel) (by decide +kernel)
set_option maxRecDepth 20000 in
theorem gX6_put_X3_write : GoodIn wsX6_put (wsV RX6 239 RX3 yX3_write wsX3_write) := goodIn_app (goodIn_of _ (by decide +kernel)) ggX6_put_X3_write
set_option maxRecDepth 20000 in
theorem ggX6_cell_X6_takeRow : GoodIn wsX6_cell wsX6_takeRow := goodIn_r _ [7, 8, 9, 2, 10, 11, 12, 13, 14, 15, 16, 17, 18, 19, 20, 21, 22, 23, 24, 25, 26, 27, 28, 29, 30, 31, 32, 33, 34, 35, 36, 37, 38, 39, 40, 6, 41, 42, 43, 44, 45, 46, 47, 48, 49, 50, 51, 52, 53, 54, 55, 56, 57, 58, 59, 60, 61, 62] (by decide +kernel) (by decide +kernel)
set_option maxRecDepth 20000 in
theorem gX6_cell_X6_takeRow : GoodIn wsX6_cell (wsV RX6 53 RX6 yX6_takeRow wsX6_takeRow) := goodIn_app (goodIn_of _ (by decide +kernel)) ggX6_cell_X6_takeRow
set_option maxRecDepth 20000 in
theorem ggX6_copy_X3_includes : GoodIn wsX6_copy wsX3_includes := goodIn_r _ [7] (by decide +kernel) (by decide +kernel)
set_option maxRecDepth 20000 in
theorem gX6_copy_X3_includes : GoodIn wsX6_copy (wsV RX6 217 RX3 yX3_includes wsX3_includes) := goodIn_app (goodIn_of _ (by decide +kernel)) ggX6_copy_X3_includes
set_option maxRecDepth 20000 in
theorem ggX6_copy_X3_faultOfMove : GoodIn wsX6_copy wsX3_faultOfMove := goodIn_r _ [11, 12, 13, 14, 6, 15, 16, 17, 18, 19, 20, 21, 4, 5, 7, 22, 23, 24, 25, 26, 27, 28, 29, 30, 54, 55, 56] (by decide +kernel) (by decide +kernel)
set_option maxRecDepth 20000 in
theorem gX6_copy_X3_faultOfMove : GoodIn wsX6_copy (wsV RX6 242 RX3 yX3_faultOfMove wsX3_faultOfMove) := goodIn_app (goodIn_of _ (by decide +kernel)) ggX6_copy_X3_faultOfMove
set_option maxRecDepth 20000 in
theorem ggX6_copy_X6_faulted : GoodIn wsX6_copy wsX6_faulted := goodIn_r _ [35, 1, 45, 46, 47, 48, 49, 50, 51, 52, 53] (by decide +kernel) (by decide +kernel)
set_option maxRecDepth 20000 in
theorem gX6_copy_X6_faulted : GoodIn wsX6_copy (wsV RX6 218 RX6 yX6_faulted wsX6_faulted) := goodIn_app (goodIn_of _ (by decide +kernel)) ggX6_copy_X6_faulted
set_option maxRecDepth 20000 in
theorem ggX6_copy_X3_move : GoodIn wsX6_copy wsX3_move := goodIn_r _ [39, 40, 41, 42, 43, 44, 22, 23, 24, 6, 25, 26, 27, 28, 29, 30, 21, 4, 5, 7, 54, 55, 56] (by decide +kernel) (by decide +kernel)
set_option maxRecDepth 20000 in
theorem gX6_copy_X3_move : GoodIn wsX6_copy (wsV RX6 246 RX3 yX3_move wsX3_move) := goodIn_app (goodIn_of _ (by decide +kernel)) ggX6_copy_X3_move
set_option maxRecDepth 20000 in
theorem ggX6_tell_X5_includes : GoodIn wsX6_tell wsX5_includes := goodIn_r _ [6, 7, 46, 47, 48] (by decide +kernel) (by decide +kernel)
set_option maxRecDepth 20000 in
theorem gX6_tell_X5_includes : GoodIn wsX6_tell (wsV RX6 125 RX5 yX5_includes wsX5_includes) := goodIn_app (goodIn_of _ (by decide +kernel)) ggX6_tell_X5_includes
set_option maxRecDepth 20000 in
theorem ggX6_tell_X5_kindOf : GoodIn wsX6_tell wsX5_kindOf := goodIn_r _ [11, 12, 13, 3, 4, 5, 6, 7, 46, 47, 48] (by decide +kernel) (by decide +kernel)
set_option maxRecDepth 20000 in
theorem gX6_tell_X5_kindOf : GoodIn wsX6_tell (wsV RX6 128 RX5 yX5_kindOf wsX5_kindOf) := goodIn_app (goodIn_of _ (by decide +kernel)) ggX6_tell_X5_kindOf
set_option maxRecDepth 20000 in
theorem ggX6_tell_X6_tellAsChild : GoodIn wsX6_tell wsX6_tellAsChild := goodIn_r _ [18, 19, 20, 21, 17, 22, 23, 24, 25, 26, 27, 28, 29, 30, 31, 1, 32, 33, 34, 5, 35, 36, 13, 3, 4, 6, 7, 37, 38, 39, 40, 41, 42, 43, 44, 45, 46, 47, 48] (by decide +kernel) (by decide +kernel)
set_option maxRecDepth 20000 in
theorem gX6_tell_X6_tellAsChild : GoodIn wsX6_tell (wsV RX6 250 RX6 yX6_tellAsChild wsX6_tellAsChild) := goodIn_app (goodIn_of _ (by decide +kernel)) ggX6_tell_X6_tellAsChild
set_option maxRecDepth 20000 in
theorem ggX6_tell_X6_tellAsLimper : GoodIn wsX6_tell wsX6_tellAsLimper := goodIn_r _ [27, 19, 20, 21, 17, 22, 23, 28, 29, 30, 31, 1, 32, 33, 34, 5, 35, 36, 13, 3, 4, 6, 7, 37, 38, 39, 40, 41, 42, 43, 44, 45, 46, 47, 48] (by decide +kernel) (by decide +kernel)
set_option maxRecDepth 20000 in
theorem gX6_tell_X6_tellAsLimper : GoodIn wsX6_tell (wsV RX6 253 RX6 yX6_tellAsLimper wsX6_tellAsLimper) := goodIn_app (goodIn_of _ (by decide +kernel)) ggX6_tell_X6_tellAsLimper
set_option maxRecDepth 20000 in
theorem ggX6_tell_X6_tellAsDancer : GoodIn wsX6_tell wsX6_tellAsDancer := goodIn_r _ [31, 1, 19, 20, 21, 17, 22, 23, 32, 33, 34, 5, 35, 36, 13, 3, 4, 6, 7, 37, 38, 39, 40, 41, 42, 43, 44, 45, 46, 47, 48] (by decide +kernel) (by decide +kernel)
set_option maxRecDepth 20000 in
theorem gX6_tell_X6_tellAsDancer : GoodIn wsX6_tell (wsV RX6 256 RX6 yX6_tellAsDancer wsX6_tellAsDancer) := goodIn_app (goodIn_of _ (by decide +kernel)) ggX6_tell_X6_tellAsDancer
set_option maxRecDepth 20000 in
theorem ggX6_lead_X5_includes : GoodIn wsX6_lead wsX5_includes := goodIn_r _ [6, 7, 29, 30, 31] (by decide +kernel) (by decide +kernel)
set_option maxRecDepth 20000 in
theorem gX6_lead_X5_includes : GoodIn wsX6_lead (wsV RX6 125 RX5 yX5_includes wsX5_includes) := goodIn_app (goodIn_of _ (by decide +kernel)) ggX6_lead_X5_includes
set_option maxRecDepth 20000 in
theorem ggX6_lead_X5_kindOf : GoodIn wsX6_lead wsX5_kindOf := goodIn_r _ [11, 12, 13, 3, 4, 5, 6, 7, 29, 30, 31] (by decide +kernel) (by decide +kernel)
set_option maxRecDepth 20000 in
theorem gX6_lead_X5_kindOf : GoodIn wsX6_lead (wsV RX6 128 RX5 yX5_kindOf wsX5_kindOf) := goodIn_app (goodIn_of _ (by decide +kernel)) ggX6_lead_X5_kindOf
set_option maxRecDepth 20000 in
theorem ggX6_lead_X6_leaveTrace : GoodIn wsX6_lead wsX6_leaveTrace := goodIn_r _ [18, 19, 20, 21, 22, 23, 24, 25, 26, 27, 28] (by decide +kernel) (by decide +kernel)
set_option maxRecDepth 20000 in
theorem gX6_lead_X6_leaveTrace : GoodIn wsX6_lead (wsV RX6 259 RX6 yX6_leaveTrace wsX6_leaveTrace) := goodIn_app (goodIn_of _ (by decide +kernel)) ggX6_lead_X6_leaveTrace
set_option maxRecDepth 20000 in
theorem ggX6_as_X5_includes : GoodIn wsX6_as wsX5_includes := goodIn_r _ [7, 8, 33, 34, 35] (by decide +kernel) (by decide +kernel)
set_option maxRecDepth 20000 in
theorem gX6_as_X5_includes : GoodIn wsX6_as (wsV RX6 125 RX5 yX5_includes wsX5_includes) := goodIn_app (goodIn_of _ (by decide +kernel)) ggX6_as_X5_includes
set_option maxRecDepth 20000 in
theorem ggX6_as_X5_isOfKind : GoodIn wsX6_as wsX5_isOfKind := goodIn_r _ [12, 13, 14, 15, 6, 16, 17, 18, 4, 5, 7, 8, 33, 34, 35] (by decide +kernel) (by decide +kernel)
set_option maxRecDepth 20000 in
theorem gX6_as_X5_isOfKind : GoodIn wsX6_as (wsV RX6 262 RX5 yX5_isOfKind wsX5_isOfKind) := goodIn_app (goodIn_of _ (by decide +kernel)) ggX6_as_X5_isOfKind
set_option maxRecDepth 20000 in
theorem ggX6_as_X6_faulted : GoodIn wsX6_as wsX6_faulted := goodIn_r _ [23, 1, 24, 25, 26, 27, 28, 29, 30, 31, 32] (by decide +kernel) (by decide +kernel)
set_option maxRecDepth 20000 in
theorem gX6_as_X6_faulted : GoodIn wsX6_as (wsV RX6 218 RX6 yX6_faulted wsX6_faulted) := goodIn_app (goodIn_of _ (by decide +kernel)) ggX6_as_X6_faulted
set_option maxRecDepth 20000 in
theorem ggX6_takeRow_X3_includes : GoodIn wsX6_takeRow wsX3_includes := goodIn_r _ [8] (by decide +kernel) (by decide +kernel)
set_option maxRecDepth 20000 in
theorem gX6_takeRow_X3_includes : GoodIn wsX6_takeRow (wsV RX6 217 RX3 yX3_includes wsX3_includes) := goodIn_app (goodIn_of _ (by decide +kernel)) ggX6_takeRow_X3_includes
set_option maxRecDepth 20000 in
theorem ggX6_takeRow_X3_faultOfCells : GoodIn wsX6_takeRow wsX3_faultOfCells := goodIn_r _ [12, 13, 14, 15, 7, 16, 17, 18, 19, 20, 21, 22, 5, 6, 8, 23, 24, 25, 26, 27, 28, 29, 30, 31, 55, 56, 57] (by decide +kernel) (by decide +kernel)
set_option maxRecDepth 20000 in
theorem gX6_takeRow_X3_faultOfCells : GoodIn wsX6_takeRow (wsV RX6 235 RX3 yX3_faultOfCells wsX3_faultOfCells) := goodIn_app (goodIn_of _ (by decide +kernel)) ggX6_takeRow_X3_faultOfCells
set_option maxRecDepth 20000 in
theorem ggX6_takeRow_X6_faulted : GoodIn wsX6_takeRow wsX6_faulted := goodIn_r _ [36, 1, 46, 47, 48, 49, 50, 51, 52, 53, 54] (by decide +kernel) (by decide +kernel)
set_option maxRecDepth 20000 in
theorem gX6_takeRow_X6_faulted : GoodIn wsX6_takeRow (wsV RX6 218 RX6 yX6_faulted wsX6_faulted) := goodIn_app (goodIn_of _ (by decide +kernel)) ggX6_takeRow_X6_faulted
set_option maxRecDepth 20000 in
theorem ggX6_takeRow_X3_readInto : GoodIn wsX6_takeRow wsX3_readInto := goodIn_r _ [40, 41, 42, 43, 44, 45, 23, 24, 25, 7, 26, 27, 28, 29, 30, 31, 22, 5, 6, 8, 55, 56, 57] (by decide +kernel) (by decide +kernel)
set_option maxRecDepth 20000 in
theorem gX6_takeRow_X3_readInto : GoodIn wsX6_takeRow (wsV RX6 271 RX3 yX3_readInto wsX3_readInto) := goodIn_app (goodIn_of _ (by decide +kernel)) ggX6_takeRow_X3_readInto
set_option maxRecDepth 20000 in
theorem ggX6_takePlan_X6_takeRow : GoodIn wsX6_takePlan wsX6_takeRow := goodIn_r _ [9, 10, 11, 4, 12, 13, 14, 15, 16, 17, 18, 19, 20, 21, 22, 23, 24, 25, 26, 27, 28, 29, 30, 31, 32, 33, 34, 35, 36, 37, 38, 39, 40, 41, 42, 8, 43, 44, 45, 46, 47, 48, 49, 50, 51, 52, 76, 77, 78, 79, 80, 81, 82, 83, 84, 88, 89, 90] (by decide +kernel) (by decide +kernel)
set_option maxRecDepth 20000 in
theorem gX6_takePlan_X6_takeRow : GoodIn wsX6_takePlan (wsV RX6 53 RX6 yX6_takeRow wsX6_takeRow) := goodIn_app (goodIn_of _ (by decide +kernel)) ggX6_takePlan_X6_takeRow
set_option maxRecDepth 20000 in
theorem ggX6_takePlan_X2_stands : GoodIn wsX6_takePlan wsX2_stands := goodIn_r _ [57, 58, 91, 92, 93, 94, 95] (by decide +kernel) (by decide +kernel)
set_option maxRecDepth 20000 in
theorem gX6_takePlan_X2_stands : GoodIn wsX6_takePlan (wsV RX6 115 RX2 yX2_stands wsX2_stands) := goodIn_app (goodIn_of _ (by decide +kernel)) ggX6_takePlan_X2_stands
set_option maxRecDepth 20000 in
theorem ggX6_takePlan_X0_learn : GoodIn wsX6_takePlan wsX0_learn := goodIn_r _ [63, 64, 65, 66, 67, 68, 56, 69, 70, 71, 72, 73, 62, 74, 75, 96, 97, 98, 99, 100, 101, 102, 103, 85, 86, 87, 91, 92, 93, 94, 95] (by decide +kernel) (by decide +kernel)
set_option maxRecDepth 20000 in
theorem gX6_takePlan_X0_learn : GoodIn wsX6_takePlan (wsV RX6 275 RX0 yX0_learn wsX0_learn) := goodIn_app (goodIn_of _ (by decide +kernel)) ggX6_takePlan_X0_learn
set_option maxRecDepth 20000 in
theorem ggX6_tellAsDancer_X6_leaveTrace : GoodIn wsX6_tellAsDancer wsX6_leaveTrace := goodIn_r _ [6, 7, 19, 20, 21, 22, 23, 24, 25, 26, 27] (by decide +kernel) (by decide +kernel)
set_option maxRecDepth 20000 in
theorem gX6_tellAsDancer_X6_leaveTrace : GoodIn wsX6_tellAsDancer (wsV RX6 259 RX6 yX6_leaveTrace wsX6_leaveTrace) := goodIn_app (goodIn_of _ (by decide +kernel)) ggX6_tellAsDancer_X6_leaveTrace
set_option maxRecDepth 20000 in
theorem ggX6_tellAsDancer_X5_weightOf : GoodIn wsX6_tellAsDancer wsX5_weightOf := goodIn_r _ [12, 13, 14, 15, 16, 11, 17, 18, 28, 29, 30] (by decide +kernel) (by decide +kernel)
set_option maxRecDepth 20000 in
theorem gX6_tellAsDancer_X5_weightOf : GoodIn wsX6_tellAsDancer (wsV RX6 131 RX5 yX5_weightOf wsX5_weightOf) := goodIn_app (goodIn_of _ (by decide +kernel)) ggX6_tellAsDancer_X5_weightOf
set_option maxRecDepth 20000 in
theorem ggX6_tellAsLimper_X6_leaveTrace : GoodIn wsX6_tellAsLimper wsX6_leaveTrace := goodIn_r _ [5, 6, 23, 24, 25, 26, 27, 28, 29, 30, 31] (by decide +kernel) (by decide +kernel)
set_option maxRecDepth 20000 in
theorem gX6_tellAsLimper_X6_leaveTrace : GoodIn wsX6_tellAsLimper (wsV RX6 259 RX6 yX6_leaveTrace wsX6_leaveTrace) := goodIn_app (goodIn_of _ (by decide +kernel)) ggX6_tellAsLimper_X6_leaveTrace
set_option maxRecDepth 20000 in
theorem ggX6_tellAsLimper_X6_tellAsDancer : GoodIn wsX6_tellAsLimper wsX6_tellAsDancer := goodIn_r _ [10, 11, 1, 2, 3, 4, 5, 6, 12, 13, 14, 15, 16, 17, 18, 19, 20, 21, 22, 23, 24, 25, 26, 27, 28, 29, 30, 31, 32, 33, 34] (by decide +kernel) (by decide +kernel)
set_option maxRecDepth 20000 in
theorem gX6_tellAsLimper_X6_tellAsDancer : GoodIn wsX6_tellAsLimper (wsV RX6 256 RX6 yX6_tellAsDancer wsX6_tellAsDancer) := goodIn_app (goodIn_of _ (by decide +kernel)) ggX6_tellAsLimper_X6_tellAsDancer
set_option maxRecDepth 20000 in
theorem ggX6_tellAsChild_X6_leaveTrace : GoodIn wsX6_tellAsChild wsX6_leaveTrace := goodIn_r _ [5, 6, 27, 28, 29, 30, 31, 32, 33, 34, 35] (by decide +kernel) (by decide +kernel)
set_option maxRecDepth 20000 in
theorem gX6_tellAsChild_X6_leaveTrace : GoodIn wsX6_tellAsChild (wsV RX6 259 RX6 yX6_leaveTrace wsX6_leaveTrace) := goodIn_app (goodIn_of _ (by decide +kernel)) ggX6_tellAsChild_X6_leaveTrace
set_option maxRecDepth 20000 in
theorem ggX6_tellAsChild_X6_tellAsLimper : GoodIn wsX6_tellAsChild wsX6_tellAsLimper := goodIn_r _ [10, 1, 2, 3, 4, 5, 6, 11, 12, 13, 14, 15, 16, 17, 18, 19, 20, 21, 22, 23, 24, 25, 26, 27, 28, 29, 30, 31, 32, 33, 34, 35, 36, 37, 38] (by decide +kernel) (by decide +kernel)
set_option maxRecDepth 20000 in
theorem gX6_tellAsChild_X6_tellAsLimper : GoodIn wsX6_tellAsChild (wsV RX6 253 RX6 yX6_tellAsLimper wsX6_tellAsLimper) := goodIn_app (goodIn_of _ (by decide +kernel)) ggX6_tellAsChild_X6_tellAsLimper
set_option maxRecDepth 20000 in
theorem ggX6_tellAsChild_X6_tellAsDancer : GoodIn wsX6_tellAsChild wsX6_tellAsDancer := goodIn_r _ [14, 15, 1, 2, 3, 4, 5, 6, 16, 17, 18, 19, 20, 21, 22, 23, 24, 25, 26, 27, 28, 29, 30, 31, 32, 33, 34, 35, 36, 37, 38] (by decide +kernel) (by decide +kernel)
set_option maxRecDepth 20000 in
theorem gX6_tellAsChild_X6_tellAsDancer : GoodIn wsX6_tellAsChild (wsV RX6 256 RX6 yX6_tellAsDancer wsX6_tellAsDancer) := goodIn_app (goodIn_of _ (by decide +kernel)) ggX6_tellAsChild_X6_tellAsDancer
set_option maxRecDepth 20000 in
theorem ggX7_isSheet_X7_within : GoodIn wsX7_isSheet wsX7_within := goodIn_r _ [4] (by decide +kernel) (by decide +kernel)
set_option maxRecDepth 20000 in
theorem gX7_isSheet_X7_within : GoodIn wsX7_isSheet (va_wsS RX7 59 yX7_within wsX7_within) := goodIn_app (goodIn_of _ (by decide +kernel)) ggX7_isSheet_X7_within
set_option maxRecDepth 20000 in
theorem ggX7_isSort_X7_within : GoodIn wsX7_isSort wsX7_within := goodIn_r _ [4] (by decide +kernel) (by decide +kernel)
set_option maxRecDepth 20000 in
theorem gX7_isSort_X7_within : GoodIn wsX7_isSort (va_wsS RX7 59 yX7_within wsX7_within) := goodIn_app (goodIn_of _ (by decide +kernel)) ggX7_isSort_X7_within
set_option maxRecDepth 20000 in
theorem ggX7_isBeat_X7_isDoor : GoodIn wsX7_isBeat wsX7_isDoor := goodIn_r _ [6, 7, 8, 9, 10, 11, 12, 13, 14, 15, 16, 17, 18, 19, 20, 21, 22, 23, 24, 25, 26, 27, 28, 29, 30, 31] (by decide +kernel) (by decide +kernel)
set_option maxRecDepth 20000 in
theorem gX7_isBeat_X7_isDoor : GoodIn wsX7_isBeat (wsV RX7 69 RX7 yX7_isDoor wsX7_isDoor) := goodIn_app (goodIn_of _ (by decide +kernel)) ggX7_isBeat_X7_isDoor
set_option maxRecDepth 20000 in
theorem ggX7_digit_X7_within : GoodIn wsX7_digit wsX7_within := goodIn_r _ [6] (by decide +kernel) (by decide +kernel)
set_option maxRecDepth 20000 in
theorem gX7_digit_X7_within : GoodIn wsX7_digit (va_wsS RX7 59 yX7_within wsX7_within) := goodIn_app (goodIn_of _ (by decide +kernel)) ggX7_digit_X7_within
set_option maxRecDepth 20000 in
theorem ggX7_lock_X7_isSheet : GoodIn wsX7_lock wsX7_isSheet := goodIn_r _ [18, 19, 20, 17, 21] (by decide +kernel) (by decide +kernel)
set_option maxRecDepth 20000 in
theorem gX7_lock_X7_isSheet : GoodIn wsX7_lock (va_wsS RX7 76 yX7_isSheet wsX7_isSheet) := goodIn_app (goodIn_of _ (by decide +kernel)) ggX7_lock_X7_isSheet
set_option maxRecDepth 20000 in
theorem ggX7_lock_X7_isSort : GoodIn wsX7_lock wsX7_isSort := goodIn_r _ [24, 19, 20, 17, 21] (by decide +kernel) (by decide +kernel)
set_option maxRecDepth 20000 in
theorem gX7_lock_X7_isSort : GoodIn wsX7_lock (va_wsS RX7 79 yX7_isSort wsX7_isSort) := goodIn_app (goodIn_of _ (by decide +kernel)) ggX7_lock_X7_isSort
set_option maxRecDepth 20000 in
theorem ggX7_lock_X7_against : GoodIn wsX7_lock wsX7_against := goodIn_r _ [28, 29, 30, 55, 56, 57, 58, 59, 60, 61, 62, 63, 64, 65, 66, 67, 68, 69, 70, 71, 72, 73, 74, 75, 76, 77, 78] (by decide +kernel) (by decide +kernel)
set_option maxRecDepth 20000 in
theorem gX7_lock_X7_against : GoodIn wsX7_lock (wsV RX7 82 RX7 yX7_against wsX7_against) := goodIn_app (goodIn_of _ (by decide +kernel)) ggX7_lock_X7_against
set_option maxRecDepth 20000 in
theorem ggX7_lock_X7_fails : GoodIn wsX7_lock wsX7_fails := goodIn_r _ [34, 1, 55, 56, 57, 58, 59, 60, 61, 62, 63, 64, 65, 66, 67, 68, 69, 70, 71, 72, 73, 74, 75, 76, 77, 78] (by decide +kernel) (by decide +kernel)
set_option maxRecDepth 20000 in
theorem gX7_lock_X7_fails : GoodIn wsX7_lock (wsV RX7 86 RX7 yX7_fails wsX7_fails) := goodIn_app (goodIn_of _ (by decide +kernel)) ggX7_lock_X7_fails
set_option maxRecDepth 20000 in
theorem ggX7_lock_X7_readLock : GoodIn wsX7_lock wsX7_readLock := goodIn_r _ [38, 2, 39, 3, 8, 5, 40, 41, 42, 17, 43, 19, 20, 21, 44, 45, 46, 47, 12, 10, 48, 49, 50, 51, 52, 53, 54, 55, 56, 57, 58, 59, 60, 61, 62, 63, 64, 65, 66, 67, 68, 69, 70, 71, 72, 73, 74, 75, 76, 77, 78] (by decide +kernel) (by decide +kernel)
set_option maxRecDepth 20000 in
theorem gX7_lock_X7_readLock : GoodIn wsX7_lock (wsV RX7 90 RX7 yX7_readLock wsX7_readLock) := goodIn_app (goodIn_of _ (by decide +kernel)) ggX7_lock_X7_readLock
set_option maxRecDepth 20000 in
theorem ggX7_lock_X7_spot : GoodIn wsX7_lock wsX7_spot := goodIn_r _ [50] (by decide +kernel) (by decide +kernel)
set_option maxRecDepth 20000 in
theorem gX7_lock_X7_spot : GoodIn wsX7_lock (va_wsS RX7 99 yX7_spot wsX7_spot) := goodIn_app (goodIn_of _ (by decide +kernel)) ggX7_lock_X7_spot
set_option maxRecDepth 20000 in
theorem ggX7_readLock_X7_digit : GoodIn wsX7_readLock wsX7_digit := goodIn_r _ [10, 1, 2, 11, 12, 9, 13, 27, 28, 29, 30, 31, 32, 33, 34, 35, 36, 37, 38, 39, 40, 41, 42, 43, 44, 45, 46, 47, 48, 49, 50] (by decide +kernel) (by decide +kernel)
set_option maxRecDepth 20000 in
theorem gX7_readLock_X7_digit : GoodIn wsX7_readLock (wsV RX7 109 RX7 yX7_digit wsX7_digit) := goodIn_app (goodIn_of _ (by decide +kernel)) ggX7_readLock_X7_digit
set_option maxRecDepth 20000 in
theorem ggX7_readLock_X7_readDoor : GoodIn wsX7_readLock wsX7_readDoor := goodIn_r _ [17, 18, 5, 1, 2, 19, 20, 21, 9, 22, 23, 24, 25, 26, 3, 6, 7, 8, 10, 11, 12, 13, 27, 28, 29, 30, 31, 32, 33, 34, 35, 36, 37, 38, 39, 40, 41, 42, 43, 44, 45, 46, 47, 48, 49, 50] (by decide +kernel) (by decide +kernel)
set_option maxRecDepth 20000 in
theorem gX7_readLock_X7_readDoor : GoodIn wsX7_readLock (wsV RX7 113 RX7 yX7_readDoor wsX7_readDoor) := goodIn_app (goodIn_of _ (by decide +kernel)) ggX7_readLock_X7_readDoor
set_option maxRecDepth 20000 in
theorem ggX7_readDoor_X7_spot : GoodIn wsX7_readDoor wsX7_spot := goodIn_r _ [9] (by decide +kernel) (by decide +kernel)
set_option maxRecDepth 20000 in
theorem gX7_readDoor_X7_spot : GoodIn wsX7_readDoor (va_wsS RX7 99 yX7_spot wsX7_spot) := goodIn_app (goodIn_of _ (by decide +kernel)) ggX7_readDoor_X7_spot
set_option maxRecDepth 20000 in
theorem ggX7_readDoor_X7_readBeat : GoodIn wsX7_readDoor wsX7_readBeat := goodIn_r _ [13, 14, 15, 16, 17, 8, 18, 3, 4, 19, 20, 21, 22, 23, 24, 25, 26, 27, 28, 29, 30, 31, 32, 33, 34, 35, 36, 37, 38, 39, 40, 41, 42, 43, 44, 45] (by decide +kernel) (by decide +kernel)
set_option maxRecDepth 20000 in
theorem gX7_readDoor_X7_readBeat : GoodIn wsX7_readDoor (wsV RX7 117 RX7 yX7_readBeat wsX7_readBeat) := goodIn_app (goodIn_of _ (by decide +kernel)) ggX7_readDoor_X7_readBeat
set_option maxRecDepth 20000 in
theorem ggX7_readBeat_X7_digit : GoodIn wsX7_readBeat wsX7_digit := goodIn_r _ [6, 7, 8, 9, 10, 5, 11, 12, 13, 14, 15, 16, 17, 18, 19, 20, 21, 22, 23, 24, 25, 26, 27, 28, 29, 30, 31, 32, 33, 34, 35] (by decide +kernel) (by decide +kernel)
set_option maxRecDepth 20000 in
theorem gX7_readBeat_X7_digit : GoodIn wsX7_readBeat (wsV RX7 109 RX7 yX7_digit wsX7_digit) := goodIn_app (goodIn_of _ (by decide +kernel)) ggX7_readBeat_X7_digit
set_option maxRecDepth 20000 in
theorem ggX7_board_X7_isBoard : GoodIn wsX7_board wsX7_isBoard := goodIn_r _ [6, 7, 8, 9, 10, 11, 12, 13, 14, 15, 16, 17, 18, 19, 20, 21, 22, 23, 24, 25, 26, 27, 28, 29, 30, 31] (by decide +kernel) (by decide +kernel)
set_option maxRecDepth 20000 in
theorem gX7_board_X7_isBoard : GoodIn wsX7_board (wsV RX7 120 RX7 yX7_isBoard wsX7_isBoard) := goodIn_app (goodIn_of _ (by decide +kernel)) ggX7_board_X7_isBoard
set_option maxRecDepth 20000 in
theorem ggX7_beat_X7_isDoor : GoodIn wsX7_beat wsX7_isDoor := goodIn_r _ [7, 8, 16, 17, 18, 19, 20, 21, 22, 23, 24, 25, 26, 27, 28, 29, 30, 31, 32, 33, 34, 35, 36, 37, 38, 39] (by decide +kernel) (by decide +kernel)
set_option maxRecDepth 20000 in
theorem gX7_beat_X7_isDoor : GoodIn wsX7_beat (wsV RX7 69 RX7 yX7_isDoor wsX7_isDoor) := goodIn_app (goodIn_of _ (by decide +kernel)) ggX7_beat_X7_isDoor
set_option maxRecDepth 20000 in
theorem ggX7_beat_X7_isBeat : GoodIn wsX7_beat wsX7_isBeat := goodIn_r _ [12, 1, 3, 4, 5, 6, 7, 8, 16, 17, 18, 19, 20, 21, 22, 23, 24, 25, 26, 27, 28, 29, 30, 31, 32, 33, 34, 35, 36, 37, 38, 39] (by decide +kernel) (by decide +kernel)
set_option maxRecDepth 20000 in
theorem gX7_beat_X7_isBeat : GoodIn wsX7_beat (wsV RX7 123 RX7 yX7_isBeat wsX7_isBeat) := goodIn_app (goodIn_of _ (by decide +kernel)) ggX7_beat_X7_isBeat
set_option maxRecDepth 20000 in
theorem ggX7_beat_X7_spot : GoodIn wsX7_beat wsX7_spot := goodIn_r _ [15] (by decide +kernel) (by decide +kernel)
set_option maxRecDepth 20000 in
theorem gX7_beat_X7_spot : GoodIn wsX7_beat (va_wsS RX7 99 yX7_spot wsX7_spot) := goodIn_app (goodIn_of _ (by decide +kernel)) ggX7_beat_X7_spot
set_option maxRecDepth 20000 in
theorem ggX7_change_X7_isBeat : GoodIn wsX7_change wsX7_isBeat := goodIn_r _ [7, 8, 9, 10, 11, 6, 12, 13, 23, 24, 25, 26, 27, 28, 29, 30, 31, 32, 33, 34, 35, 36, 37, 38, 39, 40, 41, 42, 43, 44, 45, 46] (by decide +kernel) (by decide +kernel)
set_option maxRecDepth 20000 in
theorem gX7_change_X7_isBeat : GoodIn wsX7_change (wsV RX7 123 RX7 yX7_isBeat wsX7_isBeat) := goodIn_app (goodIn_of _ (by decide +kernel)) ggX7_change_X7_isBeat
set_option maxRecDepth 20000 in
theorem ggX7_change_X7_within : GoodIn wsX7_change wsX7_within := goodIn_r _ [16] (by decide +kernel) (by decide +kernel)
set_option maxRecDepth 20000 in
theorem gX7_change_X7_within : GoodIn wsX7_change (va_wsS RX7 59 yX7_within wsX7_within) := goodIn_app (goodIn_of _ (by decide +kernel)) ggX7_change_X7_within
set_option maxRecDepth 20000 in
theorem ggX7_change_X7_size : GoodIn wsX7_change wsX7_size := goodIn_r _ [19] (by decide +kernel) (by decide +kernel)
set_option maxRecDepth 20000 in
theorem gX7_change_X7_size : GoodIn wsX7_change (va_wsS RX7 127 yX7_size wsX7_size) := goodIn_app (goodIn_of _ (by decide +kernel)) ggX7_change_X7_size
set_option maxRecDepth 20000 in
theorem ggX7_change_X7_spot : GoodIn wsX7_change wsX7_spot := goodIn_r _ [22] (by decide +kernel) (by decide +kernel)
set_option maxRecDepth 20000 in
theorem gX7_change_X7_spot : GoodIn wsX7_change (va_wsS RX7 99 yX7_spot wsX7_spot) := goodIn_app (goodIn_of _ (by decide +kernel)) ggX7_change_X7_spot
set_option maxRecDepth 20000 in
theorem ggX7_dancer_X7_within : GoodIn wsX7_dancer wsX7_within := goodIn_r _ [8] (by decide +kernel) (by decide +kernel)
set_option maxRecDepth 20000 in
theorem gX7_dancer_X7_within : GoodIn wsX7_dancer (va_wsS RX7 59 yX7_within wsX7_within) := goodIn_app (goodIn_of _ (by decide +kernel)) ggX7_dancer_X7_within
set_option maxRecDepth 20000 in
theorem ggX7_ofDancer_X7_isDancer : GoodIn wsX7_ofDancer wsX7_isDancer := goodIn_r _ [7, 8, 13, 14, 15, 16, 17, 18, 19, 20, 21, 22, 23, 24, 25, 26, 27, 28, 29, 30, 31, 32, 33, 34, 35, 36] (by decide +kernel) (by decide +kernel)
set_option maxRecDepth 20000 in
theorem gX7_ofDancer_X7_isDancer : GoodIn wsX7_ofDancer (wsV RX7 130 RX7 yX7_isDancer wsX7_isDancer) := goodIn_app (goodIn_of _ (by decide +kernel)) ggX7_ofDancer_X7_isDancer
set_option maxRecDepth 20000 in
theorem ggX7_ofDancer_X7_weighs : GoodIn wsX7_ofDancer wsX7_weighs := goodIn_r _ [12, 1, 2, 13, 14, 15, 16, 17, 18, 19, 20, 21, 22, 23, 24, 25, 26, 27, 28, 29, 30, 31, 32, 33, 34, 35, 36] (by decide +kernel) (by decide +kernel)
set_option maxRecDepth 20000 in
theorem gX7_ofDancer_X7_weighs : GoodIn wsX7_ofDancer (wsV RX7 133 RX7 yX7_weighs wsX7_weighs) := goodIn_app (goodIn_of _ (by decide +kernel)) ggX7_ofDancer_X7_weighs
set_option maxRecDepth 20000 in
theorem ggX7_leave_X7_within : GoodIn wsX7_leave wsX7_within := goodIn_r _ [5] (by decide +kernel) (by decide +kernel)
set_option maxRecDepth 20000 in
theorem gX7_leave_X7_within : GoodIn wsX7_leave (va_wsS RX7 59 yX7_within wsX7_within) := goodIn_app (goodIn_of _ (by decide +kernel)) ggX7_leave_X7_within
set_option maxRecDepth 20000 in
theorem ggX7_feltIn_X7_limps : GoodIn wsX7_feltIn wsX7_limps := goodIn_r _ [11, 4, 12, 17, 18, 19, 20, 21, 22, 23, 24, 25, 26, 27, 28, 29, 30, 31, 32, 33, 34, 35, 36, 37, 38, 39, 40] (by decide +kernel) (by decide +kernel)
set_option maxRecDepth 20000 in
theorem gX7_feltIn_X7_limps : GoodIn wsX7_feltIn (wsV RX7 136 RX7 yX7_limps wsX7_limps) := goodIn_app (goodIn_of _ (by decide +kernel)) ggX7_feltIn_X7_limps
set_option maxRecDepth 20000 in
theorem ggX7_feltIn_X7_weighs : GoodIn wsX7_feltIn wsX7_weighs := goodIn_r _ [16, 12, 5, 17, 18, 19, 20, 21, 22, 23, 24, 25, 26, 27, 28, 29, 30, 31, 32, 33, 34, 35, 36, 37, 38, 39, 40] (by decide +kernel) (by decide +kernel)
set_option maxRecDepth 20000 in
theorem gX7_feltIn_X7_weighs : GoodIn wsX7_feltIn (wsV RX7 133 RX7 yX7_weighs wsX7_weighs) := goodIn_app (goodIn_of _ (by decide +kernel)) ggX7_feltIn_X7_weighs
set_option maxRecDepth 20000 in
theorem ggX7_wrongIn_X7_feltIn : GoodIn wsX7_wrongIn wsX7_feltIn := goodIn_r _ [7, 8, 9, 10, 11, 12, 13, 14, 15, 16, 6, 17, 18, 19, 20, 21, 22, 26, 27, 28, 29, 30, 31, 32, 33, 34, 35, 36, 37, 38, 39, 40, 41, 42, 43, 44, 45, 46, 47, 48, 49] (by decide +kernel) (by decide +kernel)
set_option maxRecDepth 20000 in
theorem gX7_wrongIn_X7_feltIn : GoodIn wsX7_wrongIn (wsV RX7 143 RX7 yX7_feltIn wsX7_feltIn) := goodIn_app (goodIn_of _ (by decide +kernel)) ggX7_wrongIn_X7_feltIn
set_option maxRecDepth 20000 in
theorem ggX7_wrongIn_X7_spot : GoodIn wsX7_wrongIn wsX7_spot := goodIn_r _ [25] (by decide +kernel) (by decide +kernel)
set_option maxRecDepth 20000 in
theorem gX7_wrongIn_X7_spot : GoodIn wsX7_wrongIn (va_wsS RX7 99 yX7_spot wsX7_spot) := goodIn_app (goodIn_of _ (by decide +kernel)) ggX7_wrongIn_X7_spot
set_option maxRecDepth 20000 in
theorem ggX7_openedBy_X7_wrongIn : GoodIn wsX7_openedBy wsX7_wrongIn := goodIn_r _ [7, 2, 8, 9, 10, 11, 6, 12, 13, 14, 15, 16, 17, 18, 19, 20, 21, 22, 23, 24, 25, 26, 27, 28, 29, 30, 31, 32, 33, 34, 35, 36, 37, 38, 39, 40, 41, 42, 43, 44, 45, 46, 47, 48, 49, 50, 51, 52, 53, 54] (by decide +kernel) (by decide +kernel)
set_option maxRecDepth 20000 in
theorem gX7_openedBy_X7_wrongIn : GoodIn wsX7_openedBy (wsV RX7 146 RX7 yX7_wrongIn wsX7_wrongIn) := goodIn_app (goodIn_of _ (by decide +kernel)) ggX7_openedBy_X7_wrongIn
set_option maxRecDepth 20000 in
theorem ggX7_layPlan_X7_against : GoodIn wsX7_layPlan wsX7_against := goodIn_r _ [9, 10, 11, 22, 23, 24, 25, 26, 27, 28, 29, 30, 31, 32, 33, 34, 35, 36, 37, 38, 39, 40, 41, 42, 43, 44, 45] (by decide +kernel) (by decide +kernel)
set_option maxRecDepth 20000 in
theorem gX7_layPlan_X7_against : GoodIn wsX7_layPlan (wsV RX7 82 RX7 yX7_against wsX7_against) := goodIn_app (goodIn_of _ (by decide +kernel)) ggX7_layPlan_X7_against
set_option maxRecDepth 20000 in
theorem ggX7_layPlan_X7_fails : GoodIn wsX7_layPlan wsX7_fails := goodIn_r _ [15, 16, 22, 23, 24, 25, 26, 27, 28, 29, 30, 31, 32, 33, 34, 35, 36, 37, 38, 39, 40, 41, 42, 43, 44, 45] (by decide +kernel) (by decide +kernel)
set_option maxRecDepth 20000 in
theorem gX7_layPlan_X7_fails : GoodIn wsX7_layPlan (wsV RX7 86 RX7 yX7_fails wsX7_fails) := goodIn_app (goodIn_of _ (by decide +kernel)) ggX7_layPlan_X7_fails
set_option maxRecDepth 20000 in
theorem ggX7_layPlan_X7_isBoard : GoodIn wsX7_layPlan wsX7_isBoard := goodIn_r _ [20, 21, 22, 23, 24, 25, 26, 27, 28, 29, 30, 31, 32, 33, 34, 35, 36, 37, 38, 39, 40, 41, 42, 43, 44, 45] (by decide +kernel) (by decide +kernel)
set_option maxRecDepth 20000 in
theorem gX7_layPlan_X7_isBoard : GoodIn wsX7_layPlan (wsV RX7 120 RX7 yX7_isBoard wsX7_isBoard) := goodIn_app (goodIn_of _ (by decide +kernel)) ggX7_layPlan_X7_isBoard
set_option maxRecDepth 20000 in
theorem ggX7_opens_X7_isSheet : GoodIn wsX7_opens wsX7_isSheet := goodIn_r _ [5, 6, 7, 4, 8] (by decide +kernel) (by decide +kernel)
set_option maxRecDepth 20000 in
theorem gX7_opens_X7_isSheet : GoodIn wsX7_opens (va_wsS RX7 76 yX7_isSheet wsX7_isSheet) := goodIn_app (goodIn_of _ (by decide +kernel)) ggX7_opens_X7_isSheet
set_option maxRecDepth 20000 in
theorem ggX7_opens_X7_isSort : GoodIn wsX7_opens wsX7_isSort := goodIn_r _ [11, 6, 7, 4, 8] (by decide +kernel) (by decide +kernel)
set_option maxRecDepth 20000 in
theorem gX7_opens_X7_isSort : GoodIn wsX7_opens (va_wsS RX7 79 yX7_isSort wsX7_isSort) := goodIn_app (goodIn_of _ (by decide +kernel)) ggX7_opens_X7_isSort
set_option maxRecDepth 20000 in
theorem ggX7_opens_X7_within : GoodIn wsX7_opens wsX7_within := goodIn_r _ [8] (by decide +kernel) (by decide +kernel)
set_option maxRecDepth 20000 in
theorem gX7_opens_X7_within : GoodIn wsX7_opens (va_wsS RX7 59 yX7_within wsX7_within) := goodIn_app (goodIn_of _ (by decide +kernel)) ggX7_opens_X7_within
set_option maxRecDepth 20000 in
theorem ggX7_opens_X7_layPlan : GoodIn wsX7_opens wsX7_layPlan := goodIn_r _ [15, 16, 17, 18, 19, 20, 21, 22, 4, 23, 24, 25, 26, 27, 28, 29, 1, 30, 31, 32, 33, 34, 64, 65, 66, 67, 68, 69, 70, 71, 72, 73, 74, 75, 76, 77, 78, 79, 80, 81, 82, 83, 84, 85, 86, 87] (by decide +kernel) (by decide +kernel)
set_option maxRecDepth 20000 in
theorem gX7_opens_X7_layPlan : GoodIn wsX7_opens (wsV RX7 149 RX7 yX7_layPlan wsX7_layPlan) := goodIn_app (goodIn_of _ (by decide +kernel)) ggX7_opens_X7_layPlan
set_option maxRecDepth 20000 in
theorem ggX7_opens_X7_openedBy : GoodIn wsX7_opens wsX7_openedBy := goodIn_r _ [38, 17, 39, 40, 41, 42, 4, 43, 44, 45, 46, 47, 48, 34, 16, 19, 49, 50, 51, 52, 53, 54, 55, 56, 57, 58, 59, 60, 61, 62, 63, 64, 65, 66, 67, 68, 69, 70, 71, 72, 73, 74, 75, 76, 77, 78, 79, 80, 81, 82, 83, 84, 85, 86, 87] (by decide +kernel) (by decide +kernel)
set_option maxRecDepth 20000 in
theorem gX7_opens_X7_openedBy : GoodIn wsX7_opens (wsV RX7 152 RX7 yX7_openedBy wsX7_openedBy) := goodIn_app (goodIn_of _ (by decide +kernel)) ggX7_opens_X7_openedBy
set_option maxRecDepth 20000 in
theorem ggX7_felt_X7_isSheet : GoodIn wsX7_felt wsX7_isSheet := goodIn_r _ [5, 6, 7, 4, 8] (by decide +kernel) (by decide +kernel)
set_option maxRecDepth 20000 in
theorem gX7_felt_X7_isSheet : GoodIn wsX7_felt (va_wsS RX7 76 yX7_isSheet wsX7_isSheet) := goodIn_app (goodIn_of _ (by decide +kernel)) ggX7_felt_X7_isSheet
set_option maxRecDepth 20000 in
theorem ggX7_felt_X7_isSort : GoodIn wsX7_felt wsX7_isSort := goodIn_r _ [11, 6, 7, 4, 8] (by decide +kernel) (by decide +kernel)
set_option maxRecDepth 20000 in
theorem gX7_felt_X7_isSort : GoodIn wsX7_felt (va_wsS RX7 79 yX7_isSort wsX7_isSort) := goodIn_app (goodIn_of _ (by decide +kernel)) ggX7_felt_X7_isSort
set_option maxRecDepth 20000 in
theorem ggX7_felt_X7_within : GoodIn wsX7_felt wsX7_within := goodIn_r _ [8] (by decide +kernel) (by decide +kernel)
set_option maxRecDepth 20000 in
theorem gX7_felt_X7_within : GoodIn wsX7_felt (va_wsS RX7 59 yX7_within wsX7_within) := goodIn_app (goodIn_of _ (by decide +kernel)) ggX7_felt_X7_within
set_option maxRecDepth 20000 in
theorem ggX7_felt_X7_layPlan : GoodIn wsX7_felt wsX7_layPlan := goodIn_r _ [15, 16, 17, 18, 19, 20, 21, 22, 4, 23, 24, 25, 26, 27, 28, 29, 1, 30, 31, 32, 33, 34, 51, 52, 53, 54, 55, 56, 57, 58, 59, 60, 61, 62, 63, 64, 65, 66, 67, 68, 69, 70, 71, 72, 73, 74] (by decide +kernel) (by decide +kernel)
set_option maxRecDepth 20000 in
theorem gX7_felt_X7_layPlan : GoodIn wsX7_felt (wsV RX7 149 RX7 yX7_layPlan wsX7_layPlan) := goodIn_app (goodIn_of _ (by decide +kernel)) ggX7_felt_X7_layPlan
set_option maxRecDepth 20000 in
theorem ggX7_felt_X7_feltIn : GoodIn wsX7_felt wsX7_feltIn := goodIn_r _ [38, 34, 16, 19, 39, 40, 41, 42, 43, 44, 4, 45, 46, 47, 48, 49, 50, 51, 52, 53, 54, 55, 56, 57, 58, 59, 60, 61, 62, 63, 64, 65, 66, 67, 68, 69, 70, 71, 72, 73, 74] (by decide +kernel) (by decide +kernel)
set_option maxRecDepth 20000 in
theorem gX7_felt_X7_feltIn : GoodIn wsX7_felt (wsV RX7 143 RX7 yX7_feltIn wsX7_feltIn) := goodIn_app (goodIn_of _ (by decide +kernel)) ggX7_felt_X7_feltIn
set_option maxRecDepth 20000 in
theorem ggX7_wrong_X7_isDoor : GoodIn wsX7_wrong wsX7_isDoor := goodIn_r _ [7, 8, 64, 65, 66, 67, 68, 69, 70, 71, 72, 73, 74, 75, 76, 77, 78, 79, 80, 81, 82, 83, 84, 85, 86, 87] (by decide +kernel) (by decide +kernel)
set_option maxRecDepth 20000 in
theorem gX7_wrong_X7_isDoor : GoodIn wsX7_wrong (wsV RX7 69 RX7 yX7_isDoor wsX7_isDoor) := goodIn_app (goodIn_of _ (by decide +kernel)) ggX7_wrong_X7_isDoor
set_option maxRecDepth 20000 in
theorem ggX7_wrong_X7_isSheet : GoodIn wsX7_wrong wsX7_isSheet := goodIn_r _ [11, 12, 13, 6, 14] (by decide +kernel) (by decide +kernel)
set_option maxRecDepth 20000 in
theorem gX7_wrong_X7_isSheet : GoodIn wsX7_wrong (va_wsS RX7 76 yX7_isSheet wsX7_isSheet) := goodIn_app (goodIn_of _ (by decide +kernel)) ggX7_wrong_X7_isSheet
set_option maxRecDepth 20000 in
theorem ggX7_wrong_X7_isSort : GoodIn wsX7_wrong wsX7_isSort := goodIn_r _ [17, 12, 13, 6, 14] (by decide +kernel) (by decide +kernel)
set_option maxRecDepth 20000 in
theorem gX7_wrong_X7_isSort : GoodIn wsX7_wrong (va_wsS RX7 79 yX7_isSort wsX7_isSort) := goodIn_app (goodIn_of _ (by decide +kernel)) ggX7_wrong_X7_isSort
set_option maxRecDepth 20000 in
theorem ggX7_wrong_X7_layPlan : GoodIn wsX7_wrong wsX7_layPlan := goodIn_r _ [21, 22, 8, 23, 24, 25, 26, 27, 6, 28, 29, 30, 31, 32, 33, 34, 1, 35, 36, 37, 38, 39, 64, 65, 66, 67, 68, 69, 70, 71, 72, 73, 74, 75, 76, 77, 78, 79, 80, 81, 82, 83, 84, 85, 86, 87] (by decide +kernel) (by decide +kernel)
set_option maxRecDepth 20000 in
theorem gX7_wrong_X7_layPlan : GoodIn wsX7_wrong (wsV RX7 149 RX7 yX7_layPlan wsX7_layPlan) := goodIn_app (goodIn_of _ (by decide +kernel)) ggX7_wrong_X7_layPlan
set_option maxRecDepth 20000 in
theorem ggX7_wrong_X7_wrongIn : GoodIn wsX7_wrong wsX7_wrongIn := goodIn_r _ [43, 2, 44, 45, 46, 47, 6, 48, 39, 22, 24, 49, 50, 51, 52, 53, 54, 55, 56, 57, 58, 59, 60, 61, 62, 63, 64, 65, 66, 67, 68, 69, 70, 71, 72, 73, 74, 75, 76, 77, 78, 79, 80, 81, 82, 83, 84, 85, 86, 87] (by decide +kernel) (by decide +kernel)
set_option maxRecDepth 20000 in
theorem gX7_wrong_X7_wrongIn : GoodIn wsX7_wrong (wsV RX7 146 RX7 yX7_wrongIn wsX7_wrongIn) := goodIn_app (goodIn_of _ (by decide +kernel)) ggX7_wrong_X7_wrongIn
set_option maxRecDepth 20000 in
theorem ggX7_rows_X7_limps : GoodIn wsX7_rows wsX7_limps := goodIn_r _ [7, 8, 9, 10, 11, 12, 13, 14, 15, 16, 17, 18, 19, 20, 21, 22, 23, 24, 25, 26, 27, 28, 29, 30, 31, 32, 33] (by decide +kernel) (by decide +kernel)
set_option maxRecDepth 20000 in
theorem gX7_rows_X7_limps : GoodIn wsX7_rows (wsV RX7 136 RX7 yX7_limps wsX7_limps) := goodIn_app (goodIn_of _ (by decide +kernel)) ggX7_rows_X7_limps
set_option maxRecDepth 20000 in
theorem ggX7_layBeat_X7_limps : GoodIn wsX7_layBeat wsX7_limps := goodIn_r _ [8, 9, 10, 11, 12, 13, 14, 15, 16, 17, 18, 19, 20, 21, 22, 23, 24, 25, 26, 27, 28, 29, 30, 31, 32, 33, 34] (by decide +kernel) (by decide +kernel)
set_option maxRecDepth 20000 in
theorem gX7_layBeat_X7_limps : GoodIn wsX7_layBeat (wsV RX7 136 RX7 yX7_limps wsX7_limps) := goodIn_app (goodIn_of _ (by decide +kernel)) ggX7_layBeat_X7_limps
set_option maxRecDepth 20000 in
theorem ggX7_nextRow_X7_rows : GoodIn wsX7_nextRow wsX7_rows := goodIn_r _ [6, 7, 8, 9, 10, 11, 5, 12, 13, 14, 33, 34, 35, 36, 37, 38, 39, 40, 41, 42, 43, 44, 45, 46, 47, 48, 49, 50, 51, 52, 53, 54, 55, 56] (by decide +kernel) (by decide +kernel)
set_option maxRecDepth 20000 in
theorem gX7_nextRow_X7_rows : GoodIn wsX7_nextRow (wsV RX7 155 RX7 yX7_rows wsX7_rows) := goodIn_app (goodIn_of _ (by decide +kernel)) ggX7_nextRow_X7_rows
set_option maxRecDepth 20000 in
theorem ggX7_nextRow_X7_layBeat : GoodIn wsX7_nextRow wsX7_layBeat := goodIn_r _ [18, 7, 19, 8, 9, 10, 11, 5, 12, 13, 14, 33, 34, 35, 36, 37, 38, 39, 40, 41, 42, 43, 44, 45, 46, 47, 48, 49, 50, 51, 52, 53, 54, 55, 56] (by decide +kernel) (by decide +kernel)
set_option maxRecDepth 20000 in
theorem gX7_nextRow_X7_layBeat : GoodIn wsX7_nextRow (wsV RX7 158 RX7 yX7_layBeat wsX7_layBeat) := goodIn_app (goodIn_of _ (by decide +kernel)) ggX7_nextRow_X7_layBeat
set_option maxRecDepth 20000 in
theorem ggX7_nextRow_X7_feltIn : GoodIn wsX7_nextRow wsX7_feltIn := goodIn_r _ [23, 8, 7, 19, 13, 24, 25, 9, 10, 11, 5, 12, 14, 26, 27, 28, 29, 33, 34, 35, 36, 37, 38, 39, 40, 41, 42, 43, 44, 45, 46, 47, 48, 49, 50, 51, 52, 53, 54, 55, 56] (by decide +kernel) (by decide +kernel)
set_option maxRecDepth 20000 in
theorem gX7_nextRow_X7_feltIn : GoodIn wsX7_nextRow (wsV RX7 143 RX7 yX7_feltIn wsX7_feltIn) := goodIn_app (goodIn_of _ (by decide +kernel)) ggX7_nextRow_X7_feltIn
set_option maxRecDepth 20000 in
theorem ggX7_nextRow_X7_spot : GoodIn wsX7_nextRow wsX7_spot := goodIn_r _ [32] (by decide +kernel) (by decide +kernel)
set_option maxRecDepth 20000 in
theorem gX7_nextRow_X7_spot : GoodIn wsX7_nextRow (va_wsS RX7 99 yX7_spot wsX7_spot) := goodIn_app (goodIn_of _ (by decide +kernel)) ggX7_nextRow_X7_spot
set_option maxRecDepth 20000 in
theorem ggX7_limpedFrom_X7_limps : GoodIn wsX7_limpedFrom wsX7_limps := goodIn_r _ [8, 9, 10, 11, 12, 13, 14, 15, 16, 17, 18, 19, 20, 21, 22, 23, 24, 25, 26, 27, 28, 29, 30, 31, 32, 33, 34] (by decide +kernel) (by decide +kernel)
set_option maxRecDepth 20000 in
theorem gX7_limpedFrom_X7_limps : GoodIn wsX7_limpedFrom (wsV RX7 136 RX7 yX7_limps wsX7_limps) := goodIn_app (goodIn_of _ (by decide +kernel)) ggX7_limpedFrom_X7_limps
set_option maxRecDepth 20000 in
theorem ggX7_findTwo_X7_nextRow : GoodIn wsX7_findTwo wsX7_nextRow := goodIn_r _ [7, 8, 9, 10, 11, 6, 12, 13, 14, 15, 16, 17, 18, 19, 20, 21, 22, 23, 24, 25, 26, 27, 28, 29, 30, 31, 32, 33, 34, 35, 36, 37, 38, 43, 44, 45, 46, 47, 48, 49, 50, 51, 52, 53, 54, 55, 56, 57, 58, 59, 60, 61, 62, 63, 64, 65, 66] (by decide +kernel) (by decide +kernel)
set_option maxRecDepth 20000 in
theorem gX7_findTwo_X7_nextRow : GoodIn wsX7_findTwo (wsV RX7 162 RX7 yX7_nextRow wsX7_nextRow) := goodIn_app (goodIn_of _ (by decide +kernel)) ggX7_findTwo_X7_nextRow
set_option maxRecDepth 20000 in
theorem ggX7_findTwo_X7_limpedFrom : GoodIn wsX7_findTwo wsX7_limpedFrom := goodIn_r _ [42, 13, 14, 25, 15, 16, 17, 6, 18, 19, 20, 43, 44, 45, 46, 47, 48, 49, 50, 51, 52, 53, 54, 55, 56, 57, 58, 59, 60, 61, 62, 63, 64, 65, 66] (by decide +kernel) (by decide +kernel)
set_option maxRecDepth 20000 in
theorem gX7_findTwo_X7_limpedFrom : GoodIn wsX7_findTwo (wsV RX7 165 RX7 yX7_limpedFrom wsX7_limpedFrom) := goodIn_app (goodIn_of _ (by decide +kernel)) ggX7_findTwo_X7_limpedFrom
set_option maxRecDepth 20000 in
theorem ggX7_findPlan_X7_findTwo : GoodIn wsX7_findPlan wsX7_findTwo := goodIn_r _ [6, 7, 1, 8, 9, 10, 5, 11, 12, 13, 14, 15, 16, 17, 18, 19, 20, 21, 22, 23, 24, 25, 26, 27, 28, 29, 30, 31, 32, 33, 34, 35, 36, 37, 38, 39, 40, 41, 42, 43, 44, 45, 46, 47, 48, 49, 50, 51, 52, 53, 54, 55, 56, 57, 58, 59, 60, 61, 62, 63, 64, 65, 66, 67, 68, 69, 70] (by decide +kernel) (by decide +kernel)
set_option maxRecDepth 20000 in
theorem gX7_findPlan_X7_findTwo : GoodIn wsX7_findPlan (wsV RX7 168 RX7 yX7_findTwo wsX7_findTwo) := goodIn_app (goodIn_of _ (by decide +kernel)) ggX7_findPlan_X7_findTwo
set_option maxRecDepth 20000 in
theorem ggX7_can_X7_isDoor : GoodIn wsX7_can wsX7_isDoor := goodIn_r _ [5, 6, 56, 57, 58, 59, 60, 61, 62, 63, 64, 65, 66, 67, 68, 69, 70, 71, 72, 73, 74, 75, 76, 77, 78, 79] (by decide +kernel) (by decide +kernel)
set_option maxRecDepth 20000 in
theorem gX7_can_X7_isDoor : GoodIn wsX7_can (wsV RX7 69 RX7 yX7_isDoor wsX7_isDoor) := goodIn_app (goodIn_of _ (by decide +kernel)) ggX7_can_X7_isDoor
set_option maxRecDepth 20000 in
theorem ggX7_can_X7_findPlan : GoodIn wsX7_can wsX7_findPlan := goodIn_r _ [10, 11, 12, 13, 14, 4, 15, 16, 17, 18, 19, 20, 21, 22, 23, 24, 25, 26, 27, 28, 29, 30, 31, 32, 33, 34, 35, 36, 37, 38, 39, 40, 41, 42, 43, 44, 45, 46, 47, 48, 49, 50, 51, 52, 53, 54, 55, 56, 57, 58, 59, 60, 61, 62, 63, 64, 65, 66, 67, 68, 69, 70, 71, 72, 73, 74, 75, 76, 77, 78, 79] (by decide +kernel) (by decide +kernel)
set_option maxRecDepth 20000 in
theorem gX7_can_X7_findPlan : GoodIn wsX7_can (wsV RX7 171 RX7 yX7_findPlan wsX7_findPlan) := goodIn_app (goodIn_of _ (by decide +kernel)) ggX7_can_X7_findPlan
set_option maxRecDepth 20000 in
theorem ggX7_plan_X7_isBeat : GoodIn wsX7_plan wsX7_isBeat := goodIn_r _ [6, 7, 8, 9, 10, 5, 11, 12, 64, 65, 66, 67, 68, 69, 70, 71, 72, 73, 74, 75, 76, 77, 78, 79, 80, 81, 82, 83, 84, 85, 86, 87] (by decide +kernel) (by decide +kernel)
set_option maxRecDepth 20000 in
theorem gX7_plan_X7_isBeat : GoodIn wsX7_plan (wsV RX7 123 RX7 yX7_isBeat wsX7_isBeat) := goodIn_app (goodIn_of _ (by decide +kernel)) ggX7_plan_X7_isBeat
set_option maxRecDepth 20000 in
theorem ggX7_plan_X7_isDancer : GoodIn wsX7_plan wsX7_isDancer := goodIn_r _ [16, 17, 64, 65, 66, 67, 68, 69, 70, 71, 72, 73, 74, 75, 76, 77, 78, 79, 80, 81, 82, 83, 84, 85, 86, 87] (by decide +kernel) (by decide +kernel)
set_option maxRecDepth 20000 in
theorem gX7_plan_X7_isDancer : GoodIn wsX7_plan (wsV RX7 130 RX7 yX7_isDancer wsX7_isDancer) := goodIn_app (goodIn_of _ (by decide +kernel)) ggX7_plan_X7_isDancer
set_option maxRecDepth 20000 in
theorem ggX7_plan_X7_findPlan : GoodIn wsX7_plan wsX7_findPlan := goodIn_r _ [21, 7, 22, 23, 24, 5, 25, 26, 27, 28, 29, 30, 31, 32, 33, 34, 35, 17, 36, 37, 38, 39, 40, 41, 42, 43, 44, 45, 46, 1, 47, 48, 49, 50, 51, 52, 53, 54, 55, 56, 57, 58, 59, 60, 61, 62, 63, 64, 65, 66, 67, 68, 69, 70, 71, 72, 73, 74, 75, 76, 77, 78, 79, 80, 81, 82, 83, 84, 85, 86, 87] (by decide +kernel) (by decide +kernel)
set_option maxRecDepth 20000 in
theorem gX7_plan_X7_findPlan : GoodIn wsX7_plan (wsV RX7 171 RX7 yX7_findPlan wsX7_findPlan) := goodIn_app (goodIn_of _ (by decide +kernel)) ggX7_plan_X7_findPlan
set_option maxRecDepth 20000 in
theorem ggX7_limped_X7_isDoor : GoodIn wsX7_limped wsX7_isDoor := goodIn_r _ [7, 8, 64, 65, 66, 67, 68, 69, 70, 71, 72, 73, 74, 75, 76, 77, 78, 79, 80, 81, 82, 83, 84, 85, 86, 87] (by decide +kernel) (by decide +kernel)
set_option maxRecDepth 20000 in
theorem gX7_limped_X7_isDoor : GoodIn wsX7_limped (wsV RX7 69 RX7 yX7_isDoor wsX7_isDoor) := goodIn_app (goodIn_of _ (by decide +kernel)) ggX7_limped_X7_isDoor
set_option maxRecDepth 20000 in
theorem ggX7_limped_X7_findPlan : GoodIn wsX7_limped wsX7_findPlan := goodIn_r _ [12, 2, 13, 14, 15, 6, 16, 17, 18, 19, 20, 21, 22, 23, 24, 25, 26, 27, 28, 29, 30, 31, 32, 1, 33, 34, 35, 36, 37, 38, 39, 40, 41, 42, 43, 44, 45, 46, 47, 48, 49, 50, 51, 52, 53, 54, 55, 64, 65, 66, 67, 68, 69, 70, 71, 72, 73, 74, 75, 76, 77, 78, 79, 80, 81, 82, 83, 84, 85, 86, 87] (by decide +kernel) (by decide +kernel)
set_option maxRecDepth 20000 in
theorem gX7_limped_X7_findPlan : GoodIn wsX7_limped (wsV RX7 171 RX7 yX7_findPlan wsX7_findPlan) := goodIn_app (goodIn_of _ (by decide +kernel)) ggX7_limped_X7_findPlan
set_option maxRecDepth 20000 in
theorem ggX7_limped_X7_openedBy : GoodIn wsX7_limped wsX7_openedBy := goodIn_r _ [59, 8, 2, 60, 61, 62, 6, 63, 22, 39, 40, 41, 42, 28, 27, 38, 1, 43, 44, 29, 30, 31, 32, 33, 45, 46, 47, 48, 49, 50, 51, 64, 65, 66, 67, 68, 69, 70, 71, 72, 73, 74, 75, 76, 77, 78, 79, 80, 81, 82, 83, 84, 85, 86, 87] (by decide +kernel) (by decide +kernel)
set_option maxRecDepth 20000 in
theorem gX7_limped_X7_openedBy : GoodIn wsX7_limped (wsV RX7 152 RX7 yX7_openedBy wsX7_openedBy) := goodIn_app (goodIn_of _ (by decide +kernel)) ggX7_limped_X7_openedBy
set_option maxRecDepth 20000 in
theorem ggX7_plans_X7_isBeat : GoodIn wsX7_plans wsX7_isBeat := goodIn_r _ [7, 8, 9, 10, 11, 6, 12, 13, 44, 45, 46, 47, 48, 49, 50, 51, 52, 53, 54, 55, 56, 57, 58, 59, 60, 61, 62, 63, 64, 65, 66, 67] (by decide +kernel) (by decide +kernel)
set_option maxRecDepth 20000 in
theorem gX7_plans_X7_isBeat : GoodIn wsX7_plans (wsV RX7 123 RX7 yX7_isBeat wsX7_isBeat) := goodIn_app (goodIn_of _ (by decide +kernel)) ggX7_plans_X7_isBeat
set_option maxRecDepth 20000 in
theorem ggX7_plans_X7_rows : GoodIn wsX7_plans wsX7_rows := goodIn_r _ [17, 18, 19, 20, 21, 22, 6, 23, 24, 25, 44, 45, 46, 47, 48, 49, 50, 51, 52, 53, 54, 55, 56, 57, 58, 59, 60, 61, 62, 63, 64, 65, 66, 67] (by decide +kernel) (by decide +kernel)
set_option maxRecDepth 20000 in
theorem gX7_plans_X7_rows : GoodIn wsX7_plans (wsV RX7 155 RX7 yX7_rows wsX7_rows) := goodIn_app (goodIn_of _ (by decide +kernel)) ggX7_plans_X7_rows
set_option maxRecDepth 20000 in
theorem ggX7_plans_X7_layBeat : GoodIn wsX7_plans wsX7_layBeat := goodIn_r _ [29, 18, 30, 19, 20, 21, 22, 6, 23, 24, 25, 44, 45, 46, 47, 48, 49, 50, 51, 52, 53, 54, 55, 56, 57, 58, 59, 60, 61, 62, 63, 64, 65, 66, 67] (by decide +kernel) (by decide +kernel)
set_option maxRecDepth 20000 in
theorem gX7_plans_X7_layBeat : GoodIn wsX7_plans (wsV RX7 158 RX7 yX7_layBeat wsX7_layBeat) := goodIn_app (goodIn_of _ (by decide +kernel)) ggX7_plans_X7_layBeat
set_option maxRecDepth 20000 in
theorem ggX7_plans_X7_feltIn : GoodIn wsX7_plans wsX7_feltIn := goodIn_r _ [34, 19, 18, 30, 24, 35, 36, 20, 21, 22, 6, 23, 25, 37, 38, 39, 40, 44, 45, 46, 47, 48, 49, 50, 51, 52, 53, 54, 55, 56, 57, 58, 59, 60, 61, 62, 63, 64, 65, 66, 67] (by decide +kernel) (by decide +kernel)
set_option maxRecDepth 20000 in
theorem gX7_plans_X7_feltIn : GoodIn wsX7_plans (wsV RX7 143 RX7 yX7_feltIn wsX7_feltIn) := goodIn_app (goodIn_of _ (by decide +kernel)) ggX7_plans_X7_feltIn
set_option maxRecDepth 20000 in
theorem ggX7_plans_X7_spot : GoodIn wsX7_plans wsX7_spot := goodIn_r _ [43] (by decide +kernel) (by decide +kernel)
set_option maxRecDepth 20000 in
theorem gX7_plans_X7_spot : GoodIn wsX7_plans (va_wsS RX7 99 yX7_spot wsX7_spot) := goodIn_app (goodIn_of _ (by decide +kernel)) ggX7_plans_X7_spot
set_option maxRecDepth 20000 in
theorem ggX7_allBars_X7_barsOf : GoodIn wsX7_allBars wsX7_barsOf := goodIn_r _ [6, 7, 8, 9, 10, 11, 12, 13, 14, 15, 16, 17, 18, 19, 20, 21, 22, 23, 24, 25, 26, 27, 28, 29, 30, 31] (by decide +kernel) (by decide +kernel)
set_option maxRecDepth 20000 in
theorem gX7_allBars_X7_barsOf : GoodIn wsX7_allBars (wsV RX7 174 RX7 yX7_barsOf wsX7_barsOf) := goodIn_app (goodIn_of _ (by decide +kernel)) ggX7_allBars_X7_barsOf
set_option maxRecDepth 20000 in
theorem ggX7_family_X7_allBars : GoodIn wsX7_family wsX7_allBars := goodIn_r _ [8, 1, 9, 10, 11, 7, 12, 13, 14, 15, 16, 17, 18, 19, 20, 21, 22, 23, 24, 25, 26, 27, 28, 29, 30, 31, 32, 33, 34, 35, 36, 37] (by decide +kernel) (by decide +kernel)
set_option maxRecDepth 20000 in
theorem gX7_family_X7_allBars : GoodIn wsX7_family (wsV RX7 177 RX7 yX7_allBars wsX7_allBars) := goodIn_app (goodIn_of _ (by decide +kernel)) ggX7_family_X7_allBars
set_option maxRecDepth 20000 in
theorem ggX7_knowAll_X7_known : GoodIn wsX7_knowAll wsX7_known := goodIn_r _ [5, 6, 7, 13, 14, 15, 16, 17, 18, 19, 20, 21, 22, 23, 24, 25, 26, 27, 28, 29, 30, 31, 32, 33, 34, 35, 36] (by decide +kernel) (by decide +kernel)
set_option maxRecDepth 20000 in
theorem gX7_knowAll_X7_known : GoodIn wsX7_knowAll (wsV RX7 181 RX7 yX7_known wsX7_known) := goodIn_app (goodIn_of _ (by decide +kernel)) ggX7_knowAll_X7_known
set_option maxRecDepth 20000 in
theorem ggX7_knowAll_X7_barsOf : GoodIn wsX7_knowAll wsX7_barsOf := goodIn_r _ [11, 12, 13, 14, 15, 16, 17, 18, 19, 20, 21, 22, 23, 24, 25, 26, 27, 28, 29, 30, 31, 32, 33, 34, 35, 36] (by decide +kernel) (by decide +kernel)
set_option maxRecDepth 20000 in
theorem gX7_knowAll_X7_barsOf : GoodIn wsX7_knowAll (wsV RX7 174 RX7 yX7_barsOf wsX7_barsOf) := goodIn_app (goodIn_of _ (by decide +kernel)) ggX7_knowAll_X7_barsOf
set_option maxRecDepth 20000 in
theorem ggX7_fewest_X7_isDoor : GoodIn wsX7_fewest wsX7_isDoor := goodIn_r _ [6, 7, 25, 26, 27, 28, 29, 30, 31, 32, 33, 34, 35, 36, 37, 38, 39, 40, 41, 42, 43, 44, 45, 46, 47, 48] (by decide +kernel) (by decide +kernel)
set_option maxRecDepth 20000 in
theorem gX7_fewest_X7_isDoor : GoodIn wsX7_fewest (wsV RX7 69 RX7 yX7_isDoor wsX7_isDoor) := goodIn_app (goodIn_of _ (by decide +kernel)) ggX7_fewest_X7_isDoor
set_option maxRecDepth 20000 in
theorem ggX7_fewest_X7_size : GoodIn wsX7_fewest wsX7_size := goodIn_r _ [10] (by decide +kernel) (by decide +kernel)
set_option maxRecDepth 20000 in
theorem gX7_fewest_X7_size : GoodIn wsX7_fewest (va_wsS RX7 127 yX7_size wsX7_size) := goodIn_app (goodIn_of _ (by decide +kernel)) ggX7_fewest_X7_size
set_option maxRecDepth 20000 in
theorem ggX7_fewest_X7_knowAll : GoodIn wsX7_fewest wsX7_knowAll := goodIn_r _ [14, 15, 16, 17, 5, 18, 1, 19, 20, 21, 22, 23, 24, 25, 26, 27, 28, 29, 30, 31, 32, 33, 34, 35, 36, 37, 38, 39, 40, 41, 42, 43, 44, 45, 46, 47, 48] (by decide +kernel) (by decide +kernel)
set_option maxRecDepth 20000 in
theorem gX7_fewest_X7_knowAll : GoodIn wsX7_fewest (wsV RX7 184 RX7 yX7_knowAll wsX7_knowAll) := goodIn_app (goodIn_of _ (by decide +kernel)) ggX7_fewest_X7_knowAll
set_option maxRecDepth 20000 in
theorem ggX7_any_X7_isDoor : GoodIn wsX7_any wsX7_isDoor := goodIn_r _ [6, 7, 25, 26, 27, 28, 29, 30, 31, 32, 33, 34, 35, 36, 37, 38, 39, 40, 41, 42, 43, 44, 45, 46, 47, 48] (by decide +kernel) (by decide +kernel)
set_option maxRecDepth 20000 in
theorem gX7_any_X7_isDoor : GoodIn wsX7_any (wsV RX7 69 RX7 yX7_isDoor wsX7_isDoor) := goodIn_app (goodIn_of _ (by decide +kernel)) ggX7_any_X7_isDoor
set_option maxRecDepth 20000 in
theorem ggX7_any_X7_knowAll : GoodIn wsX7_any wsX7_knowAll := goodIn_r _ [11, 12, 13, 14, 5, 15, 1, 16, 17, 18, 19, 20, 21, 25, 26, 27, 28, 29, 30, 31, 32, 33, 34, 35, 36, 37, 38, 39, 40, 41, 42, 43, 44, 45, 46, 47, 48] (by decide +kernel) (by decide +kernel)
set_option maxRecDepth 20000 in
theorem gX7_any_X7_knowAll : GoodIn wsX7_any (wsV RX7 184 RX7 yX7_knowAll wsX7_knowAll) := goodIn_app (goodIn_of _ (by decide +kernel)) ggX7_any_X7_knowAll
set_option maxRecDepth 20000 in
theorem ggX7_any_X7_size : GoodIn wsX7_any wsX7_size := goodIn_r _ [24] (by decide +kernel) (by decide +kernel)
set_option maxRecDepth 20000 in
theorem gX7_any_X7_size : GoodIn wsX7_any (va_wsS RX7 127 yX7_size wsX7_size) := goodIn_app (goodIn_of _ (by decide +kernel)) ggX7_any_X7_size
set_option maxRecDepth 20000 in
theorem ggX7_gone_X7_isDoor : GoodIn wsX7_gone wsX7_isDoor := goodIn_r _ [6, 7, 21, 22, 23, 24, 25, 26, 27, 28, 29, 30, 31, 32, 33, 34, 35, 36, 37, 38, 39, 40, 41, 42, 43, 44] (by decide +kernel) (by decide +kernel)
set_option maxRecDepth 20000 in
theorem gX7_gone_X7_isDoor : GoodIn wsX7_gone (wsV RX7 69 RX7 yX7_isDoor wsX7_isDoor) := goodIn_app (goodIn_of _ (by decide +kernel)) ggX7_gone_X7_isDoor
set_option maxRecDepth 20000 in
theorem ggX7_gone_X7_within : GoodIn wsX7_gone wsX7_within := goodIn_r _ [10] (by decide +kernel) (by decide +kernel)
set_option maxRecDepth 20000 in
theorem gX7_gone_X7_within : GoodIn wsX7_gone (va_wsS RX7 59 yX7_within wsX7_within) := goodIn_app (goodIn_of _ (by decide +kernel)) ggX7_gone_X7_within
set_option maxRecDepth 20000 in
theorem ggX7_gone_X7_barsOf : GoodIn wsX7_gone wsX7_barsOf := goodIn_r _ [14, 15, 21, 22, 23, 24, 25, 26, 27, 28, 29, 30, 31, 32, 33, 34, 35, 36, 37, 38, 39, 40, 41, 42, 43, 44] (by decide +kernel) (by decide +kernel)
set_option maxRecDepth 20000 in
theorem gX7_gone_X7_barsOf : GoodIn wsX7_gone (wsV RX7 174 RX7 yX7_barsOf wsX7_barsOf) := goodIn_app (goodIn_of _ (by decide +kernel)) ggX7_gone_X7_barsOf
set_option maxRecDepth 20000 in
theorem ggX7_gone_X7_known : GoodIn wsX7_gone wsX7_known := goodIn_r _ [19, 1, 20, 21, 22, 23, 24, 25, 26, 27, 28, 29, 30, 31, 32, 33, 34, 35, 36, 37, 38, 39, 40, 41, 42, 43, 44] (by decide +kernel) (by decide +kernel)
set_option maxRecDepth 20000 in
theorem gX7_gone_X7_known : GoodIn wsX7_gone (wsV RX7 181 RX7 yX7_known wsX7_known) := goodIn_app (goodIn_of _ (by decide +kernel)) ggX7_gone_X7_known
set_option maxRecDepth 20000 in
theorem ggX7_evenings_X7_isDoor : GoodIn wsX7_evenings wsX7_isDoor := goodIn_r _ [7, 8, 21, 22, 23, 24, 25, 26, 27, 28, 29, 30, 31, 32, 33, 34, 35, 36, 37, 38, 39, 40, 41, 42, 43, 44] (by decide +kernel) (by decide +kernel)
set_option maxRecDepth 20000 in
theorem gX7_evenings_X7_isDoor : GoodIn wsX7_evenings (wsV RX7 69 RX7 yX7_isDoor wsX7_isDoor) := goodIn_app (goodIn_of _ (by decide +kernel)) ggX7_evenings_X7_isDoor
set_option maxRecDepth 20000 in
theorem ggX7_evenings_X7_known : GoodIn wsX7_evenings wsX7_known := goodIn_r _ [12, 1, 2, 21, 22, 23, 24, 25, 26, 27, 28, 29, 30, 31, 32, 33, 34, 35, 36, 37, 38, 39, 40, 41, 42, 43, 44] (by decide +kernel) (by decide +kernel)
set_option maxRecDepth 20000 in
theorem gX7_evenings_X7_known : GoodIn wsX7_evenings (wsV RX7 181 RX7 yX7_known wsX7_known) := goodIn_app (goodIn_of _ (by decide +kernel)) ggX7_evenings_X7_known
set_option maxRecDepth 20000 in
theorem ggX7_evenings_X7_barsOf : GoodIn wsX7_evenings wsX7_barsOf := goodIn_r _ [16, 17, 21, 22, 23, 24, 25, 26, 27, 28, 29, 30, 31, 32, 33, 34, 35, 36, 37, 38, 39, 40, 41, 42, 43, 44] (by decide +kernel) (by decide +kernel)
set_option maxRecDepth 20000 in
theorem gX7_evenings_X7_barsOf : GoodIn wsX7_evenings (wsV RX7 174 RX7 yX7_barsOf wsX7_barsOf) := goodIn_app (goodIn_of _ (by decide +kernel)) ggX7_evenings_X7_barsOf
set_option maxRecDepth 20000 in
theorem ggX7_evenings_X7_size : GoodIn wsX7_evenings wsX7_size := goodIn_r _ [20] (by decide +kernel) (by decide +kernel)
set_option maxRecDepth 20000 in
theorem gX7_evenings_X7_size : GoodIn wsX7_evenings (va_wsS RX7 127 yX7_size wsX7_size) := goodIn_app (goodIn_of _ (by decide +kernel)) ggX7_evenings_X7_size
set_option maxRecDepth 20000 in
theorem ggX7_isSeen_X7_spot : GoodIn wsX7_isSeen wsX7_spot := goodIn_r _ [6] (by decide +kernel) (by decide +kernel)
set_option maxRecDepth 20000 in
theorem gX7_isSeen_X7_spot : GoodIn wsX7_isSeen (va_wsS RX7 99 yX7_spot wsX7_spot) := goodIn_app (goodIn_of _ (by decide +kernel)) ggX7_isSeen_X7_spot
set_option maxRecDepth 20000 in
theorem ggX7_seen_X7_isSheet : GoodIn wsX7_seen wsX7_isSheet := goodIn_r _ [8, 9, 10, 7, 11] (by decide +kernel) (by decide +kernel)
set_option maxRecDepth 20000 in
theorem gX7_seen_X7_isSheet : GoodIn wsX7_seen (va_wsS RX7 76 yX7_isSheet wsX7_isSheet) := goodIn_app (goodIn_of _ (by decide +kernel)) ggX7_seen_X7_isSheet
set_option maxRecDepth 20000 in
theorem ggX7_seen_X7_isSort : GoodIn wsX7_seen wsX7_isSort := goodIn_r _ [14, 9, 10, 7, 11] (by decide +kernel) (by decide +kernel)
set_option maxRecDepth 20000 in
theorem gX7_seen_X7_isSort : GoodIn wsX7_seen (va_wsS RX7 79 yX7_isSort wsX7_isSort) := goodIn_app (goodIn_of _ (by decide +kernel)) ggX7_seen_X7_isSort
set_option maxRecDepth 20000 in
theorem ggX7_seen_X7_within : GoodIn wsX7_seen wsX7_within := goodIn_r _ [11] (by decide +kernel) (by decide +kernel)
set_option maxRecDepth 20000 in
theorem gX7_seen_X7_within : GoodIn wsX7_seen (va_wsS RX7 59 yX7_within wsX7_within) := goodIn_app (goodIn_of _ (by decide +kernel)) ggX7_seen_X7_within
set_option maxRecDepth 20000 in
theorem ggX7_seen_X7_against : GoodIn wsX7_seen wsX7_against := goodIn_r _ [18, 19, 20, 38, 39, 40, 41, 42, 43, 44, 45, 46, 47, 48, 49, 50, 51, 52, 53, 54, 55, 56, 57, 58, 59, 60, 61] (by decide +kernel) (by decide +kernel)
set_option maxRecDepth 20000 in
theorem gX7_seen_X7_against : GoodIn wsX7_seen (wsV RX7 82 RX7 yX7_against wsX7_against) := goodIn_app (goodIn_of _ (by decide +kernel)) ggX7_seen_X7_against
set_option maxRecDepth 20000 in
theorem ggX7_seen_X7_fails : GoodIn wsX7_seen wsX7_fails := goodIn_r _ [24, 1, 38, 39, 40, 41, 42, 43, 44, 45, 46, 47, 48, 49, 50, 51, 52, 53, 54, 55, 56, 57, 58, 59, 60, 61] (by decide +kernel) (by decide +kernel)
set_option maxRecDepth 20000 in
theorem gX7_seen_X7_fails : GoodIn wsX7_seen (wsV RX7 86 RX7 yX7_fails wsX7_fails) := goodIn_app (goodIn_of _ (by decide +kernel)) ggX7_seen_X7_fails
set_option maxRecDepth 20000 in
theorem ggX7_seen_X7_areWithin : GoodIn wsX7_seen wsX7_areWithin := goodIn_r _ [28, 29, 38, 39, 40, 41, 42, 43, 44, 45, 46, 47, 48, 49, 50, 51, 52, 53, 54, 55, 56, 57, 58, 59, 60, 61] (by decide +kernel) (by decide +kernel)
set_option maxRecDepth 20000 in
theorem gX7_seen_X7_areWithin : GoodIn wsX7_seen (wsV RX7 187 RX7 yX7_areWithin wsX7_areWithin) := goodIn_app (goodIn_of _ (by decide +kernel)) ggX7_seen_X7_areWithin
set_option maxRecDepth 20000 in
theorem ggX7_seen_X7_isSeen : GoodIn wsX7_seen wsX7_isSeen := goodIn_r _ [33, 34, 29, 35, 36, 7, 37, 38, 39, 40, 41, 42, 43, 44, 45, 46, 47, 48, 49, 50, 51, 52, 53, 54, 55, 56, 57, 58, 59, 60, 61] (by decide +kernel) (by decide +kernel)
set_option maxRecDepth 20000 in
theorem gX7_seen_X7_isSeen : GoodIn wsX7_seen (wsV RX7 190 RX7 yX7_isSeen wsX7_isSeen) := goodIn_app (goodIn_of _ (by decide +kernel)) ggX7_seen_X7_isSeen
set_option maxRecDepth 20000 in
theorem ggX7_stands_X7_spot : GoodIn wsX7_stands wsX7_spot := goodIn_r _ [7] (by decide +kernel) (by decide +kernel)
set_option maxRecDepth 20000 in
theorem gX7_stands_X7_spot : GoodIn wsX7_stands (va_wsS RX7 99 yX7_spot wsX7_spot) := goodIn_app (goodIn_of _ (by decide +kernel)) ggX7_stands_X7_spot
set_option maxRecDepth 20000 in
theorem ggX7_part_X7_isSheet : GoodIn wsX7_part wsX7_isSheet := goodIn_r _ [7, 8, 9, 6, 10] (by decide +kernel) (by decide +kernel)
set_option maxRecDepth 20000 in
theorem gX7_part_X7_isSheet : GoodIn wsX7_part (va_wsS RX7 76 yX7_isSheet wsX7_isSheet) := goodIn_app (goodIn_of _ (by decide +kernel)) ggX7_part_X7_isSheet
set_option maxRecDepth 20000 in
theorem ggX7_part_X7_isSort : GoodIn wsX7_part wsX7_isSort := goodIn_r _ [13, 8, 9, 6, 10] (by decide +kernel) (by decide +kernel)
set_option maxRecDepth 20000 in
theorem gX7_part_X7_isSort : GoodIn wsX7_part (va_wsS RX7 79 yX7_isSort wsX7_isSort) := goodIn_app (goodIn_of _ (by decide +kernel)) ggX7_part_X7_isSort
set_option maxRecDepth 20000 in
theorem ggX7_part_X7_against : GoodIn wsX7_part wsX7_against := goodIn_r _ [17, 18, 19, 38, 39, 40, 41, 42, 43, 44, 45, 46, 47, 48, 49, 50, 51, 52, 53, 54, 55, 56, 57, 58, 59, 60, 61] (by decide +kernel) (by decide +kernel)
set_option maxRecDepth 20000 in
theorem gX7_part_X7_against : GoodIn wsX7_part (wsV RX7 82 RX7 yX7_against wsX7_against) := goodIn_app (goodIn_of _ (by decide +kernel)) ggX7_part_X7_against
set_option maxRecDepth 20000 in
theorem ggX7_part_X7_fails : GoodIn wsX7_part wsX7_fails := goodIn_r _ [23, 1, 38, 39, 40, 41, 42, 43, 44, 45, 46, 47, 48, 49, 50, 51, 52, 53, 54, 55, 56, 57, 58, 59, 60, 61] (by decide +kernel) (by decide +kernel)
set_option maxRecDepth 20000 in
theorem gX7_part_X7_fails : GoodIn wsX7_part (wsV RX7 86 RX7 yX7_fails wsX7_fails) := goodIn_app (goodIn_of _ (by decide +kernel)) ggX7_part_X7_fails
set_option maxRecDepth 20000 in
theorem ggX7_part_X7_areWithin : GoodIn wsX7_part wsX7_areWithin := goodIn_r _ [27, 28, 38, 39, 40, 41, 42, 43, 44, 45, 46, 47, 48, 49, 50, 51, 52, 53, 54, 55, 56, 57, 58, 59, 60, 61] (by decide +kernel) (by decide +kernel)
set_option maxRecDepth 20000 in
theorem gX7_part_X7_areWithin : GoodIn wsX7_part (wsV RX7 187 RX7 yX7_areWithin wsX7_areWithin) := goodIn_app (goodIn_of _ (by decide +kernel)) ggX7_part_X7_areWithin
set_option maxRecDepth 20000 in
theorem ggX7_part_X7_stands : GoodIn wsX7_part wsX7_stands := goodIn_r _ [32, 33, 34, 28, 35, 36, 6, 37, 38, 39, 40, 41, 42, 43, 44, 45, 46, 47, 48, 49, 50, 51, 52, 53, 54, 55, 56, 57, 58, 59, 60, 61] (by decide +kernel) (by decide +kernel)
set_option maxRecDepth 20000 in
theorem gX7_part_X7_stands : GoodIn wsX7_part (wsV RX7 194 RX7 yX7_stands wsX7_stands) := goodIn_app (goodIn_of _ (by decide +kernel)) ggX7_part_X7_stands
set_option maxRecDepth 20000 in
theorem ggX7_apartOf_X7_isBeat : GoodIn wsX7_apartOf wsX7_isBeat := goodIn_r _ [7, 1, 8, 9, 10, 6, 11, 12, 16, 17, 18, 19, 20, 21, 22, 23, 24, 25, 26, 27, 28, 29, 30, 31, 32, 33, 34, 35, 36, 37, 38, 39] (by decide +kernel) (by decide +kernel)
set_option maxRecDepth 20000 in
theorem gX7_apartOf_X7_isBeat : GoodIn wsX7_apartOf (wsV RX7 123 RX7 yX7_isBeat wsX7_isBeat) := goodIn_app (goodIn_of _ (by decide +kernel)) ggX7_apartOf_X7_isBeat
set_option maxRecDepth 20000 in
theorem ggX7_apartOf_X7_spot : GoodIn wsX7_apartOf wsX7_spot := goodIn_r _ [15] (by decide +kernel) (by decide +kernel)
set_option maxRecDepth 20000 in
theorem gX7_apartOf_X7_spot : GoodIn wsX7_apartOf (va_wsS RX7 99 yX7_spot wsX7_spot) := goodIn_app (goodIn_of _ (by decide +kernel)) ggX7_apartOf_X7_spot
set_option maxRecDepth 20000 in
theorem ggX7_apart_X7_isDoor : GoodIn wsX7_apart wsX7_isDoor := goodIn_r _ [5, 6, 20, 21, 22, 23, 24, 25, 26, 27, 28, 29, 30, 31, 32, 33, 34, 35, 36, 37, 38, 39, 40, 41, 42, 43] (by decide +kernel) (by decide +kernel)
set_option maxRecDepth 20000 in
theorem gX7_apart_X7_isDoor : GoodIn wsX7_apart (wsV RX7 69 RX7 yX7_isDoor wsX7_isDoor) := goodIn_app (goodIn_of _ (by decide +kernel)) ggX7_apart_X7_isDoor
set_option maxRecDepth 20000 in
theorem ggX7_apart_X7_apartOf : GoodIn wsX7_apart wsX7_apartOf := goodIn_r _ [10, 11, 12, 13, 14, 15, 4, 16, 1, 2, 3, 5, 6, 17, 18, 19, 20, 21, 22, 23, 24, 25, 26, 27, 28, 29, 30, 31, 32, 33, 34, 35, 36, 37, 38, 39, 40, 41, 42, 43] (by decide +kernel) (by decide +kernel)
set_option maxRecDepth 20000 in
theorem gX7_apart_X7_apartOf : GoodIn wsX7_apart (wsV RX7 197 RX7 yX7_apartOf wsX7_apartOf) := goodIn_app (goodIn_of _ (by decide +kernel)) ggX7_apart_X7_apartOf
set_option maxRecDepth 20000 in
theorem ggX7_nearest_X7_isDoor : GoodIn wsX7_nearest wsX7_isDoor := goodIn_r _ [6, 1, 20, 21, 22, 23, 24, 25, 26, 27, 28, 29, 30, 31, 32, 33, 34, 35, 36, 37, 38, 39, 40, 41, 42, 43] (by decide +kernel) (by decide +kernel)
set_option maxRecDepth 20000 in
theorem gX7_nearest_X7_isDoor : GoodIn wsX7_nearest (wsV RX7 69 RX7 yX7_isDoor wsX7_isDoor) := goodIn_app (goodIn_of _ (by decide +kernel)) ggX7_nearest_X7_isDoor
set_option maxRecDepth 20000 in
theorem ggX7_nearest_X7_apartOf : GoodIn wsX7_nearest wsX7_apartOf := goodIn_r _ [10, 11, 12, 13, 14, 15, 5, 16, 2, 3, 4, 6, 1, 17, 18, 19, 20, 21, 22, 23, 24, 25, 26, 27, 28, 29, 30, 31, 32, 33, 34, 35, 36, 37, 38, 39, 40, 41, 42, 43] (by decide +kernel) (by decide +kernel)
set_option maxRecDepth 20000 in
theorem gX7_nearest_X7_apartOf : GoodIn wsX7_nearest (wsV RX7 197 RX7 yX7_apartOf wsX7_apartOf) := goodIn_app (goodIn_of _ (by decide +kernel)) ggX7_nearest_X7_apartOf
set_option maxRecDepth 20000 in
theorem ggX7_begins_X7_isBeat : GoodIn wsX7_begins wsX7_isBeat := goodIn_r _ [7, 1, 8, 9, 10, 6, 11, 12, 16, 17, 18, 19, 20, 21, 22, 23, 24, 25, 26, 27, 28, 29, 30, 31, 32, 33, 34, 35, 36, 37, 38, 39] (by decide +kernel) (by decide +kernel)
set_option maxRecDepth 20000 in
theorem gX7_begins_X7_isBeat : GoodIn wsX7_begins (wsV RX7 123 RX7 yX7_isBeat wsX7_isBeat) := goodIn_app (goodIn_of _ (by decide +kernel)) ggX7_begins_X7_isBeat
set_option maxRecDepth 20000 in
theorem ggX7_begins_X7_spot : GoodIn wsX7_begins wsX7_spot := goodIn_r _ [15] (by decide +kernel) (by decide +kernel)
set_option maxRecDepth 20000 in
theorem gX7_begins_X7_spot : GoodIn wsX7_begins (va_wsS RX7 99 yX7_spot wsX7_spot) := goodIn_app (goodIn_of _ (by decide +kernel)) ggX7_begins_X7_spot
set_option maxRecDepth 20000 in
theorem ggX7_safe_X7_begins : GoodIn wsX7_safe wsX7_begins := goodIn_r _ [6, 7, 8, 9, 10, 11, 5, 12, 13, 14, 15, 16, 1, 17, 18, 19, 20, 21, 22, 23, 24, 25, 26, 27, 28, 29, 30, 31, 32, 33, 34, 35, 36, 37, 38, 39, 40, 41, 42, 43] (by decide +kernel) (by decide +kernel)
set_option maxRecDepth 20000 in
theorem gX7_safe_X7_begins : GoodIn wsX7_safe (wsV RX7 200 RX7 yX7_begins wsX7_begins) := goodIn_app (goodIn_of _ (by decide +kernel)) ggX7_safe_X7_begins
set_option maxRecDepth 20000 in
theorem ggX7_sheet_X7_isSheet : GoodIn wsX7_sheet wsX7_isSheet := goodIn_r _ [8, 9, 10, 7, 11] (by decide +kernel) (by decide +kernel)
set_option maxRecDepth 20000 in
theorem gX7_sheet_X7_isSheet : GoodIn wsX7_sheet (va_wsS RX7 76 yX7_isSheet wsX7_isSheet) := goodIn_app (goodIn_of _ (by decide +kernel)) ggX7_sheet_X7_isSheet
set_option maxRecDepth 20000 in
theorem ggX7_sheet_X7_isSort : GoodIn wsX7_sheet wsX7_isSort := goodIn_r _ [14, 9, 10, 7, 11] (by decide +kernel) (by decide +kernel)
set_option maxRecDepth 20000 in
theorem gX7_sheet_X7_isSort : GoodIn wsX7_sheet (va_wsS RX7 79 yX7_isSort wsX7_isSort) := goodIn_app (goodIn_of _ (by decide +kernel)) ggX7_sheet_X7_isSort
set_option maxRecDepth 20000 in
theorem ggX7_sheet_X7_fails : GoodIn wsX7_sheet wsX7_fails := goodIn_r _ [18, 1, 19, 20, 21, 22, 23, 24, 25, 26, 27, 28, 29, 30, 31, 32, 33, 34, 35, 36, 37, 38, 39, 40, 41, 42] (by decide +kernel) (by decide +kernel)
set_option maxRecDepth 20000 in
theorem gX7_sheet_X7_fails : GoodIn wsX7_sheet (wsV RX7 86 RX7 yX7_fails wsX7_fails) := goodIn_app (goodIn_of _ (by decide +kernel)) ggX7_sheet_X7_fails
set_option maxRecDepth 20000 in
theorem ggX7_lose_X7_isSheet : GoodIn wsX7_lose wsX7_isSheet := goodIn_r _ [5, 6, 7, 4, 8] (by decide +kernel) (by decide +kernel)
set_option maxRecDepth 20000 in
theorem gX7_lose_X7_isSheet : GoodIn wsX7_lose (va_wsS RX7 76 yX7_isSheet wsX7_isSheet) := goodIn_app (goodIn_of _ (by decide +kernel)) ggX7_lose_X7_isSheet
set_option maxRecDepth 20000 in
theorem ggX7_put_X7_isSheet : GoodIn wsX7_put wsX7_isSheet := goodIn_r _ [8, 9, 10, 7, 11] (by decide +kernel) (by decide +kernel)
set_option maxRecDepth 20000 in
theorem gX7_put_X7_isSheet : GoodIn wsX7_put (va_wsS RX7 76 yX7_isSheet wsX7_isSheet) := goodIn_app (goodIn_of _ (by decide +kernel)) ggX7_put_X7_isSheet
set_option maxRecDepth 20000 in
theorem ggX7_put_X7_fails : GoodIn wsX7_put wsX7_fails := goodIn_r _ [15, 1, 16, 17, 18, 19, 20, 21, 22, 23, 24, 25, 26, 27, 28, 29, 30, 31, 32, 33, 34, 35, 36, 37, 38, 39] (by decide +kernel) (by decide +kernel)
set_option maxRecDepth 20000 in
theorem gX7_put_X7_fails : GoodIn wsX7_put (wsV RX7 86 RX7 yX7_fails wsX7_fails) := goodIn_app (goodIn_of _ (by decide +kernel)) ggX7_put_X7_fails
set_option maxRecDepth 20000 in
theorem ggX7_put_X7_within : GoodIn wsX7_put wsX7_within := goodIn_r _ [11] (by decide +kernel) (by decide +kernel)
set_option maxRecDepth 20000 in
theorem gX7_put_X7_within : GoodIn wsX7_put (va_wsS RX7 59 yX7_within wsX7_within) := goodIn_app (goodIn_of _ (by decide +kernel)) ggX7_put_X7_within
set_option maxRecDepth 20000 in
theorem ggX7_cell_X7_isSheet : GoodIn wsX7_cell wsX7_isSheet := goodIn_r _ [9, 10, 11, 8, 12] (by decide +kernel) (by decide +kernel)
set_option maxRecDepth 20000 in
theorem gX7_cell_X7_isSheet : GoodIn wsX7_cell (va_wsS RX7 76 yX7_isSheet wsX7_isSheet) := goodIn_app (goodIn_of _ (by decide +kernel)) ggX7_cell_X7_isSheet
set_option maxRecDepth 20000 in
theorem ggX7_cell_X7_isSort : GoodIn wsX7_cell wsX7_isSort := goodIn_r _ [15, 10, 11, 8, 12] (by decide +kernel) (by decide +kernel)
set_option maxRecDepth 20000 in
theorem gX7_cell_X7_isSort : GoodIn wsX7_cell (va_wsS RX7 79 yX7_isSort wsX7_isSort) := goodIn_app (goodIn_of _ (by decide +kernel)) ggX7_cell_X7_isSort
set_option maxRecDepth 20000 in
theorem ggX7_cell_X7_lost : GoodIn wsX7_cell wsX7_lost := goodIn_r _ [19, 1, 2, 20, 21, 22, 23, 24, 25, 26, 27, 28, 29, 30, 31, 32, 33, 34, 35, 36, 37, 38, 39, 40, 41, 42, 43] (by decide +kernel) (by decide +kernel)
set_option maxRecDepth 20000 in
theorem gX7_cell_X7_lost : GoodIn wsX7_cell (wsV RX7 203 RX7 yX7_lost wsX7_lost) := goodIn_app (goodIn_of _ (by decide +kernel)) ggX7_cell_X7_lost
set_option maxRecDepth 20000 in
theorem ggX7_cell_X7_within : GoodIn wsX7_cell wsX7_within := goodIn_r _ [12] (by decide +kernel) (by decide +kernel)
set_option maxRecDepth 20000 in
theorem gX7_cell_X7_within : GoodIn wsX7_cell (va_wsS RX7 59 yX7_within wsX7_within) := goodIn_app (goodIn_of _ (by decide +kernel)) ggX7_cell_X7_within
set_option maxRecDepth 20000 in
theorem ggX7_copy_X7_isSheet : GoodIn wsX7_copy wsX7_isSheet := goodIn_r _ [8, 9, 10, 7, 11] (by decide +kernel) (by decide +kernel)
set_option maxRecDepth 20000 in
theorem gX7_copy_X7_isSheet : GoodIn wsX7_copy (va_wsS RX7 76 yX7_isSheet wsX7_isSheet) := goodIn_app (goodIn_of _ (by decide +kernel)) ggX7_copy_X7_isSheet
set_option maxRecDepth 20000 in
theorem ggX7_copy_X7_fails : GoodIn wsX7_copy wsX7_fails := goodIn_r _ [15, 1, 16, 17, 18, 19, 20, 21, 22, 23, 24, 25, 26, 27, 28, 29, 30, 31, 32, 33, 34, 35, 36, 37, 38, 39] (by decide +kernel) (by decide +kernel)
set_option maxRecDepth 20000 in
theorem gX7_copy_X7_fails : GoodIn wsX7_copy (wsV RX7 86 RX7 yX7_fails wsX7_fails) := goodIn_app (goodIn_of _ (by decide +kernel)) ggX7_copy_X7_fails
set_option maxRecDepth 20000 in
theorem ggX7_tell_X7_isDancer : GoodIn wsX7_tell wsX7_isDancer := goodIn_r _ [7, 8, 14, 15, 16, 17, 18, 19, 20, 21, 22, 23, 24, 25, 26, 27, 28, 29, 30, 31, 32, 33, 34, 35, 36, 37] (by decide +kernel) (by decide +kernel)
set_option maxRecDepth 20000 in
theorem gX7_tell_X7_isDancer : GoodIn wsX7_tell (wsV RX7 130 RX7 yX7_isDancer wsX7_isDancer) := goodIn_app (goodIn_of _ (by decide +kernel)) ggX7_tell_X7_isDancer
set_option maxRecDepth 20000 in
theorem ggX7_tell_X7_tellsBy : GoodIn wsX7_tell wsX7_tellsBy := goodIn_r _ [12, 13, 14, 15, 16, 17, 18, 19, 20, 21, 22, 23, 24, 25, 26, 27, 28, 29, 30, 31, 32, 33, 34, 35, 36, 37] (by decide +kernel) (by decide +kernel)
set_option maxRecDepth 20000 in
theorem gX7_tell_X7_tellsBy : GoodIn wsX7_tell (wsV RX7 210 RX7 yX7_tellsBy wsX7_tellsBy) := goodIn_app (goodIn_of _ (by decide +kernel)) ggX7_tell_X7_tellsBy
set_option maxRecDepth 20000 in
theorem ggX7_lead_X7_isDancer : GoodIn wsX7_lead wsX7_isDancer := goodIn_r _ [6, 7, 13, 14, 15, 16, 17, 18, 19, 20, 21, 22, 23, 24, 25, 26, 27, 28, 29, 30, 31, 32, 33, 34, 35, 36] (by decide +kernel) (by decide +kernel)
set_option maxRecDepth 20000 in
theorem gX7_lead_X7_isDancer : GoodIn wsX7_lead (wsV RX7 130 RX7 yX7_isDancer wsX7_isDancer) := goodIn_app (goodIn_of _ (by decide +kernel)) ggX7_lead_X7_isDancer
set_option maxRecDepth 20000 in
theorem ggX7_lead_X7_tellsBy : GoodIn wsX7_lead wsX7_tellsBy := goodIn_r _ [11, 12, 13, 14, 15, 16, 17, 18, 19, 20, 21, 22, 23, 24, 25, 26, 27, 28, 29, 30, 31, 32, 33, 34, 35, 36] (by decide +kernel) (by decide +kernel)
set_option maxRecDepth 20000 in
theorem gX7_lead_X7_tellsBy : GoodIn wsX7_lead (wsV RX7 210 RX7 yX7_tellsBy wsX7_tellsBy) := goodIn_app (goodIn_of _ (by decide +kernel)) ggX7_lead_X7_tellsBy
set_option maxRecDepth 20000 in
theorem ggX7_as_X7_isDancer : GoodIn wsX7_as wsX7_isDancer := goodIn_r _ [7, 8, 16, 17, 18, 19, 20, 21, 22, 23, 24, 25, 26, 27, 28, 29, 30, 31, 32, 33, 34, 35, 36, 37, 38, 39] (by decide +kernel) (by decide +kernel)
set_option maxRecDepth 20000 in
theorem gX7_as_X7_isDancer : GoodIn wsX7_as (wsV RX7 130 RX7 yX7_isDancer wsX7_isDancer) := goodIn_app (goodIn_of _ (by decide +kernel)) ggX7_as_X7_isDancer
set_option maxRecDepth 20000 in
theorem ggX7_as_X7_within : GoodIn wsX7_as wsX7_within := goodIn_r _ [11] (by decide +kernel) (by decide +kernel)
set_option maxRecDepth 20000 in
theorem gX7_as_X7_within : GoodIn wsX7_as (va_wsS RX7 59 yX7_within wsX7_within) := goodIn_app (goodIn_of _ (by decide +kernel)) ggX7_as_X7_within
set_option maxRecDepth 20000 in
theorem ggX7_as_X7_fails : GoodIn wsX7_as wsX7_fails := goodIn_r _ [15, 1, 16, 17, 18, 19, 20, 21, 22, 23, 24, 25, 26, 27, 28, 29, 30, 31, 32, 33, 34, 35, 36, 37, 38, 39] (by decide +kernel) (by decide +kernel)
set_option maxRecDepth 20000 in
theorem gX7_as_X7_fails : GoodIn wsX7_as (wsV RX7 86 RX7 yX7_fails wsX7_fails) := goodIn_app (goodIn_of _ (by decide +kernel)) ggX7_as_X7_fails
set_option maxRecDepth 20000 in
theorem ggJ7_fill_fda19_J7_rangeCheck_23922 : GoodIn wsJ7_fill_fda19 wsJ7_rangeCheck_23922 := goodIn_r _ [4] (by decide +kernel) (by decide +kernel)
set_option maxRecDepth 20000 in
theorem gJ7_fill_fda19_J7_rangeCheck_23922 : GoodIn wsJ7_fill_fda19 (va_wsS RJ7 13 yJ7_rangeCheck_23922 wsJ7_rangeCheck_23922) := goodIn_app (goodIn_of _ (by decide +kernel)) ggJ7_fill_fda19_J7_rangeCheck_23922
