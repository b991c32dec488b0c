/-! ===== what the law's calls want ===== -/
theorem inlX0 : ∀ w ∈ wsX00, w ∈ wsL_law := fun _ h => List.mem_append_left _ (List.mem_append_left _ (List.mem_append_left _ (List.mem_append_left _ (List.mem_append_right _ h))))
theorem inX0 : ∀ w ∈ wsX00, w ∈ lw_tbl := fun w h => wsL_law_in w (inlX0 w h)
theorem inlX1 : ∀ w ∈ wsX10, w ∈ wsL_law := fun _ h => List.mem_append_left _ (List.mem_append_left _ (List.mem_append_left _ (List.mem_append_right _ h)))
theorem inX1 : ∀ w ∈ wsX10, w ∈ lw_tbl := fun w h => wsL_law_in w (inlX1 w h)
theorem inlX2 : ∀ w ∈ wsX20, w ∈ wsL_law := fun _ h => List.mem_append_left _ (List.mem_append_left _ (List.mem_append_right _ h))
theorem inX2 : ∀ w ∈ wsX20, w ∈ lw_tbl := fun w h => wsL_law_in w (inlX2 w h)
theorem inlX3 : ∀ w ∈ wsX30, w ∈ wsL_law := fun _ h => List.mem_append_left _ (List.mem_append_left _ (List.mem_append_left _ (List.mem_append_left _ (List.mem_append_left _ (List.mem_append_left _ (List.mem_append_right _ h))))))
theorem inX3 : ∀ w ∈ wsX30, w ∈ lw_tbl := fun w h => wsL_law_in w (inlX3 w h)
theorem inlX4 : ∀ w ∈ wsX40, w ∈ wsL_law := fun _ h => List.mem_append_left _ (List.mem_append_left _ (List.mem_append_left _ (List.mem_append_left _ (List.mem_append_left _ (List.mem_append_right _ h)))))
theorem inX4 : ∀ w ∈ wsX40, w ∈ lw_tbl := fun w h => wsL_law_in w (inlX4 w h)
theorem inlX5 : ∀ w ∈ wsX50, w ∈ wsL_law := fun _ h => List.mem_append_left _ (List.mem_append_right _ h)
theorem inX5 : ∀ w ∈ wsX50, w ∈ lw_tbl := fun w h => wsL_law_in w (inlX5 w h)
theorem inlX6 : ∀ w ∈ wsX60, w ∈ wsL_law := fun _ h => List.mem_append_left _ (List.mem_append_left _ (List.mem_append_left _ (List.mem_append_left _ (List.mem_append_left _ (List.mem_append_left _ (List.mem_append_left _ (List.mem_append_left _ (List.mem_append_right _ h))))))))
theorem inX6 : ∀ w ∈ wsX60, w ∈ lw_tbl := fun w h => wsL_law_in w (inlX6 w h)
theorem inlX7 : ∀ w ∈ wsX70, w ∈ wsL_law := fun _ h => List.mem_append_left _ (List.mem_append_left _ (List.mem_append_left _ (List.mem_append_left _ (List.mem_append_left _ (List.mem_append_left _ (List.mem_append_left _ (List.mem_append_right _ h)))))))
theorem inX7 : ∀ w ∈ wsX70, w ∈ lw_tbl := fun w h => wsL_law_in w (inlX7 w h)
theorem inJ6 : ∀ w ∈ wsJ60, w ∈ lw_tbl := by decide +kernel
theorem inJ9 : ∀ w ∈ wsJ90, w ∈ lw_tbl := by decide +kernel
theorem inJ10 : ∀ w ∈ wsJ100, w ∈ lw_tbl := by decide +kernel
theorem inJ7 : ∀ w ∈ wsJ70, w ∈ lw_tbl := by decide +kernel
set_option maxRecDepth 20000 in
theorem ggL_law_X6_init : GoodIn wsL_law wsX6_init := goodIn_r _ [8, 9, 10, 11, 12, 13, 14, 15, 16, 17, 18, 19, 20, 21, 22, 23, 24, 25, 26, 27, 28, 29, 30, 31, 32, 33, 34, 35, 36, 37, 38, 39, 40, 41, 42, 43, 44, 45, 46, 47, 48, 49, 50, 51, 52, 53, 54, 55, 56, 57, 58, 59, 60, 61, 62, 63, 64, 65, 66, 67, 68, 69, 70, 71, 72, 73, 74, 75, 76, 77, 78, 79, 80, 983, 984, 985, 950, 951, 952, 953, 954, 955, 956, 957, 958, 986, 987, 988, 989, 990, 991, 992, 993, 994, 995, 996, 997, 998, 999, 1000, 1001, 1002, 1003, 1004] (by decide +kernel) (by decide +kernel)
set_option maxRecDepth 20000 in
theorem gL_law_X6_init : GoodIn wsL_law (wsX6_init) := ggL_law_X6_init
set_option maxRecDepth 20000 in
theorem ggL_law_X7_init : GoodIn wsL_law wsX7_init := goodIn_r _ [83, 84, 10, 11, 30, 85, 86, 87, 88, 89, 90, 91, 92, 93, 94, 95, 96, 68, 97, 98, 959, 960, 961, 962, 963, 964, 965, 966, 967, 968, 969, 970, 971, 972, 973, 974, 975, 976, 977, 978, 979, 980, 981, 982] (by decide +kernel) (by decide +kernel)
set_option maxRecDepth 20000 in
theorem gL_law_X7_init : GoodIn wsL_law (wsX7_init) := ggL_law_X7_init
set_option maxRecDepth 20000 in
theorem ggL_law_X6_lock : GoodIn wsL_law wsX6_lock := goodIn_r _ [102, 19, 31, 24, 25, 29, 103, 104, 105, 2, 106, 107, 15, 108, 109, 110, 14, 111, 112, 113, 114, 115, 116, 117, 118, 119, 120, 121, 122, 123, 36, 124, 125, 126, 127, 128, 129, 130, 131, 132, 37, 133, 134, 135, 136, 137, 138, 139, 140, 38, 141, 142, 143, 144, 145, 146, 147, 18, 148, 149, 150, 151, 152, 49, 153, 154, 155, 48, 156, 157, 158, 159, 160, 161, 162, 53, 163, 164, 165, 166, 167, 168, 169, 170, 171, 172, 173, 174, 54, 175, 176, 177, 178, 55, 179, 180, 181, 182, 183, 184, 185, 186, 187, 188, 189, 190, 191, 192, 193, 194, 195, 196, 197, 198, 199, 200, 201, 202, 203, 950, 951, 952, 953, 954, 955, 956, 957, 958, 986, 1002, 1003, 1004, 995, 996, 997, 998, 999, 1000, 1001, 983, 984, 985] (by decide +kernel) (by decide +kernel)
set_option maxRecDepth 20000 in
theorem gL_law_X6_lock : GoodIn wsL_law (wsV RL 13 RX6 yX6_lock wsX6_lock) := goodIn_app (goodIn_of _ (by decide +kernel)) ggL_law_X6_lock
set_option maxRecDepth 20000 in
theorem ggL_law_X7_lock : GoodIn wsL_law wsX7_lock := goodIn_r _ [207, 208, 209, 210, 211, 212, 213, 88, 91, 89, 92, 90, 93, 214, 215, 216, 217, 5, 218, 219, 220, 221, 222, 223, 224, 225, 226, 227, 228, 85, 86, 229, 230, 231, 232, 233, 234, 235, 236, 87, 237, 238, 239, 240, 241, 242, 243, 244, 245, 246, 247, 248, 249, 250, 251, 959, 960, 961, 962, 963, 964, 965, 966, 967, 968, 969, 970, 971, 972, 973, 974, 975, 976, 977, 978, 979, 980, 981, 982] (by decide +kernel) (by decide +kernel)
set_option maxRecDepth 20000 in
theorem gL_law_X7_lock : GoodIn wsL_law (wsV RL 17 RX7 yX7_lock wsX7_lock) := goodIn_app (goodIn_of _ (by decide +kernel)) ggL_law_X7_lock
set_option maxRecDepth 20000 in
theorem ggL_law_X6_board : GoodIn wsL_law wsX6_board := goodIn_r _ [255, 24, 256, 189, 190, 48, 191, 157, 950, 951, 952, 953, 954, 955, 956, 957, 958, 997, 998, 999, 1000, 1001] (by decide +kernel) (by decide +kernel)
set_option maxRecDepth 20000 in
theorem gL_law_X6_board : GoodIn wsL_law (wsV RL 18 RX6 yX6_board wsX6_board) := goodIn_app (goodIn_of _ (by decide +kernel)) ggL_law_X6_board
set_option maxRecDepth 20000 in
theorem ggL_law_X7_board : GoodIn wsL_law wsX7_board := goodIn_r _ [260, 88, 261, 262, 263, 5, 264, 211, 959, 960, 961, 962, 963, 964, 965, 966, 967, 968, 969, 970, 971, 972, 973, 974, 975, 976, 977, 978, 979, 980, 981, 982] (by decide +kernel) (by decide +kernel)
set_option maxRecDepth 20000 in
theorem gL_law_X7_board : GoodIn wsL_law (wsV RL 22 RX7 yX7_board wsX7_board) := goodIn_app (goodIn_of _ (by decide +kernel)) ggL_law_X7_board
set_option maxRecDepth 20000 in
theorem ggL_law_X6_beat : GoodIn wsL_law wsX6_beat := goodIn_r _ [268, 24, 269, 180, 181, 48, 182, 158, 270, 271, 272, 273, 54, 179, 274, 275, 276, 277, 278, 279, 280, 281, 55, 282, 950, 951, 952, 953, 954, 955, 956, 957, 958, 997, 998, 999, 1000, 1001] (by decide +kernel) (by decide +kernel)
set_option maxRecDepth 20000 in
theorem gL_law_X6_beat : GoodIn wsL_law (wsV RL 23 RX6 yX6_beat wsX6_beat) := goodIn_app (goodIn_of _ (by decide +kernel)) ggL_law_X6_beat
set_option maxRecDepth 20000 in
theorem ggL_law_X7_beat : GoodIn wsL_law wsX7_beat := goodIn_r _ [286, 89, 90, 287, 288, 289, 5, 290, 213, 291, 292, 293, 294, 245, 246, 247, 959, 960, 961, 962, 963, 964, 965, 966, 967, 968, 969, 970, 971, 972, 973, 974, 975, 976, 977, 978, 979, 980, 981, 982] (by decide +kernel) (by decide +kernel)
set_option maxRecDepth 20000 in
theorem gL_law_X7_beat : GoodIn wsL_law (wsV RL 27 RX7 yX7_beat wsX7_beat) := goodIn_app (goodIn_of _ (by decide +kernel)) ggL_law_X7_beat
set_option maxRecDepth 20000 in
theorem ggL_law_X6_change : GoodIn wsL_law wsX6_change := goodIn_r _ [298, 24, 274, 275, 276, 48, 277, 54, 179, 180, 181, 182, 158, 299, 300, 301, 302, 157, 303, 193, 194, 195, 196, 197, 198, 304, 305, 306, 307, 55, 308, 279, 280, 281, 282, 950, 951, 952, 953, 954, 955, 956, 957, 958, 997, 998, 999, 1000, 1001] (by decide +kernel) (by decide +kernel)
set_option maxRecDepth 20000 in
theorem gL_law_X6_change : GoodIn wsL_law (wsV RL 28 RX6 yX6_change wsX6_change) := goodIn_app (goodIn_of _ (by decide +kernel)) ggL_law_X6_change
set_option maxRecDepth 20000 in
theorem ggL_law_X7_change : GoodIn wsL_law wsX7_change := goodIn_r _ [312, 211, 90, 291, 292, 293, 5, 294, 89, 287, 288, 289, 290, 213, 219, 220, 221, 313, 314, 315, 245, 246, 247, 959, 960, 961, 962, 963, 964, 965, 966, 967, 968, 969, 970, 971, 972, 973, 974, 975, 976, 977, 978, 979, 980, 981, 982] (by decide +kernel) (by decide +kernel)
set_option maxRecDepth 20000 in
theorem gL_law_X7_change : GoodIn wsL_law (wsV RL 32 RX7 yX7_change wsX7_change) := goodIn_app (goodIn_of _ (by decide +kernel)) ggL_law_X7_change
set_option maxRecDepth 20000 in
theorem ggL_law_X6_dancer : GoodIn wsL_law wsX6_dancer := goodIn_r _ [319, 24, 25, 320, 321, 322, 48, 323, 158, 324, 325, 326, 63, 327, 328, 329, 330, 331, 332, 75, 76, 333, 950, 951, 952, 953, 954, 955, 956, 957, 958, 997, 998, 999, 1000, 1001, 1002, 1003, 1004] (by decide +kernel) (by decide +kernel)
set_option maxRecDepth 20000 in
theorem gL_law_X6_dancer : GoodIn wsL_law (wsV RL 33 RX6 yX6_dancer wsX6_dancer) := goodIn_app (goodIn_of _ (by decide +kernel)) ggL_law_X6_dancer
set_option maxRecDepth 20000 in
theorem ggL_law_X7_dancer : GoodIn wsL_law wsX7_dancer := goodIn_r _ [337, 213, 214, 94, 95, 219, 220, 5, 221, 959, 960, 961, 962, 963, 964, 965, 966, 967, 968, 969, 970, 971, 972, 973, 974, 975, 976, 977, 978, 979, 980, 981, 982] (by decide +kernel) (by decide +kernel)
set_option maxRecDepth 20000 in
theorem gL_law_X7_dancer : GoodIn wsL_law (wsV RL 36 RX7 yX7_dancer wsX7_dancer) := goodIn_app (goodIn_of _ (by decide +kernel)) ggL_law_X7_dancer
set_option maxRecDepth 20000 in
theorem ggL_law_X6_ofDancer : GoodIn wsL_law wsX6_ofDancer := goodIn_r _ [341, 25, 342, 343, 344, 63, 345, 328, 346, 347, 348, 349, 75, 350, 351, 352, 353, 354, 76, 355, 356, 357, 950, 951, 952, 953, 954, 955, 956, 957, 958, 1002, 1003, 1004] (by decide +kernel) (by decide +kernel)
set_option maxRecDepth 20000 in
theorem gL_law_X6_ofDancer : GoodIn wsL_law (wsV RL 37 RX6 yX6_ofDancer wsX6_ofDancer) := goodIn_app (goodIn_of _ (by decide +kernel)) ggL_law_X6_ofDancer
set_option maxRecDepth 20000 in
theorem ggL_law_X7_ofDancer : GoodIn wsL_law wsX7_ofDancer := goodIn_r _ [361, 94, 95, 362, 363, 364, 5, 365, 214, 366, 367, 368, 369, 959, 960, 961, 962, 963, 964, 965, 966, 967, 968, 969, 970, 971, 972, 973, 974, 975, 976, 977, 978, 979, 980, 981, 982] (by decide +kernel) (by decide +kernel)
set_option maxRecDepth 20000 in
theorem gL_law_X7_ofDancer : GoodIn wsL_law (wsV RL 40 RX7 yX7_ofDancer wsX7_ofDancer) := goodIn_app (goodIn_of _ (by decide +kernel)) ggL_law_X7_ofDancer
set_option maxRecDepth 20000 in
theorem ggL_law_X6_leave : GoodIn wsL_law wsX6_leave := goodIn_r _ [373, 25, 950, 951, 952, 953, 954, 955, 956, 957, 958, 1002, 1003, 1004] (by decide +kernel) (by decide +kernel)
set_option maxRecDepth 20000 in
theorem gL_law_X6_leave : GoodIn wsL_law (wsV RL 41 RX6 yX6_leave wsX6_leave) := goodIn_app (goodIn_of _ (by decide +kernel)) ggL_law_X6_leave
set_option maxRecDepth 20000 in
theorem ggL_law_X7_leave : GoodIn wsL_law wsX7_leave := goodIn_r _ [377, 214, 219, 220, 5, 221, 959, 960, 961, 962, 963, 964, 965, 966, 967, 968, 969, 970, 971, 972, 973, 974, 975, 976, 977, 978, 979, 980, 981, 982] (by decide +kernel) (by decide +kernel)
set_option maxRecDepth 20000 in
theorem gL_law_X7_leave : GoodIn wsL_law (wsV RL 44 RX7 yX7_leave wsX7_leave) := goodIn_app (goodIn_of _ (by decide +kernel)) ggL_law_X7_leave
set_option maxRecDepth 20000 in
theorem ggL_law_X6_opens : GoodIn wsL_law wsX6_opens := goodIn_r _ [381, 23, 382, 383, 384, 2, 385, 25, 24, 31, 103, 104, 105, 106, 107, 15, 108, 109, 110, 14, 111, 112, 113, 114, 115, 116, 117, 118, 119, 120, 121, 122, 123, 36, 124, 125, 126, 127, 128, 129, 130, 131, 132, 37, 133, 134, 135, 136, 137, 138, 139, 140, 38, 141, 142, 143, 144, 320, 321, 322, 48, 323, 158, 386, 387, 388, 22, 389, 64, 60, 390, 189, 190, 191, 157, 391, 392, 393, 394, 65, 395, 396, 397, 398, 399, 271, 272, 273, 54, 179, 180, 181, 182, 400, 401, 402, 403, 404, 405, 406, 407, 408, 409, 410, 411, 412, 413, 150, 151, 152, 67, 69, 414, 347, 348, 63, 349, 75, 350, 343, 344, 345, 328, 415, 352, 353, 354, 76, 416, 356, 357, 417, 418, 419, 420, 66, 421, 40, 41, 42, 422, 423, 424, 425, 426, 427, 428, 429, 430, 431, 432, 433, 434, 435, 436, 437, 438, 279, 280, 281, 55, 282, 275, 276, 277, 950, 951, 952, 953, 954, 955, 956, 957, 958, 1002, 1003, 1004, 983, 984, 985, 997, 998, 999, 1000, 1001, 987, 988, 989, 990, 991, 992, 993, 994] (by decide +kernel) (by decide +kernel)
set_option maxRecDepth 20000 in
theorem gL_law_X6_opens : GoodIn wsL_law (wsV RL 45 RX6 yX6_opens wsX6_opens) := goodIn_app (goodIn_of _ (by decide +kernel)) ggL_law_X6_opens
set_option maxRecDepth 20000 in
theorem ggL_law_X7_opens : GoodIn wsL_law wsX7_opens := goodIn_r _ [442, 208, 216, 217, 5, 218, 219, 220, 221, 222, 223, 224, 443, 444, 445, 446, 214, 213, 87, 96, 225, 226, 227, 228, 85, 86, 229, 230, 231, 232, 261, 262, 263, 264, 211, 447, 448, 449, 450, 89, 451, 452, 453, 454, 90, 455, 456, 457, 458, 459, 95, 88, 460, 461, 462, 463, 94, 366, 367, 368, 369, 245, 246, 247, 959, 960, 961, 962, 963, 964, 965, 966, 967, 968, 969, 970, 971, 972, 973, 974, 975, 976, 977, 978, 979, 980, 981, 982] (by decide +kernel) (by decide +kernel)
set_option maxRecDepth 20000 in
theorem gL_law_X7_opens : GoodIn wsL_law (wsV RL 48 RX7 yX7_opens wsX7_opens) := goodIn_app (goodIn_of _ (by decide +kernel)) ggL_law_X7_opens
set_option maxRecDepth 20000 in
theorem ggL_law_X6_felt : GoodIn wsL_law wsX6_felt := goodIn_r _ [467, 23, 382, 383, 384, 2, 385, 25, 24, 31, 103, 104, 105, 106, 107, 15, 108, 109, 110, 14, 111, 112, 113, 114, 115, 116, 117, 118, 119, 120, 121, 122, 123, 36, 124, 125, 126, 127, 128, 129, 130, 131, 132, 37, 133, 134, 135, 136, 137, 138, 139, 140, 38, 141, 142, 143, 144, 320, 321, 322, 48, 323, 158, 386, 387, 388, 22, 389, 64, 60, 390, 189, 190, 191, 157, 391, 392, 393, 394, 65, 468, 405, 406, 407, 408, 409, 410, 411, 412, 413, 150, 151, 152, 67, 69, 414, 347, 348, 63, 349, 75, 350, 343, 344, 345, 328, 415, 352, 353, 354, 76, 416, 356, 357, 417, 418, 419, 420, 66, 421, 40, 41, 42, 422, 423, 424, 425, 426, 427, 428, 429, 430, 431, 432, 433, 434, 435, 436, 437, 950, 951, 952, 953, 954, 955, 956, 957, 958, 1002, 1003, 1004, 983, 984, 985, 997, 998, 999, 1000, 1001, 987, 988, 989, 990, 991, 992, 993, 994] (by decide +kernel) (by decide +kernel)
set_option maxRecDepth 20000 in
theorem gL_law_X6_felt : GoodIn wsL_law (wsV RL 49 RX6 yX6_felt wsX6_felt) := goodIn_app (goodIn_of _ (by decide +kernel)) ggL_law_X6_felt
set_option maxRecDepth 20000 in
theorem ggL_law_X7_felt : GoodIn wsL_law wsX7_felt := goodIn_r _ [472, 208, 216, 217, 5, 218, 219, 220, 221, 222, 223, 224, 443, 444, 445, 446, 214, 213, 87, 96, 225, 226, 227, 228, 85, 86, 229, 230, 231, 232, 261, 262, 263, 264, 211, 455, 456, 457, 458, 459, 95, 88, 460, 461, 462, 463, 94, 366, 367, 368, 369, 959, 960, 961, 962, 963, 964, 965, 966, 967, 968, 969, 970, 971, 972, 973, 974, 975, 976, 977, 978, 979, 980, 981, 982] (by decide +kernel) (by decide +kernel)
set_option maxRecDepth 20000 in
theorem gL_law_X7_felt : GoodIn wsL_law (wsV RL 53 RX7 yX7_felt wsX7_felt) := goodIn_app (goodIn_of _ (by decide +kernel)) ggL_law_X7_felt
set_option maxRecDepth 20000 in
theorem ggL_law_X6_wrong : GoodIn wsL_law wsX6_wrong := goodIn_r _ [476, 107, 24, 23, 269, 180, 181, 48, 182, 158, 270, 271, 272, 273, 54, 179, 382, 383, 384, 2, 385, 25, 31, 103, 104, 105, 106, 15, 108, 109, 110, 14, 111, 112, 113, 114, 115, 116, 117, 118, 119, 120, 121, 122, 123, 36, 124, 125, 126, 127, 128, 129, 130, 131, 132, 37, 133, 134, 135, 136, 137, 138, 139, 140, 38, 141, 142, 143, 144, 320, 321, 322, 323, 386, 387, 388, 22, 389, 64, 60, 390, 189, 190, 191, 157, 391, 392, 393, 394, 65, 477, 401, 402, 403, 399, 404, 405, 406, 407, 408, 409, 410, 411, 412, 413, 150, 151, 152, 67, 69, 414, 347, 348, 63, 349, 75, 350, 343, 344, 345, 328, 415, 352, 353, 354, 76, 416, 356, 357, 417, 418, 419, 420, 66, 421, 40, 41, 42, 422, 423, 424, 425, 426, 427, 428, 429, 430, 431, 432, 433, 434, 435, 436, 437, 438, 279, 280, 281, 55, 282, 275, 276, 277, 950, 951, 952, 953, 954, 955, 956, 957, 958, 997, 998, 999, 1000, 1001, 1002, 1003, 1004, 983, 984, 985, 987, 988, 989, 990, 991, 992, 993, 994] (by decide +kernel) (by decide +kernel)
set_option maxRecDepth 20000 in
theorem gL_law_X6_wrong : GoodIn wsL_law (wsV RL 54 RX6 yX6_wrong wsX6_wrong) := goodIn_app (goodIn_of _ (by decide +kernel)) ggL_law_X6_wrong
set_option maxRecDepth 20000 in
theorem ggL_law_X7_wrong : GoodIn wsL_law wsX7_wrong := goodIn_r _ [481, 208, 89, 287, 288, 289, 5, 290, 213, 216, 217, 218, 219, 220, 221, 222, 223, 224, 443, 444, 445, 446, 214, 87, 96, 225, 226, 227, 228, 85, 86, 229, 230, 231, 232, 261, 262, 263, 264, 211, 451, 452, 453, 454, 90, 455, 456, 457, 458, 459, 95, 88, 460, 461, 462, 463, 94, 366, 367, 368, 369, 245, 246, 247, 959, 960, 961, 962, 963, 964, 965, 966, 967, 968, 969, 970, 971, 972, 973, 974, 975, 976, 977, 978, 979, 980, 981, 982] (by decide +kernel) (by decide +kernel)
set_option maxRecDepth 20000 in
theorem gL_law_X7_wrong : GoodIn wsL_law (wsV RL 57 RX7 yX7_wrong wsX7_wrong) := goodIn_app (goodIn_of _ (by decide +kernel)) ggL_law_X7_wrong
set_option maxRecDepth 20000 in
theorem ggL_law_X6_can : GoodIn wsL_law wsX6_can := goodIn_r _ [485, 24, 23, 269, 180, 181, 48, 182, 158, 486, 487, 488, 22, 489, 60, 71, 409, 410, 411, 412, 64, 413, 150, 151, 152, 408, 67, 69, 414, 347, 348, 63, 349, 75, 350, 343, 344, 345, 328, 415, 352, 353, 354, 76, 416, 356, 357, 399, 271, 272, 273, 54, 179, 490, 491, 41, 492, 493, 494, 495, 496, 438, 279, 280, 281, 55, 282, 275, 276, 277, 497, 498, 499, 500, 417, 418, 419, 420, 66, 421, 40, 42, 422, 423, 424, 425, 426, 427, 428, 429, 65, 390, 189, 190, 191, 157, 430, 431, 432, 433, 434, 435, 436, 437, 501, 502, 503, 504, 505, 506, 507, 508, 391, 392, 393, 394, 509, 510, 511, 512, 513, 950, 951, 952, 953, 954, 955, 956, 957, 958, 997, 998, 999, 1000, 1001, 987, 988, 989, 990, 991, 992, 993, 994, 1002, 1003, 1004] (by decide +kernel) (by decide +kernel)
set_option maxRecDepth 20000 in
theorem gL_law_X6_can : GoodIn wsL_law (wsV RL 58 RX6 yX6_can wsX6_can) := goodIn_app (goodIn_of _ (by decide +kernel)) ggL_law_X6_can
set_option maxRecDepth 20000 in
theorem ggL_law_X7_can : GoodIn wsL_law wsX7_can := goodIn_r _ [517, 287, 288, 289, 5, 290, 213, 518, 519, 520, 521, 89, 522, 523, 524, 525, 97, 526, 527, 528, 529, 90, 530, 531, 532, 533, 214, 211, 460, 461, 462, 463, 459, 94, 534, 535, 536, 537, 96, 455, 456, 457, 458, 95, 88, 366, 367, 368, 369, 245, 246, 247, 538, 539, 540, 541, 959, 960, 961, 962, 963, 964, 965, 966, 967, 968, 969, 970, 971, 972, 973, 974, 975, 976, 977, 978, 979, 980, 981, 982] (by decide +kernel) (by decide +kernel)
set_option maxRecDepth 20000 in
theorem gL_law_X7_can : GoodIn wsL_law (wsV RL 61 RX7 yX7_can wsX7_can) := goodIn_app (goodIn_of _ (by decide +kernel)) ggL_law_X7_can
set_option maxRecDepth 20000 in
theorem ggL_law_X6_plan : GoodIn wsL_law wsX6_plan := goodIn_r _ [545, 24, 25, 23, 274, 275, 276, 48, 277, 54, 179, 180, 181, 182, 158, 342, 343, 344, 63, 345, 328, 486, 487, 488, 22, 489, 60, 71, 409, 410, 411, 412, 64, 413, 150, 151, 152, 408, 67, 69, 414, 347, 348, 349, 75, 350, 415, 352, 353, 354, 76, 416, 356, 357, 399, 271, 272, 273, 490, 491, 41, 492, 493, 494, 495, 496, 438, 279, 280, 281, 55, 282, 497, 498, 499, 500, 417, 418, 419, 420, 66, 421, 40, 42, 422, 423, 424, 425, 426, 427, 428, 429, 65, 390, 189, 190, 191, 157, 430, 431, 432, 433, 434, 435, 436, 437, 501, 502, 503, 504, 505, 506, 507, 508, 391, 392, 393, 394, 509, 510, 511, 512, 513, 546, 950, 951, 952, 953, 954, 955, 956, 957, 958, 997, 998, 999, 1000, 1001, 1002, 1003, 1004, 987, 988, 989, 990, 991, 992, 993, 994] (by decide +kernel) (by decide +kernel)
set_option maxRecDepth 20000 in
theorem gL_law_X6_plan : GoodIn wsL_law (wsV RL 62 RX6 yX6_plan wsX6_plan) := goodIn_app (goodIn_of _ (by decide +kernel)) ggL_law_X6_plan
set_option maxRecDepth 20000 in
theorem ggL_law_X7_plan : GoodIn wsL_law wsX7_plan := goodIn_r _ [550, 96, 291, 292, 293, 5, 294, 89, 287, 288, 289, 290, 213, 362, 363, 364, 365, 214, 518, 519, 520, 521, 522, 523, 524, 525, 97, 526, 527, 528, 529, 90, 530, 531, 532, 533, 211, 460, 461, 462, 463, 459, 94, 534, 535, 536, 537, 455, 456, 457, 458, 95, 88, 366, 367, 368, 369, 245, 246, 247, 538, 539, 540, 541, 959, 960, 961, 962, 963, 964, 965, 966, 967, 968, 969, 970, 971, 972, 973, 974, 975, 976, 977, 978, 979, 980, 981, 982] (by decide +kernel) (by decide +kernel)
set_option maxRecDepth 20000 in
theorem gL_law_X7_plan : GoodIn wsL_law (wsV RL 65 RX7 yX7_plan wsX7_plan) := goodIn_app (goodIn_of _ (by decide +kernel)) ggL_law_X7_plan
set_option maxRecDepth 20000 in
theorem ggL_law_X6_limped : GoodIn wsL_law wsX6_limped := goodIn_r _ [554, 24, 23, 269, 180, 181, 48, 182, 158, 486, 487, 488, 22, 489, 60, 71, 409, 410, 411, 412, 64, 413, 150, 151, 152, 408, 67, 69, 414, 347, 348, 63, 349, 75, 350, 343, 344, 345, 328, 415, 352, 353, 354, 76, 416, 356, 357, 399, 271, 272, 273, 54, 179, 490, 491, 41, 492, 493, 494, 495, 496, 438, 279, 280, 281, 55, 282, 275, 276, 277, 497, 498, 499, 500, 417, 418, 419, 420, 66, 421, 40, 42, 422, 423, 424, 425, 426, 427, 428, 429, 65, 390, 189, 190, 191, 157, 430, 431, 432, 433, 434, 435, 436, 437, 501, 502, 503, 504, 505, 506, 507, 508, 391, 392, 393, 394, 509, 510, 511, 512, 513, 270, 395, 396, 397, 398, 400, 401, 402, 403, 404, 405, 406, 407, 950, 951, 952, 953, 954, 955, 956, 957, 958, 997, 998, 999, 1000, 1001, 987, 988, 989, 990, 991, 992, 993, 994, 1002, 1003, 1004] (by decide +kernel) (by decide +kernel)
set_option maxRecDepth 20000 in
theorem gL_law_X6_limped : GoodIn wsL_law (wsV RL 66 RX6 yX6_limped wsX6_limped) := goodIn_app (goodIn_of _ (by decide +kernel)) ggL_law_X6_limped
set_option maxRecDepth 20000 in
theorem ggL_law_X7_limped : GoodIn wsL_law wsX7_limped := goodIn_r _ [558, 459, 89, 287, 288, 289, 5, 290, 213, 518, 519, 520, 521, 522, 523, 524, 525, 97, 526, 527, 528, 529, 90, 530, 531, 532, 533, 214, 211, 460, 461, 462, 463, 94, 534, 535, 536, 537, 96, 455, 456, 457, 458, 95, 88, 366, 367, 368, 369, 245, 246, 247, 538, 539, 540, 541, 447, 448, 449, 450, 451, 452, 453, 454, 959, 960, 961, 962, 963, 964, 965, 966, 967, 968, 969, 970, 971, 972, 973, 974, 975, 976, 977, 978, 979, 980, 981, 982] (by decide +kernel) (by decide +kernel)
set_option maxRecDepth 20000 in
theorem gL_law_X7_limped : GoodIn wsL_law (wsV RL 69 RX7 yX7_limped wsX7_limped) := goodIn_app (goodIn_of _ (by decide +kernel)) ggL_law_X7_limped
set_option maxRecDepth 20000 in
theorem ggL_law_X6_family : GoodIn wsL_law wsX6_family := goodIn_r _ [562, 24, 29, 563, 564, 565, 48, 566, 158, 567, 568, 569, 570, 571, 271, 272, 273, 54, 179, 180, 181, 182, 320, 321, 322, 323, 572, 573, 574, 28, 575, 576, 577, 578, 579, 580, 80, 581, 950, 951, 952, 953, 954, 955, 956, 957, 958, 997, 998, 999, 1000, 1001, 995, 996] (by decide +kernel) (by decide +kernel)
set_option maxRecDepth 20000 in
theorem gL_law_X6_family : GoodIn wsL_law (wsV RL 70 RX6 yX6_family wsX6_family) := goodIn_app (goodIn_of _ (by decide +kernel)) ggL_law_X6_family
set_option maxRecDepth 20000 in
theorem ggL_law_X7_family : GoodIn wsL_law wsX7_family := goodIn_r _ [585, 213, 215, 98, 586, 587, 588, 5, 589, 590, 591, 592, 593, 89, 959, 960, 961, 962, 963, 964, 965, 966, 967, 968, 969, 970, 971, 972, 973, 974, 975, 976, 977, 978, 979, 980, 981, 982] (by decide +kernel) (by decide +kernel)
set_option maxRecDepth 20000 in
theorem gL_law_X7_family : GoodIn wsL_law (wsV RL 73 RX7 yX7_family wsX7_family) := goodIn_app (goodIn_of _ (by decide +kernel)) ggL_law_X7_family
set_option maxRecDepth 20000 in
theorem ggL_law_X6_knows : GoodIn wsL_law wsX6_knows := goodIn_r _ [597, 29, 598, 599, 600, 28, 601, 576, 602, 603, 604, 605, 80, 606, 950, 951, 952, 953, 954, 955, 956, 957, 958, 995, 996] (by decide +kernel) (by decide +kernel)
set_option maxRecDepth 20000 in
theorem gL_law_X6_knows : GoodIn wsL_law (wsV RL 74 RX6 yX6_knows wsX6_knows) := goodIn_app (goodIn_of _ (by decide +kernel)) ggL_law_X6_knows
set_option maxRecDepth 20000 in
theorem ggL_law_X7_knows : GoodIn wsL_law wsX7_knows := goodIn_r _ [610, 215, 98, 959, 960, 961, 962, 963, 964, 965, 966, 967, 968, 969, 970, 971, 972, 973, 974, 975, 976, 977, 978, 979, 980, 981, 982] (by decide +kernel) (by decide +kernel)
set_option maxRecDepth 20000 in
theorem gL_law_X7_knows : GoodIn wsL_law (wsV RL 77 RX7 yX7_knows wsX7_knows) := goodIn_app (goodIn_of _ (by decide +kernel)) ggL_law_X7_knows
set_option maxRecDepth 20000 in
theorem ggL_law_X6_fewest : GoodIn wsL_law wsX6_fewest := goodIn_r _ [614, 24, 29, 269, 180, 181, 48, 182, 158, 615, 568, 569, 570, 571, 271, 272, 273, 54, 179, 616, 617, 618, 28, 619, 620, 621, 622, 623, 576, 624, 625, 626, 627, 628, 603, 604, 605, 80, 606, 599, 600, 601, 629, 193, 194, 195, 196, 197, 198, 950, 951, 952, 953, 954, 955, 956, 957, 958, 997, 998, 999, 1000, 1001, 995, 996] (by decide +kernel) (by decide +kernel)
set_option maxRecDepth 20000 in
theorem gL_law_X6_fewest : GoodIn wsL_law (wsV RL 78 RX6 yX6_fewest wsX6_fewest) := goodIn_app (goodIn_of _ (by decide +kernel)) ggL_law_X6_fewest
set_option maxRecDepth 20000 in
theorem ggL_law_X7_fewest : GoodIn wsL_law wsX7_fewest := goodIn_r _ [633, 215, 287, 288, 289, 5, 290, 213, 313, 314, 315, 634, 635, 636, 637, 638, 639, 640, 641, 98, 590, 591, 592, 593, 89, 959, 960, 961, 962, 963, 964, 965, 966, 967, 968, 969, 970, 971, 972, 973, 974, 975, 976, 977, 978, 979, 980, 981, 982] (by decide +kernel) (by decide +kernel)
set_option maxRecDepth 20000 in
theorem gL_law_X7_fewest : GoodIn wsL_law (wsV RL 81 RX7 yX7_fewest wsX7_fewest) := goodIn_app (goodIn_of _ (by decide +kernel)) ggL_law_X7_fewest
set_option maxRecDepth 20000 in
theorem ggL_law_X6_any : GoodIn wsL_law wsX6_any := goodIn_r _ [645, 24, 29, 269, 180, 181, 48, 182, 158, 615, 568, 569, 570, 571, 271, 272, 273, 54, 179, 646, 647, 648, 28, 649, 650, 651, 151, 652, 576, 653, 654, 655, 656, 628, 603, 604, 605, 80, 606, 599, 600, 601, 950, 951, 952, 953, 954, 955, 956, 957, 958, 997, 998, 999, 1000, 1001, 995, 996] (by decide +kernel) (by decide +kernel)
set_option maxRecDepth 20000 in
theorem gL_law_X6_any : GoodIn wsL_law (wsV RL 82 RX6 yX6_any wsX6_any) := goodIn_app (goodIn_of _ (by decide +kernel)) ggL_law_X6_any
set_option maxRecDepth 20000 in
theorem ggL_law_X7_any : GoodIn wsL_law wsX7_any := goodIn_r _ [660, 215, 287, 288, 289, 5, 290, 213, 634, 635, 636, 637, 638, 639, 640, 641, 98, 590, 591, 592, 593, 89, 313, 314, 315, 959, 960, 961, 962, 963, 964, 965, 966, 967, 968, 969, 970, 971, 972, 973, 974, 975, 976, 977, 978, 979, 980, 981, 982] (by decide +kernel) (by decide +kernel)
set_option maxRecDepth 20000 in
theorem gL_law_X7_any : GoodIn wsL_law (wsV RL 85 RX7 yX7_any wsX7_any) := goodIn_app (goodIn_of _ (by decide +kernel)) ggL_law_X7_any
set_option maxRecDepth 20000 in
theorem ggL_law_X6_gone : GoodIn wsL_law wsX6_gone := goodIn_r _ [664, 24, 29, 269, 180, 181, 48, 182, 158, 665, 621, 622, 28, 623, 576, 666, 625, 626, 627, 628, 603, 604, 605, 80, 606, 599, 600, 601, 667, 668, 669, 670, 567, 568, 569, 570, 571, 271, 272, 273, 54, 179, 950, 951, 952, 953, 954, 955, 956, 957, 958, 997, 998, 999, 1000, 1001, 995, 996] (by decide +kernel) (by decide +kernel)
set_option maxRecDepth 20000 in
theorem gL_law_X6_gone : GoodIn wsL_law (wsV RL 86 RX6 yX6_gone wsX6_gone) := goodIn_app (goodIn_of _ (by decide +kernel)) ggL_law_X6_gone
set_option maxRecDepth 20000 in
theorem ggL_law_X7_gone : GoodIn wsL_law wsX7_gone := goodIn_r _ [674, 215, 287, 288, 289, 5, 290, 213, 219, 220, 221, 590, 591, 592, 593, 89, 638, 639, 640, 641, 98, 959, 960, 961, 962, 963, 964, 965, 966, 967, 968, 969, 970, 971, 972, 973, 974, 975, 976, 977, 978, 979, 980, 981, 982] (by decide +kernel) (by decide +kernel)
set_option maxRecDepth 20000 in
theorem gL_law_X7_gone : GoodIn wsL_law (wsV RL 89 RX7 yX7_gone wsX7_gone) := goodIn_app (goodIn_of _ (by decide +kernel)) ggL_law_X7_gone
set_option maxRecDepth 20000 in
theorem ggL_law_X6_evenings : GoodIn wsL_law wsX6_evenings := goodIn_r _ [678, 24, 29, 269, 180, 181, 48, 182, 158, 615, 568, 569, 570, 571, 271, 272, 273, 54, 179, 679, 680, 681, 28, 682, 576, 650, 651, 151, 652, 620, 621, 622, 623, 624, 625, 626, 627, 628, 603, 604, 605, 80, 606, 599, 600, 601, 629, 193, 194, 195, 196, 197, 198, 950, 951, 952, 953, 954, 955, 956, 957, 958, 997, 998, 999, 1000, 1001, 995, 996] (by decide +kernel) (by decide +kernel)
set_option maxRecDepth 20000 in
theorem gL_law_X6_evenings : GoodIn wsL_law (wsV RL 90 RX6 yX6_evenings wsX6_evenings) := goodIn_app (goodIn_of _ (by decide +kernel)) ggL_law_X6_evenings
set_option maxRecDepth 20000 in
theorem ggL_law_X7_evenings : GoodIn wsL_law wsX7_evenings := goodIn_r _ [686, 215, 98, 287, 288, 289, 5, 290, 213, 638, 639, 640, 641, 590, 591, 592, 593, 89, 313, 314, 315, 959, 960, 961, 962, 963, 964, 965, 966, 967, 968, 969, 970, 971, 972, 973, 974, 975, 976, 977, 978, 979, 980, 981, 982] (by decide +kernel) (by decide +kernel)
set_option maxRecDepth 20000 in
theorem gL_law_X7_evenings : GoodIn wsL_law (wsV RL 93 RX7 yX7_evenings wsX7_evenings) := goodIn_app (goodIn_of _ (by decide +kernel)) ggL_law_X7_evenings
set_option maxRecDepth 20000 in
theorem ggL_law_X6_seen : GoodIn wsL_law wsX6_seen := goodIn_r _ [690, 24, 31, 299, 300, 301, 48, 302, 157, 103, 104, 105, 2, 106, 107, 15, 108, 109, 110, 14, 111, 112, 113, 114, 115, 116, 117, 118, 119, 120, 121, 122, 123, 36, 124, 125, 126, 127, 128, 129, 130, 131, 132, 37, 133, 134, 135, 136, 137, 138, 139, 140, 38, 141, 142, 143, 144, 320, 321, 322, 323, 158, 691, 692, 693, 694, 695, 696, 697, 698, 571, 271, 272, 273, 54, 179, 180, 181, 182, 699, 700, 701, 702, 308, 279, 280, 281, 55, 282, 275, 276, 277, 950, 951, 952, 953, 954, 955, 956, 957, 958, 997, 998, 999, 1000, 1001, 983, 984, 985] (by decide +kernel) (by decide +kernel)
set_option maxRecDepth 20000 in
theorem gL_law_X6_seen : GoodIn wsL_law (wsV RL 94 RX6 yX6_seen wsX6_seen) := goodIn_app (goodIn_of _ (by decide +kernel)) ggL_law_X6_seen
set_option maxRecDepth 20000 in
theorem ggL_law_X7_seen : GoodIn wsL_law wsX7_seen := goodIn_r _ [706, 208, 211, 213, 89, 216, 217, 5, 218, 219, 220, 221, 222, 223, 224, 225, 226, 227, 228, 85, 86, 229, 230, 231, 232, 707, 708, 709, 710, 87, 711, 712, 713, 714, 90, 245, 246, 247, 959, 960, 961, 962, 963, 964, 965, 966, 967, 968, 969, 970, 971, 972, 973, 974, 975, 976, 977, 978, 979, 980, 981, 982] (by decide +kernel) (by decide +kernel)
set_option maxRecDepth 20000 in
theorem gL_law_X7_seen : GoodIn wsL_law (wsV RL 97 RX7 yX7_seen wsX7_seen) := goodIn_app (goodIn_of _ (by decide +kernel)) ggL_law_X7_seen
set_option maxRecDepth 20000 in
theorem ggL_law_X6_part : GoodIn wsL_law wsX6_part := goodIn_r _ [718, 24, 31, 103, 104, 105, 2, 106, 107, 15, 108, 109, 110, 14, 111, 112, 113, 114, 115, 116, 117, 118, 119, 120, 121, 122, 123, 36, 124, 125, 126, 127, 128, 129, 130, 131, 132, 37, 133, 134, 135, 136, 137, 138, 139, 140, 38, 141, 142, 143, 144, 320, 321, 322, 48, 323, 158, 299, 300, 301, 302, 157, 691, 692, 693, 694, 719, 720, 721, 722, 571, 271, 272, 273, 54, 179, 180, 181, 182, 723, 699, 700, 701, 702, 308, 279, 280, 281, 55, 282, 275, 276, 277, 950, 951, 952, 953, 954, 955, 956, 957, 958, 983, 984, 985, 997, 998, 999, 1000, 1001] (by decide +kernel) (by decide +kernel)
set_option maxRecDepth 20000 in
theorem gL_law_X6_part : GoodIn wsL_law (wsV RL 98 RX6 yX6_part wsX6_part) := goodIn_app (goodIn_of _ (by decide +kernel)) ggL_law_X6_part
set_option maxRecDepth 20000 in
theorem ggL_law_X7_part : GoodIn wsL_law wsX7_part := goodIn_r _ [727, 208, 213, 211, 216, 217, 5, 218, 219, 220, 221, 222, 223, 224, 225, 226, 227, 228, 85, 86, 229, 230, 231, 232, 707, 708, 709, 710, 87, 728, 729, 730, 731, 89, 90, 245, 246, 247, 959, 960, 961, 962, 963, 964, 965, 966, 967, 968, 969, 970, 971, 972, 973, 974, 975, 976, 977, 978, 979, 980, 981, 982] (by decide +kernel) (by decide +kernel)
set_option maxRecDepth 20000 in
theorem gL_law_X7_part : GoodIn wsL_law (wsV RL 101 RX7 yX7_part wsX7_part) := goodIn_app (goodIn_of _ (by decide +kernel)) ggL_law_X7_part
set_option maxRecDepth 20000 in
theorem ggL_law_X6_apart : GoodIn wsL_law wsX6_apart := goodIn_r _ [735, 24, 269, 180, 181, 48, 182, 158, 736, 737, 738, 739, 282, 275, 276, 277, 54, 179, 308, 279, 280, 281, 55, 950, 951, 952, 953, 954, 955, 956, 957, 958, 997, 998, 999, 1000, 1001] (by decide +kernel) (by decide +kernel)
set_option maxRecDepth 20000 in
theorem gL_law_X6_apart : GoodIn wsL_law (wsV RL 102 RX6 yX6_apart wsX6_apart) := goodIn_app (goodIn_of _ (by decide +kernel)) ggL_law_X6_apart
set_option maxRecDepth 20000 in
theorem ggL_law_X7_apart : GoodIn wsL_law wsX7_apart := goodIn_r _ [743, 287, 288, 289, 5, 290, 213, 744, 745, 746, 747, 89, 90, 291, 292, 293, 294, 245, 246, 247, 959, 960, 961, 962, 963, 964, 965, 966, 967, 968, 969, 970, 971, 972, 973, 974, 975, 976, 977, 978, 979, 980, 981, 982] (by decide +kernel) (by decide +kernel)
set_option maxRecDepth 20000 in
theorem gL_law_X7_apart : GoodIn wsL_law (wsV RL 105 RX7 yX7_apart wsX7_apart) := goodIn_app (goodIn_of _ (by decide +kernel)) ggL_law_X7_apart
set_option maxRecDepth 20000 in
theorem ggL_law_X6_nearest : GoodIn wsL_law wsX6_nearest := goodIn_r _ [751, 24, 269, 180, 181, 48, 182, 158, 752, 753, 754, 755, 756, 737, 738, 739, 282, 275, 276, 277, 54, 179, 308, 279, 280, 281, 55, 950, 951, 952, 953, 954, 955, 956, 957, 958, 997, 998, 999, 1000, 1001] (by decide +kernel) (by decide +kernel)
set_option maxRecDepth 20000 in
theorem gL_law_X6_nearest : GoodIn wsL_law (wsV RL 106 RX6 yX6_nearest wsX6_nearest) := goodIn_app (goodIn_of _ (by decide +kernel)) ggL_law_X6_nearest
set_option maxRecDepth 20000 in
theorem ggL_law_X7_nearest : GoodIn wsL_law wsX7_nearest := goodIn_r _ [760, 213, 287, 288, 289, 5, 290, 744, 745, 746, 747, 89, 90, 291, 292, 293, 294, 245, 246, 247, 959, 960, 961, 962, 963, 964, 965, 966, 967, 968, 969, 970, 971, 972, 973, 974, 975, 976, 977, 978, 979, 980, 981, 982] (by decide +kernel) (by decide +kernel)
set_option maxRecDepth 20000 in
theorem gL_law_X7_nearest : GoodIn wsL_law (wsV RL 109 RX7 yX7_nearest wsX7_nearest) := goodIn_app (goodIn_of _ (by decide +kernel)) ggL_law_X7_nearest
set_option maxRecDepth 20000 in
theorem ggL_law_X6_safe : GoodIn wsL_law wsX6_safe := goodIn_r _ [764, 24, 320, 321, 322, 48, 323, 158, 765, 766, 767, 768, 769, 770, 771, 772, 571, 271, 272, 273, 54, 179, 180, 181, 182, 756, 737, 738, 739, 282, 275, 276, 277, 308, 279, 280, 281, 55, 950, 951, 952, 953, 954, 955, 956, 957, 958, 997, 998, 999, 1000, 1001] (by decide +kernel) (by decide +kernel)
set_option maxRecDepth 20000 in
theorem gL_law_X6_safe : GoodIn wsL_law (wsV RL 110 RX6 yX6_safe wsX6_safe) := goodIn_app (goodIn_of _ (by decide +kernel)) ggL_law_X6_safe
set_option maxRecDepth 20000 in
theorem ggL_law_X7_safe : GoodIn wsL_law wsX7_safe := goodIn_r _ [776, 213, 777, 778, 779, 5, 780, 89, 90, 291, 292, 293, 294, 287, 288, 289, 290, 245, 246, 247, 959, 960, 961, 962, 963, 964, 965, 966, 967, 968, 969, 970, 971, 972, 973, 974, 975, 976, 977, 978, 979, 980, 981, 982] (by decide +kernel) (by decide +kernel)
set_option maxRecDepth 20000 in
theorem gL_law_X7_safe : GoodIn wsL_law (wsV RL 114 RX7 yX7_safe wsX7_safe) := goodIn_app (goodIn_of _ (by decide +kernel)) ggL_law_X7_safe
set_option maxRecDepth 20000 in
theorem ggL_law_X6_plans : GoodIn wsL_law wsX6_plans := goodIn_r _ [784, 24, 23, 785, 274, 275, 276, 48, 277, 54, 179, 180, 181, 182, 158, 278, 279, 280, 281, 55, 282, 786, 787, 788, 22, 789, 409, 410, 411, 412, 64, 413, 150, 151, 152, 408, 67, 69, 414, 347, 348, 63, 349, 75, 350, 343, 344, 345, 328, 415, 352, 353, 354, 76, 416, 356, 357, 790, 791, 792, 793, 60, 497, 498, 499, 500, 417, 418, 419, 420, 66, 421, 40, 41, 42, 422, 423, 424, 425, 426, 427, 428, 429, 65, 390, 189, 190, 191, 157, 430, 431, 432, 433, 434, 435, 436, 437, 501, 502, 503, 504, 391, 392, 393, 394, 950, 951, 952, 953, 954, 955, 956, 957, 958, 997, 998, 999, 1000, 1001, 987, 988, 989, 990, 991, 992, 993, 994, 1002, 1003, 1004] (by decide +kernel) (by decide +kernel)
set_option maxRecDepth 20000 in
theorem gL_law_X6_plans : GoodIn wsL_law (wsV RL 115 RX6 yX6_plans wsX6_plans) := goodIn_app (goodIn_of _ (by decide +kernel)) ggL_law_X6_plans
set_option maxRecDepth 20000 in
theorem ggL_law_X7_plans : GoodIn wsL_law wsX7_plans := goodIn_r _ [797, 798, 90, 291, 292, 293, 5, 294, 89, 287, 288, 289, 290, 213, 530, 531, 532, 533, 214, 211, 460, 461, 462, 463, 459, 94, 534, 535, 536, 537, 96, 455, 456, 457, 458, 95, 88, 366, 367, 368, 369, 245, 246, 247, 959, 960, 961, 962, 963, 964, 965, 966, 967, 968, 969, 970, 971, 972, 973, 974, 975, 976, 977, 978, 979, 980, 981, 982] (by decide +kernel) (by decide +kernel)
set_option maxRecDepth 20000 in
theorem gL_law_X7_plans : GoodIn wsL_law (wsV RL 119 RX7 yX7_plans wsX7_plans) := goodIn_app (goodIn_of _ (by decide +kernel)) ggL_law_X7_plans
set_option maxRecDepth 20000 in
theorem ggL_law_X6_sheet : GoodIn wsL_law wsX6_sheet := goodIn_r _ [802, 107, 15, 108, 109, 110, 14, 111, 133, 134, 135, 2, 136, 803, 804, 805, 806, 36, 37, 38, 124, 807, 808, 41, 809, 810, 811, 812, 950, 951, 952, 953, 954, 955, 956, 957, 958, 983, 984, 985] (by decide +kernel) (by decide +kernel)
set_option maxRecDepth 20000 in
theorem gL_law_X6_sheet : GoodIn wsL_law (wsV RL 120 RX6 yX6_sheet wsX6_sheet) := goodIn_app (goodIn_of _ (by decide +kernel)) ggL_law_X6_sheet
set_option maxRecDepth 20000 in
theorem ggL_law_X7_sheet : GoodIn wsL_law wsX7_sheet := goodIn_r _ [816, 208, 85, 86, 87, 216, 217, 5, 218, 219, 220, 221, 222, 223, 224, 229, 230, 231, 232, 959, 960, 961, 962, 963, 964, 965, 966, 967, 968, 969, 970, 971, 972, 973, 974, 975, 976, 977, 978, 979, 980, 981, 982] (by decide +kernel) (by decide +kernel)
set_option maxRecDepth 20000 in
theorem gL_law_X7_sheet : GoodIn wsL_law (wsV RL 123 RX7 yX7_sheet wsX7_sheet) := goodIn_app (goodIn_of _ (by decide +kernel)) ggL_law_X7_sheet
set_option maxRecDepth 20000 in
theorem ggL_law_X6_lose : GoodIn wsL_law wsX6_lose := goodIn_r _ [820, 15, 108, 109, 110, 14, 111, 821, 117, 118, 119, 120, 121, 122, 123, 36, 124, 822, 823, 824, 825, 37, 950, 951, 952, 953, 954, 955, 956, 957, 958, 983, 984, 985] (by decide +kernel) (by decide +kernel)
set_option maxRecDepth 20000 in
theorem gL_law_X6_lose : GoodIn wsL_law (wsV RL 124 RX6 yX6_lose wsX6_lose) := goodIn_app (goodIn_of _ (by decide +kernel)) ggL_law_X6_lose
set_option maxRecDepth 20000 in
theorem ggL_law_X7_lose : GoodIn wsL_law wsX7_lose := goodIn_r _ [829, 85, 216, 217, 5, 218, 219, 220, 221, 959, 960, 961, 962, 963, 964, 965, 966, 967, 968, 969, 970, 971, 972, 973, 974, 975, 976, 977, 978, 979, 980, 981, 982] (by decide +kernel) (by decide +kernel)
set_option maxRecDepth 20000 in
theorem gL_law_X7_lose : GoodIn wsL_law (wsV RL 127 RX7 yX7_lose wsX7_lose) := goodIn_app (goodIn_of _ (by decide +kernel)) ggL_law_X7_lose
set_option maxRecDepth 20000 in
theorem ggL_law_X6_put : GoodIn wsL_law wsX6_put := goodIn_r _ [833, 107, 15, 108, 109, 110, 14, 111, 834, 121, 122, 123, 36, 124, 112, 113, 114, 115, 116, 117, 118, 119, 120, 125, 126, 127, 128, 129, 130, 131, 132, 37, 133, 134, 135, 2, 136, 835, 836, 837, 838, 38, 839, 840, 841, 842, 950, 951, 952, 953, 954, 955, 956, 957, 958, 983, 984, 985] (by decide +kernel) (by decide +kernel)
set_option maxRecDepth 20000 in
theorem gL_law_X6_put : GoodIn wsL_law (wsV RL 128 RX6 yX6_put wsX6_put) := goodIn_app (goodIn_of _ (by decide +kernel)) ggL_law_X6_put
set_option maxRecDepth 20000 in
theorem ggL_law_X7_put : GoodIn wsL_law wsX7_put := goodIn_r _ [846, 208, 85, 86, 87, 216, 217, 5, 218, 219, 220, 221, 229, 230, 231, 232, 959, 960, 961, 962, 963, 964, 965, 966, 967, 968, 969, 970, 971, 972, 973, 974, 975, 976, 977, 978, 979, 980, 981, 982] (by decide +kernel) (by decide +kernel)
set_option maxRecDepth 20000 in
theorem gL_law_X7_put : GoodIn wsL_law (wsV RL 131 RX7 yX7_put wsX7_put) := goodIn_app (goodIn_of _ (by decide +kernel)) ggL_law_X7_put
set_option maxRecDepth 20000 in
theorem ggL_law_X6_cell : GoodIn wsL_law wsX6_cell := goodIn_r _ [850, 785, 31, 103, 104, 105, 2, 106, 107, 15, 108, 109, 110, 14, 111, 112, 113, 114, 115, 116, 117, 118, 119, 120, 121, 122, 123, 36, 124, 125, 126, 127, 128, 129, 130, 131, 132, 37, 133, 134, 135, 136, 137, 138, 139, 140, 38, 141, 142, 143, 144, 950, 951, 952, 953, 954, 955, 956, 957, 958, 983, 984, 985] (by decide +kernel) (by decide +kernel)
set_option maxRecDepth 20000 in
theorem gL_law_X6_cell : GoodIn wsL_law (wsV RL 132 RX6 yX6_cell wsX6_cell) := goodIn_app (goodIn_of _ (by decide +kernel)) ggL_law_X6_cell
set_option maxRecDepth 20000 in
theorem ggL_law_X7_cell : GoodIn wsL_law wsX7_cell := goodIn_r _ [854, 208, 798, 85, 86, 87, 216, 217, 5, 218, 219, 220, 221, 222, 223, 224, 855, 856, 857, 858, 959, 960, 961, 962, 963, 964, 965, 966, 967, 968, 969, 970, 971, 972, 973, 974, 975, 976, 977, 978, 979, 980, 981, 982] (by decide +kernel) (by decide +kernel)
set_option maxRecDepth 20000 in
theorem gL_law_X7_cell : GoodIn wsL_law (wsV RL 136 RX7 yX7_cell wsX7_cell) := goodIn_app (goodIn_of _ (by decide +kernel)) ggL_law_X7_cell
set_option maxRecDepth 20000 in
theorem ggL_law_X6_copy : GoodIn wsL_law wsX6_copy := goodIn_r _ [862, 107, 15, 108, 109, 110, 14, 111, 863, 864, 865, 866, 116, 117, 118, 119, 120, 121, 122, 123, 36, 124, 125, 126, 127, 128, 129, 130, 131, 132, 37, 133, 134, 135, 2, 136, 867, 868, 869, 870, 38, 141, 142, 143, 144, 950, 951, 952, 953, 954, 955, 956, 957, 958, 983, 984, 985] (by decide +kernel) (by decide +kernel)
set_option maxRecDepth 20000 in
theorem gL_law_X6_copy : GoodIn wsL_law (wsV RL 137 RX6 yX6_copy wsX6_copy) := goodIn_app (goodIn_of _ (by decide +kernel)) ggL_law_X6_copy
set_option maxRecDepth 20000 in
theorem ggL_law_X7_copy : GoodIn wsL_law wsX7_copy := goodIn_r _ [874, 208, 85, 86, 87, 216, 217, 5, 218, 219, 220, 221, 229, 230, 231, 232, 959, 960, 961, 962, 963, 964, 965, 966, 967, 968, 969, 970, 971, 972, 973, 974, 975, 976, 977, 978, 979, 980, 981, 982] (by decide +kernel) (by decide +kernel)
set_option maxRecDepth 20000 in
theorem gL_law_X7_copy : GoodIn wsL_law (wsV RL 140 RX7 yX7_copy wsX7_copy) := goodIn_app (goodIn_of _ (by decide +kernel)) ggL_law_X7_copy
set_option maxRecDepth 20000 in
theorem ggL_law_X6_tell : GoodIn wsL_law wsX6_tell := goodIn_r _ [878, 25, 342, 343, 344, 63, 345, 328, 346, 347, 348, 349, 75, 350, 879, 880, 881, 2, 882, 883, 884, 885, 886, 887, 888, 889, 890, 891, 892, 893, 894, 895, 351, 352, 353, 354, 76, 950, 951, 952, 953, 954, 955, 956, 957, 958, 1002, 1003, 1004] (by decide +kernel) (by decide +kernel)
set_option maxRecDepth 20000 in
theorem gL_law_X6_tell : GoodIn wsL_law (wsV RL 141 RX6 yX6_tell wsX6_tell) := goodIn_app (goodIn_of _ (by decide +kernel)) ggL_law_X6_tell
set_option maxRecDepth 20000 in
theorem ggL_law_X7_tell : GoodIn wsL_law wsX7_tell := goodIn_r _ [899, 95, 94, 362, 363, 364, 5, 365, 214, 900, 901, 902, 903, 904, 959, 960, 961, 962, 963, 964, 965, 966, 967, 968, 969, 970, 971, 972, 973, 974, 975, 976, 977, 978, 979, 980, 981, 982] (by decide +kernel) (by decide +kernel)
set_option maxRecDepth 20000 in
theorem gL_law_X7_tell : GoodIn wsL_law (wsV RL 144 RX7 yX7_tell wsX7_tell) := goodIn_app (goodIn_of _ (by decide +kernel)) ggL_law_X7_tell
set_option maxRecDepth 20000 in
theorem ggL_law_X6_lead : GoodIn wsL_law wsX6_lead := goodIn_r _ [908, 25, 342, 343, 344, 63, 345, 328, 346, 347, 348, 349, 75, 350, 883, 884, 885, 2, 886, 887, 950, 951, 952, 953, 954, 955, 956, 957, 958, 1002, 1003, 1004] (by decide +kernel) (by decide +kernel)
set_option maxRecDepth 20000 in
theorem gL_law_X6_lead : GoodIn wsL_law (wsV RL 145 RX6 yX6_lead wsX6_lead) := goodIn_app (goodIn_of _ (by decide +kernel)) ggL_law_X6_lead
set_option maxRecDepth 20000 in
theorem ggL_law_X7_lead : GoodIn wsL_law wsX7_lead := goodIn_r _ [912, 94, 362, 363, 364, 5, 365, 214, 900, 901, 902, 903, 904, 959, 960, 961, 962, 963, 964, 965, 966, 967, 968, 969, 970, 971, 972, 973, 974, 975, 976, 977, 978, 979, 980, 981, 982] (by decide +kernel) (by decide +kernel)
set_option maxRecDepth 20000 in
theorem gL_law_X7_lead : GoodIn wsL_law (wsV RL 148 RX7 yX7_lead wsX7_lead) := goodIn_app (goodIn_of _ (by decide +kernel)) ggL_law_X7_lead
set_option maxRecDepth 20000 in
theorem ggL_law_X6_as : GoodIn wsL_law wsX6_as := goodIn_r _ [916, 107, 25, 342, 343, 344, 63, 345, 328, 917, 918, 919, 920, 921, 347, 348, 349, 75, 350, 133, 134, 135, 2, 136, 950, 951, 952, 953, 954, 955, 956, 957, 958, 1002, 1003, 1004] (by decide +kernel) (by decide +kernel)
set_option maxRecDepth 20000 in
theorem gL_law_X6_as : GoodIn wsL_law (wsV RL 149 RX6 yX6_as wsX6_as) := goodIn_app (goodIn_of _ (by decide +kernel)) ggL_law_X6_as
set_option maxRecDepth 20000 in
theorem ggL_law_X7_as : GoodIn wsL_law wsX7_as := goodIn_r _ [925, 208, 94, 362, 363, 364, 5, 365, 214, 219, 220, 221, 229, 230, 231, 232, 959, 960, 961, 962, 963, 964, 965, 966, 967, 968, 969, 970, 971, 972, 973, 974, 975, 976, 977, 978, 979, 980, 981, 982] (by decide +kernel) (by decide +kernel)
set_option maxRecDepth 20000 in
theorem gL_law_X7_as : GoodIn wsL_law (wsV RL 152 RX7 yX7_as wsX7_as) := goodIn_app (goodIn_of _ (by decide +kernel)) ggL_law_X7_as
set_option maxRecDepth 20000 in
theorem ggL_law_X6_trace : GoodIn wsL_law wsX6_trace := goodIn_r _ [929, 887, 950, 951, 952, 953, 954, 955, 956, 957, 958] (by decide +kernel) (by decide +kernel)
set_option maxRecDepth 20000 in
theorem gL_law_X6_trace : GoodIn wsL_law (wsV RL 153 RX6 yX6_trace wsX6_trace) := goodIn_app (goodIn_of _ (by decide +kernel)) ggL_law_X6_trace
set_option maxRecDepth 20000 in
theorem ggL_law_X7_trace : GoodIn wsL_law wsX7_trace := goodIn_r _ [933, 904, 959, 960, 961, 962, 963, 964, 965, 966, 967, 968, 969, 970, 971, 972, 973, 974, 975, 976, 977, 978, 979, 980, 981, 982] (by decide +kernel) (by decide +kernel)
set_option maxRecDepth 20000 in
theorem gL_law_X7_trace : GoodIn wsL_law (wsV RL 156 RX7 yX7_trace wsX7_trace) := goodIn_app (goodIn_of _ (by decide +kernel)) ggL_law_X7_trace
set_option maxRecDepth 20000 in
theorem ggL_law_X6_fault : GoodIn wsL_law wsX6_fault := goodIn_r _ [937, 107, 950, 951, 952, 953, 954, 955, 956, 957, 958] (by decide +kernel) (by decide +kernel)
set_option maxRecDepth 20000 in
theorem gL_law_X6_fault : GoodIn wsL_law (wsV RL 157 RX6 yX6_fault wsX6_fault) := goodIn_app (goodIn_of _ (by decide +kernel)) ggL_law_X6_fault
set_option maxRecDepth 20000 in
theorem ggL_law_X7_fault : GoodIn wsL_law wsX7_fault := goodIn_r _ [941, 208, 959, 960, 961, 962, 963, 964, 965, 966, 967, 968, 969, 970, 971, 972, 973, 974, 975, 976, 977, 978, 979, 980, 981, 982] (by decide +kernel) (by decide +kernel)
set_option maxRecDepth 20000 in
theorem gL_law_X7_fault : GoodIn wsL_law (wsV RL 160 RX7 yX7_fault wsX7_fault) := goodIn_app (goodIn_of _ (by decide +kernel)) ggL_law_X7_fault
set_option maxRecDepth 20000 in
theorem ggL_law_X6_many : GoodIn wsL_law wsX6_many := goodIn_r _ [945, 24, 25, 29, 950, 951, 952, 953, 954, 955, 956, 957, 958, 997, 998, 999, 1000, 1001, 1002, 1003, 1004, 995, 996] (by decide +kernel) (by decide +kernel)
set_option maxRecDepth 20000 in
theorem gL_law_X6_many : GoodIn wsL_law (wsV RL 161 RX6 yX6_many wsX6_many) := goodIn_app (goodIn_of _ (by decide +kernel)) ggL_law_X6_many
set_option maxRecDepth 20000 in
theorem ggL_law_X7_many : GoodIn wsL_law wsX7_many := goodIn_r _ [949, 211, 213, 214, 215, 959, 960, 961, 962, 963, 964, 965, 966, 967, 968, 969, 970, 971, 972, 973, 974, 975, 976, 977, 978, 979, 980, 981, 982] (by decide +kernel) (by decide +kernel)
set_option maxRecDepth 20000 in
theorem gL_law_X7_many : GoodIn wsL_law (wsV RL 164 RX7 yX7_many wsX7_many) := goodIn_app (goodIn_of _ (by decide +kernel)) ggL_law_X7_many

