/-! ===== what the law's calls want ===== -/
set_option maxRecDepth 20000 in
theorem ggL_law_X6_init : GoodIn wsL_law wsX6_init := goodIn_r _ [7, 8, 9, 10, 11, 12, 13, 14, 15, 16, 17, 18, 19, 20, 21, 22, 23, 24, 25, 26, 27, 28, 3, 29, 30, 31, 32, 33, 34, 35, 36, 37, 38, 39, 40, 41, 42, 43, 44, 45, 46, 47, 48, 49, 50, 51, 52, 53, 54, 55, 56, 57, 58, 59, 60, 61, 62, 63, 64, 65, 66, 67, 68, 69, 70, 71, 72, 73, 74, 75, 76, 77, 78, 418, 419, 420, 409, 410, 411, 412, 413, 414, 415, 416, 417, 421, 422, 423, 424, 425, 426, 427, 428, 429, 430, 431, 432, 433, 434, 435, 436, 437, 438, 439] (by decide +kernel) (by decide +kernel)
set_option maxRecDepth 20000 in
theorem gL_law_X6_init : GoodIn wsL_law (wsX6_init) := ggL_law_X6_init
set_option maxRecDepth 20000 in
theorem ggL_law_L_put : GoodIn wsL_law wsL_put := goodIn_r _ [82, 83, 84, 81, 85, 86, 87, 88, 89, 90, 91, 92, 93, 2, 94, 95, 14, 96, 97, 98, 13, 99, 100, 101, 102, 103, 104, 105, 106, 107, 34, 35, 36, 108, 109, 110, 39, 111, 112, 113, 114, 115, 116, 117, 118, 119, 120, 121, 122, 123, 124, 125, 126, 127, 128, 129, 130, 131, 132, 133, 134, 135, 136, 137, 138, 139, 140, 141, 142, 143, 144, 145, 146, 147, 409, 410, 411, 412, 413, 414, 415, 416, 417, 418, 419, 420] (by decide +kernel) (by decide +kernel)
set_option maxRecDepth 20000 in
theorem gL_law_L_put : GoodIn wsL_law (va_wsS RL 36 yL_put wsL_put) := goodIn_app (goodIn_of _ (by decide +kernel)) ggL_law_L_put
set_option maxRecDepth 20000 in
theorem ggL_law_X6_lock : GoodIn wsL_law wsX6_lock := goodIn_r _ [151, 18, 29, 23, 24, 28, 152, 153, 154, 2, 155, 95, 14, 96, 97, 98, 13, 99, 123, 124, 125, 126, 127, 128, 129, 130, 131, 120, 121, 122, 34, 108, 132, 133, 134, 135, 136, 137, 138, 139, 35, 100, 101, 102, 103, 156, 157, 158, 159, 36, 160, 161, 162, 163, 164, 165, 166, 17, 167, 168, 169, 170, 171, 47, 172, 173, 174, 46, 175, 176, 177, 178, 179, 180, 181, 51, 182, 183, 184, 185, 186, 187, 188, 189, 190, 191, 192, 193, 52, 194, 195, 196, 197, 53, 198, 199, 200, 201, 202, 203, 204, 205, 206, 207, 208, 209, 210, 211, 212, 213, 214, 215, 216, 217, 218, 219, 220, 221, 222, 409, 410, 411, 412, 413, 414, 415, 416, 417, 421, 437, 438, 439, 430, 431, 432, 433, 434, 435, 436, 418, 419, 420] (by decide +kernel) (by decide +kernel)
set_option maxRecDepth 20000 in
theorem gL_law_X6_lock : GoodIn wsL_law (wsV RL 39 RX6 yX6_lock wsX6_lock) := goodIn_app (goodIn_of _ (by decide +kernel)) ggL_law_X6_lock
set_option maxRecDepth 20000 in
theorem ggL_law_L_cell : GoodIn wsL_law wsL_cell := goodIn_r _ [85, 86] (by decide +kernel) (by decide +kernel)
set_option maxRecDepth 20000 in
theorem gL_law_L_cell : GoodIn wsL_law (va_wsS RL 9 yL_cell wsL_cell) := goodIn_app (goodIn_of _ (by decide +kernel)) ggL_law_L_cell
set_option maxRecDepth 20000 in
theorem ggL_law_L_some : GoodIn wsL_law wsL_some := goodIn_r _ [89, 90] (by decide +kernel) (by decide +kernel)
set_option maxRecDepth 20000 in
theorem gL_law_L_some : GoodIn wsL_law (va_wsS RL 15 yL_some wsL_some) := goodIn_app (goodIn_of _ (by decide +kernel)) ggL_law_L_some
set_option maxRecDepth 20000 in
theorem ggL_law_L_dancer : GoodIn wsL_law wsL_dancer := goodIn_r _ [225, 87, 88, 81, 89, 90, 226, 227, 228, 2, 229, 23, 24, 230, 231, 232, 46, 233, 177, 234, 235, 236, 61, 237, 238, 239, 240, 241, 242, 73, 74, 243, 409, 410, 411, 412, 413, 414, 415, 416, 417, 432, 433, 434, 435, 436, 437, 438, 439] (by decide +kernel) (by decide +kernel)
set_option maxRecDepth 20000 in
theorem gL_law_L_dancer : GoodIn wsL_law (va_wsS RL 43 yL_dancer wsL_dancer) := goodIn_app (goodIn_of _ (by decide +kernel)) ggL_law_L_dancer
set_option maxRecDepth 20000 in
theorem ggL_law_X6_ofDancer : GoodIn wsL_law wsX6_ofDancer := goodIn_r _ [247, 24, 248, 249, 250, 61, 251, 238, 252, 253, 254, 255, 73, 256, 257, 258, 259, 260, 74, 261, 262, 263, 409, 410, 411, 412, 413, 414, 415, 416, 417, 437, 438, 439] (by decide +kernel) (by decide +kernel)
set_option maxRecDepth 20000 in
theorem gL_law_X6_ofDancer : GoodIn wsL_law (wsV RL 46 RX6 yX6_ofDancer wsX6_ofDancer) := goodIn_app (goodIn_of _ (by decide +kernel)) ggL_law_X6_ofDancer
set_option maxRecDepth 20000 in
theorem ggL_law_L_felt : GoodIn wsL_law wsL_felt := goodIn_r _ [266] (by decide +kernel) (by decide +kernel)
set_option maxRecDepth 20000 in
theorem gL_law_L_felt : GoodIn wsL_law (va_wsS RL 31 yL_felt wsL_felt) := goodIn_app (goodIn_of _ (by decide +kernel)) ggL_law_L_felt
set_option maxRecDepth 20000 in
theorem ggL_law_X6_limped : GoodIn wsL_law wsX6_limped := goodIn_r _ [270, 23, 22, 271, 199, 200, 46, 201, 177, 272, 273, 274, 21, 275, 58, 69, 276, 277, 278, 279, 62, 280, 169, 170, 171, 281, 65, 67, 282, 253, 254, 61, 255, 73, 256, 249, 250, 251, 238, 283, 258, 259, 260, 74, 284, 262, 263, 285, 286, 287, 288, 52, 198, 289, 290, 39, 291, 292, 293, 294, 295, 296, 297, 298, 299, 53, 300, 301, 302, 303, 304, 305, 306, 307, 308, 309, 310, 311, 64, 312, 38, 40, 313, 314, 315, 316, 317, 318, 319, 320, 63, 321, 208, 209, 210, 176, 322, 323, 324, 325, 326, 327, 328, 329, 330, 331, 332, 333, 334, 335, 336, 337, 338, 339, 340, 341, 342, 343, 344, 345, 346, 347, 348, 349, 350, 351, 352, 353, 354, 355, 356, 357, 358, 359, 409, 410, 411, 412, 413, 414, 415, 416, 417, 432, 433, 434, 435, 436, 422, 423, 424, 425, 426, 427, 428, 429, 437, 438, 439] (by decide +kernel) (by decide +kernel)
set_option maxRecDepth 20000 in
theorem gL_law_X6_limped : GoodIn wsL_law (wsV RL 49 RX6 yX6_limped wsX6_limped) := goodIn_app (goodIn_of _ (by decide +kernel)) ggL_law_X6_limped
set_option maxRecDepth 20000 in
theorem ggL_law_L_opened : GoodIn wsL_law wsL_opened := goodIn_r _ [362, 264, 265, 81, 266] (by decide +kernel) (by decide +kernel)
set_option maxRecDepth 20000 in
theorem gL_law_L_opened : GoodIn wsL_law (va_wsS RL 53 yL_opened wsL_opened) := goodIn_app (goodIn_of _ (by decide +kernel)) ggL_law_L_opened
set_option maxRecDepth 20000 in
theorem ggL_law_X6_can : GoodIn wsL_law wsX6_can := goodIn_r _ [366, 23, 22, 271, 199, 200, 46, 201, 177, 272, 273, 274, 21, 275, 58, 69, 276, 277, 278, 279, 62, 280, 169, 170, 171, 281, 65, 67, 282, 253, 254, 61, 255, 73, 256, 249, 250, 251, 238, 283, 258, 259, 260, 74, 284, 262, 263, 285, 286, 287, 288, 52, 198, 289, 290, 39, 291, 292, 293, 294, 295, 296, 297, 298, 299, 53, 300, 301, 302, 303, 304, 305, 306, 307, 308, 309, 310, 311, 64, 312, 38, 40, 313, 314, 315, 316, 317, 318, 319, 320, 63, 321, 208, 209, 210, 176, 322, 323, 324, 325, 326, 327, 328, 329, 330, 331, 332, 333, 334, 335, 336, 337, 338, 339, 340, 341, 342, 343, 344, 345, 346, 409, 410, 411, 412, 413, 414, 415, 416, 417, 432, 433, 434, 435, 436, 422, 423, 424, 425, 426, 427, 428, 429, 437, 438, 439] (by decide +kernel) (by decide +kernel)
set_option maxRecDepth 20000 in
theorem gL_law_X6_can : GoodIn wsL_law (wsV RL 57 RX6 yX6_can wsX6_can) := goodIn_app (goodIn_of _ (by decide +kernel)) ggL_law_X6_can
set_option maxRecDepth 20000 in
theorem ggL_law_X6_plan : GoodIn wsL_law wsX6_plan := goodIn_r _ [370, 23, 24, 22, 371, 301, 302, 46, 303, 52, 198, 199, 200, 201, 177, 248, 249, 250, 61, 251, 238, 272, 273, 274, 21, 275, 58, 69, 276, 277, 278, 279, 62, 280, 169, 170, 171, 281, 65, 67, 282, 253, 254, 255, 73, 256, 283, 258, 259, 260, 74, 284, 262, 263, 285, 286, 287, 288, 289, 290, 39, 291, 292, 293, 294, 295, 296, 297, 298, 299, 53, 300, 304, 305, 306, 307, 308, 309, 310, 311, 64, 312, 38, 40, 313, 314, 315, 316, 317, 318, 319, 320, 63, 321, 208, 209, 210, 176, 322, 323, 324, 325, 326, 327, 328, 329, 330, 331, 332, 333, 334, 335, 336, 337, 338, 339, 340, 341, 342, 343, 344, 345, 346, 372, 409, 410, 411, 412, 413, 414, 415, 416, 417, 432, 433, 434, 435, 436, 437, 438, 439, 422, 423, 424, 425, 426, 427, 428, 429] (by decide +kernel) (by decide +kernel)
set_option maxRecDepth 20000 in
theorem gL_law_X6_plan : GoodIn wsL_law (wsV RL 60 RX6 yX6_plan wsX6_plan) := goodIn_app (goodIn_of _ (by decide +kernel)) ggL_law_X6_plan
set_option maxRecDepth 20000 in
theorem ggL_law_X6_sheet : GoodIn wsL_law wsX6_sheet := goodIn_r _ [94, 95, 14, 96, 97, 98, 13, 99, 100, 101, 102, 2, 103, 104, 105, 106, 107, 34, 35, 36, 108, 109, 110, 39, 111, 112, 113, 114, 409, 410, 411, 412, 413, 414, 415, 416, 417, 418, 419, 420] (by decide +kernel) (by decide +kernel)
set_option maxRecDepth 20000 in
theorem gL_law_X6_sheet : GoodIn wsL_law (wsV RL 19 RX6 yX6_sheet wsX6_sheet) := goodIn_app (goodIn_of _ (by decide +kernel)) ggL_law_X6_sheet
set_option maxRecDepth 20000 in
theorem ggL_law_X6_put : GoodIn wsL_law wsX6_put := goodIn_r _ [118, 95, 14, 96, 97, 98, 13, 99, 119, 120, 121, 122, 34, 108, 123, 124, 125, 126, 127, 128, 129, 130, 131, 132, 133, 134, 135, 136, 137, 138, 139, 35, 100, 101, 102, 2, 103, 140, 141, 142, 143, 36, 144, 145, 146, 147, 409, 410, 411, 412, 413, 414, 415, 416, 417, 418, 419, 420] (by decide +kernel) (by decide +kernel)
set_option maxRecDepth 20000 in
theorem gL_law_X6_put : GoodIn wsL_law (wsV RL 25 RX6 yX6_put wsX6_put) := goodIn_app (goodIn_of _ (by decide +kernel)) ggL_law_X6_put
set_option maxRecDepth 20000 in
theorem ggL_law_X6_opens : GoodIn wsL_law wsX6_opens := goodIn_r _ [376, 22, 377, 378, 379, 2, 380, 24, 23, 29, 152, 153, 154, 155, 95, 14, 96, 97, 98, 13, 99, 123, 124, 125, 126, 127, 128, 129, 130, 131, 120, 121, 122, 34, 108, 132, 133, 134, 135, 136, 137, 138, 139, 35, 100, 101, 102, 103, 156, 157, 158, 159, 36, 160, 161, 162, 163, 230, 231, 232, 46, 233, 177, 381, 382, 383, 21, 384, 62, 58, 321, 208, 209, 210, 176, 338, 339, 340, 341, 63, 348, 349, 350, 351, 285, 286, 287, 288, 52, 198, 199, 200, 201, 352, 353, 354, 355, 356, 357, 358, 359, 281, 276, 277, 278, 279, 280, 169, 170, 171, 65, 67, 282, 253, 254, 61, 255, 73, 256, 249, 250, 251, 238, 283, 258, 259, 260, 74, 284, 262, 263, 308, 309, 310, 311, 64, 312, 38, 39, 40, 313, 314, 315, 316, 317, 318, 319, 320, 322, 323, 324, 325, 326, 327, 328, 329, 296, 297, 298, 299, 53, 300, 301, 302, 303, 409, 410, 411, 412, 413, 414, 415, 416, 417, 437, 438, 439, 418, 419, 420, 432, 433, 434, 435, 436, 422, 423, 424, 425, 426, 427, 428, 429] (by decide +kernel) (by decide +kernel)
set_option maxRecDepth 20000 in
theorem gL_law_X6_opens : GoodIn wsL_law (wsV RL 63 RX6 yX6_opens wsX6_opens) := goodIn_app (goodIn_of _ (by decide +kernel)) ggL_law_X6_opens
set_option maxRecDepth 20000 in
theorem ggL_law_X6_felt : GoodIn wsL_law wsX6_felt := goodIn_r _ [388, 22, 377, 378, 379, 2, 380, 24, 23, 29, 152, 153, 154, 155, 95, 14, 96, 97, 98, 13, 99, 123, 124, 125, 126, 127, 128, 129, 130, 131, 120, 121, 122, 34, 108, 132, 133, 134, 135, 136, 137, 138, 139, 35, 100, 101, 102, 103, 156, 157, 158, 159, 36, 160, 161, 162, 163, 230, 231, 232, 46, 233, 177, 381, 382, 383, 21, 384, 62, 58, 321, 208, 209, 210, 176, 338, 339, 340, 341, 63, 389, 357, 358, 359, 281, 276, 277, 278, 279, 280, 169, 170, 171, 65, 67, 282, 253, 254, 61, 255, 73, 256, 249, 250, 251, 238, 283, 258, 259, 260, 74, 284, 262, 263, 308, 309, 310, 311, 64, 312, 38, 39, 40, 313, 314, 315, 316, 317, 318, 319, 320, 322, 323, 324, 325, 326, 327, 328, 329, 409, 410, 411, 412, 413, 414, 415, 416, 417, 437, 438, 439, 418, 419, 420, 432, 433, 434, 435, 436, 422, 423, 424, 425, 426, 427, 428, 429] (by decide +kernel) (by decide +kernel)
set_option maxRecDepth 20000 in
theorem gL_law_X6_felt : GoodIn wsL_law (wsV RL 66 RX6 yX6_felt wsX6_felt) := goodIn_app (goodIn_of _ (by decide +kernel)) ggL_law_X6_felt
set_option maxRecDepth 20000 in
theorem ggL_law_X6_wrong : GoodIn wsL_law wsX6_wrong := goodIn_r _ [393, 95, 23, 22, 271, 199, 200, 46, 201, 177, 347, 286, 287, 288, 52, 198, 377, 378, 379, 2, 380, 24, 29, 152, 153, 154, 155, 14, 96, 97, 98, 13, 99, 123, 124, 125, 126, 127, 128, 129, 130, 131, 120, 121, 122, 34, 108, 132, 133, 134, 135, 136, 137, 138, 139, 35, 100, 101, 102, 103, 156, 157, 158, 159, 36, 160, 161, 162, 163, 230, 231, 232, 233, 381, 382, 383, 21, 384, 62, 58, 321, 208, 209, 210, 176, 338, 339, 340, 341, 63, 394, 353, 354, 355, 285, 356, 357, 358, 359, 281, 276, 277, 278, 279, 280, 169, 170, 171, 65, 67, 282, 253, 254, 61, 255, 73, 256, 249, 250, 251, 238, 283, 258, 259, 260, 74, 284, 262, 263, 308, 309, 310, 311, 64, 312, 38, 39, 40, 313, 314, 315, 316, 317, 318, 319, 320, 322, 323, 324, 325, 326, 327, 328, 329, 296, 297, 298, 299, 53, 300, 301, 302, 303, 409, 410, 411, 412, 413, 414, 415, 416, 417, 432, 433, 434, 435, 436, 437, 438, 439, 418, 419, 420, 422, 423, 424, 425, 426, 427, 428, 429] (by decide +kernel) (by decide +kernel)
set_option maxRecDepth 20000 in
theorem gL_law_X6_wrong : GoodIn wsL_law (wsV RL 69 RX6 yX6_wrong wsX6_wrong) := goodIn_app (goodIn_of _ (by decide +kernel)) ggL_law_X6_wrong
set_option maxRecDepth 20000 in
theorem ggL_law_X6_plans : GoodIn wsL_law wsX6_plans := goodIn_r _ [398, 23, 22, 399, 371, 301, 302, 46, 303, 52, 198, 199, 200, 201, 177, 400, 297, 298, 299, 53, 300, 401, 402, 403, 21, 404, 276, 277, 278, 279, 62, 280, 169, 170, 171, 281, 65, 67, 282, 253, 254, 61, 255, 73, 256, 249, 250, 251, 238, 283, 258, 259, 260, 74, 284, 262, 263, 405, 406, 407, 408, 58, 304, 305, 306, 307, 308, 309, 310, 311, 64, 312, 38, 39, 40, 313, 314, 315, 316, 317, 318, 319, 320, 63, 321, 208, 209, 210, 176, 322, 323, 324, 325, 326, 327, 328, 329, 330, 331, 332, 333, 338, 339, 340, 341, 409, 410, 411, 412, 413, 414, 415, 416, 417, 432, 433, 434, 435, 436, 422, 423, 424, 425, 426, 427, 428, 429, 437, 438, 439] (by decide +kernel) (by decide +kernel)
set_option maxRecDepth 20000 in
theorem gL_law_X6_plans : GoodIn wsL_law (wsV RL 72 RX6 yX6_plans wsX6_plans) := goodIn_app (goodIn_of _ (by decide +kernel)) ggL_law_X6_plans
