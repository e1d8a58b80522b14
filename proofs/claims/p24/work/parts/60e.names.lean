set_option maxRecDepth 20000 in
theorem ggL_lines_X5_init : GoodIn wsL_lines wsX5_init := goodIn_r _ [14, 15, 16, 17, 18, 19, 20, 21, 22, 23, 24, 25, 26, 27, 28, 29, 30, 31, 32, 33, 34, 35, 36, 37, 38, 39, 40, 41, 42, 43, 44, 45, 46, 47, 48, 49, 50, 51, 52, 53, 54, 55, 56, 57, 58, 59, 60, 61, 62, 63, 64, 65, 66, 67, 68, 69, 70, 71, 72, 73, 74, 75, 76, 77, 78, 454, 455, 456, 457, 458, 459, 460, 461, 462, 450, 451, 452, 453, 463, 464, 465, 466, 467, 468, 469, 470, 471, 472, 473, 474, 475, 476, 477, 478, 479, 480, 481, 482, 483, 484] (by decide +kernel) (by decide +kernel)
set_option maxRecDepth 20000 in
theorem gL_lines_X5_init : GoodIn wsL_lines (wsX5_init) := ggL_lines_X5_init
set_option maxRecDepth 20000 in
theorem ggL_lines_X5_undo : GoodIn wsL_lines wsX5_undo := goodIn_r _ [82, 25, 83, 84, 21, 85, 86, 87, 24, 88, 89, 72, 90, 91, 92, 93, 20, 94, 38, 42, 49, 95, 96, 97, 98, 99, 100, 51, 52, 53, 54, 101, 102, 103, 32, 104, 58, 59, 105, 60, 61, 106, 107, 108, 109, 110, 111, 112, 41, 113, 65, 114, 66, 450, 451, 452, 453, 463, 464, 465, 454, 455, 456, 457, 458, 459, 460, 461, 462, 475, 476, 477, 478, 479, 480, 481, 482, 483, 484] (by decide +kernel) (by decide +kernel)
set_option maxRecDepth 20000 in
theorem gL_lines_X5_undo : GoodIn wsL_lines (wsV RL 80 RX5 yX5_undo wsX5_undo) := goodIn_app (goodIn_of _ (by decide +kernel)) ggL_lines_X5_undo
set_option maxRecDepth 20000 in
theorem ggL_lines_X5_safe : GoodIn wsL_lines wsX5_safe := goodIn_r _ [118, 21, 119, 33, 120, 121, 102, 103, 32, 104, 58, 59, 105, 96, 97, 98, 60, 61, 106, 107, 108, 109, 122, 123, 124, 125, 126, 127, 128, 129, 130, 131, 132, 133, 134, 135, 136, 137, 138, 139, 140, 141, 142, 143, 144, 145, 146, 147, 148, 149, 450, 451, 452, 453, 454, 455, 456, 457, 458, 459, 460, 461, 462, 475, 476, 477, 478, 479, 480, 481, 482] (by decide +kernel) (by decide +kernel)
set_option maxRecDepth 20000 in
theorem gL_lines_X5_safe : GoodIn wsL_lines (wsV RL 85 RX5 yX5_safe wsX5_safe) := goodIn_app (goodIn_of _ (by decide +kernel)) ggL_lines_X5_safe
set_option maxRecDepth 20000 in
theorem ggL_lines_X5_emptyAfter : GoodIn wsL_lines wsX5_emptyAfter := goodIn_r _ [153, 33, 21, 120, 119, 154, 121, 102, 103, 32, 104, 58, 59, 105, 96, 97, 98, 60, 61, 106, 107, 108, 109, 155, 156, 157, 158, 159, 135, 136, 137, 138, 139, 140, 141, 142, 143, 144, 145, 146, 147, 148, 149, 450, 451, 452, 453, 454, 455, 456, 457, 458, 459, 460, 461, 462, 475, 476, 477, 478, 479, 480, 481, 482] (by decide +kernel) (by decide +kernel)
set_option maxRecDepth 20000 in
theorem gL_lines_X5_emptyAfter : GoodIn wsL_lines (wsV RL 88 RX5 yX5_emptyAfter wsX5_emptyAfter) := goodIn_app (goodIn_of _ (by decide +kernel)) ggL_lines_X5_emptyAfter
set_option maxRecDepth 20000 in
theorem ggL_lines_X5_worn : GoodIn wsL_lines wsX5_worn := goodIn_r _ [163, 164, 21, 120, 165, 166, 167, 3, 168, 169, 170, 171, 172, 33, 119, 121, 102, 103, 32, 104, 58, 59, 105, 96, 97, 98, 60, 61, 106, 107, 108, 109, 173, 174, 175, 176, 177, 178, 179, 180, 126, 127, 128, 129, 130, 131, 132, 133, 134, 135, 136, 137, 138, 139, 140, 141, 142, 143, 144, 145, 146, 147, 148, 149, 450, 451, 452, 453, 454, 455, 456, 457, 458, 459, 460, 461, 462, 475, 476, 477, 478, 479, 480, 481, 482] (by decide +kernel) (by decide +kernel)
set_option maxRecDepth 20000 in
theorem gL_lines_X5_worn : GoodIn wsL_lines (wsV RL 62 RX5 yX5_worn wsX5_worn) := goodIn_app (goodIn_of _ (by decide +kernel)) ggL_lines_X5_worn
set_option maxRecDepth 20000 in
theorem ggL_lines_X5_errors : GoodIn wsL_lines wsX5_errors := goodIn_r _ [184, 164, 21, 185, 186, 187, 140, 188, 189, 190, 191, 154, 192, 166, 167, 3, 168, 193, 194, 195, 20, 196, 99, 38, 197, 198, 139, 141, 199, 200, 201, 202, 203, 52, 204, 205, 206, 207, 208, 209, 210, 211, 54, 212, 53, 51, 213, 214, 215, 216, 450, 451, 452, 453, 454, 455, 456, 457, 458, 459, 460, 461, 462, 475, 476, 477, 478, 479, 480, 481, 482] (by decide +kernel) (by decide +kernel)
set_option maxRecDepth 20000 in
theorem gL_lines_X5_errors : GoodIn wsL_lines (wsV RL 56 RX5 yX5_errors wsX5_errors) := goodIn_app (goodIn_of _ (by decide +kernel)) ggL_lines_X5_errors
set_option maxRecDepth 20000 in
theorem ggL_lines_X5_give : GoodIn wsL_lines wsX5_give := goodIn_r _ [220, 164, 166, 167, 3, 168, 221, 222, 223, 224, 21, 185, 225, 25, 226, 227, 228, 20, 229, 99, 230, 231, 232, 233, 49, 234, 235, 236, 24, 237, 89, 90, 72, 91, 92, 93, 94, 38, 42, 95, 96, 97, 98, 100, 51, 52, 53, 54, 101, 102, 103, 32, 104, 58, 59, 105, 60, 61, 106, 107, 108, 109, 110, 111, 112, 41, 113, 65, 114, 66, 238, 239, 240, 241, 242, 243, 244, 245, 246, 247, 248, 249, 197, 250, 135, 136, 137, 138, 139, 140, 141, 142, 143, 144, 145, 146, 147, 148, 149, 204, 205, 206, 207, 251, 252, 253, 254, 255, 256, 257, 258, 259, 260, 261, 262, 263, 264, 265, 266, 267, 268, 269, 270, 271, 272, 273, 274, 275, 276, 277, 278, 279, 280, 281, 282, 283, 450, 451, 452, 453, 454, 455, 456, 457, 458, 459, 460, 461, 462, 463, 464, 465, 475, 476, 477, 478, 479, 480, 481, 482, 483, 484] (by decide +kernel) (by decide +kernel)
set_option maxRecDepth 20000 in
theorem gL_lines_X5_give : GoodIn wsL_lines (wsV RL 46 RX5 yX5_give wsX5_give) := goodIn_app (goodIn_of _ (by decide +kernel)) ggL_lines_X5_give
set_option maxRecDepth 20000 in
theorem ggL_lines_X5_idle : GoodIn wsL_lines wsX5_idle := goodIn_r _ [287, 164, 166, 167, 3, 168, 221, 222, 223, 224, 21, 185, 225, 25, 226, 227, 228, 20, 229, 99, 230, 231, 232, 233, 49, 234, 235, 236, 24, 237, 89, 90, 72, 91, 92, 93, 94, 38, 42, 95, 96, 97, 98, 100, 51, 52, 53, 54, 101, 102, 103, 32, 104, 58, 59, 105, 60, 61, 106, 107, 108, 109, 110, 111, 112, 41, 113, 65, 114, 66, 238, 239, 240, 241, 242, 243, 244, 245, 246, 247, 248, 249, 197, 250, 135, 136, 137, 138, 139, 140, 141, 142, 143, 144, 145, 146, 147, 148, 149, 204, 205, 206, 207, 251, 252, 253, 254, 255, 256, 257, 258, 259, 260, 261, 262, 263, 264, 265, 266, 267, 268, 269, 270, 271, 272, 273, 274, 275, 276, 277, 278, 279, 280, 281, 282, 283, 450, 451, 452, 453, 454, 455, 456, 457, 458, 459, 460, 461, 462, 463, 464, 465, 475, 476, 477, 478, 479, 480, 481, 482, 483, 484] (by decide +kernel) (by decide +kernel)
set_option maxRecDepth 20000 in
theorem gL_lines_X5_idle : GoodIn wsL_lines (wsV RL 49 RX5 yX5_idle wsX5_idle) := goodIn_app (goodIn_of _ (by decide +kernel)) ggL_lines_X5_idle
set_option maxRecDepth 20000 in
theorem ggL_lines_X5_account : GoodIn wsL_lines wsX5_account := goodIn_r _ [291, 21, 120, 292, 293, 294, 295, 164, 155, 156, 157, 32, 158, 58, 59, 450, 451, 452, 453, 454, 455, 456, 457, 458, 459, 460, 461, 462, 475, 476, 477, 478, 479, 480, 481, 482] (by decide +kernel) (by decide +kernel)
set_option maxRecDepth 20000 in
theorem gL_lines_X5_account : GoodIn wsL_lines (wsV RL 23 RX5 yX5_account wsX5_account) := goodIn_app (goodIn_of _ (by decide +kernel)) ggL_lines_X5_account
set_option maxRecDepth 20000 in
theorem ggL_lines_X5_count : GoodIn wsL_lines wsX5_count := goodIn_r _ [299, 21, 120, 165, 185, 300, 301, 25, 83, 29, 302, 193, 194, 195, 20, 196, 99, 38, 197, 198, 139, 140, 141, 199, 190, 191, 303, 304, 305, 41, 306, 264, 265, 266, 267, 66, 307, 243, 244, 245, 100, 308, 231, 232, 233, 49, 309, 310, 311, 3, 312, 164, 119, 166, 167, 168, 450, 451, 452, 453, 454, 455, 456, 457, 458, 459, 460, 461, 462, 475, 476, 477, 478, 479, 480, 481, 482, 463, 464, 465, 466, 467, 468, 469, 470, 471, 472, 473, 474, 483, 484] (by decide +kernel) (by decide +kernel)
set_option maxRecDepth 20000 in
theorem gL_lines_X5_count : GoodIn wsL_lines (wsV RL 13 RX5 yX5_count wsX5_count) := goodIn_app (goodIn_of _ (by decide +kernel)) ggL_lines_X5_count
set_option maxRecDepth 20000 in
theorem ggL_lines_L_isOutput : GoodIn wsL_lines wsL_isOutput := goodIn_r _ [316, 317, 318, 319, 3, 320, 164, 21, 154, 185, 321, 322, 323, 166, 167, 168, 193, 194, 195, 20, 196, 99, 38, 197, 198, 139, 140, 141, 199, 190, 191, 324, 205, 206, 207, 200, 201, 202, 203, 52, 204, 208, 209, 210, 211, 54, 212, 53, 51, 450, 451, 452, 453, 454, 455, 456, 457, 458, 459, 460, 461, 462, 475, 476, 477, 478, 479, 480, 481, 482] (by rfl) (by decide +kernel)
set_option maxRecDepth 20000 in
theorem gL_lines_L_isOutput : GoodIn wsL_lines (va_wsS RL 91 yL_isOutput wsL_isOutput) := goodIn_app (goodIn_of _ (by decide +kernel)) ggL_lines_L_isOutput
set_option maxRecDepth 20000 in
theorem ggL_lines_X5_stage : GoodIn wsL_lines wsX5_stage := goodIn_r _ [328, 21, 120, 164, 329, 330, 25, 331, 332, 333, 32, 334, 58, 166, 167, 3, 168, 234, 235, 236, 24, 237, 89, 90, 72, 91, 92, 93, 20, 94, 38, 42, 49, 95, 96, 97, 98, 99, 100, 51, 52, 53, 54, 101, 102, 103, 104, 59, 105, 60, 61, 106, 107, 108, 109, 110, 111, 112, 41, 113, 65, 114, 66, 173, 174, 175, 176, 450, 451, 452, 453, 454, 455, 456, 457, 458, 459, 460, 461, 462, 475, 476, 477, 478, 479, 480, 481, 482, 463, 464, 465, 483, 484] (by decide +kernel) (by decide +kernel)
set_option maxRecDepth 20000 in
theorem gL_lines_X5_stage : GoodIn wsL_lines (wsV RL 38 RX5 yX5_stage wsX5_stage) := goodIn_app (goodIn_of _ (by decide +kernel)) ggL_lines_X5_stage
set_option maxRecDepth 20000 in
theorem ggL_lines_X5_begin : GoodIn wsL_lines wsX5_begin := goodIn_r _ [338, 164, 21, 185, 25, 166, 167, 3, 168, 234, 235, 236, 24, 237, 89, 90, 72, 91, 92, 93, 20, 94, 38, 42, 49, 95, 96, 97, 98, 99, 100, 51, 52, 53, 54, 101, 102, 103, 32, 104, 58, 59, 105, 60, 61, 106, 107, 108, 109, 110, 111, 112, 41, 113, 65, 114, 66, 339, 340, 341, 342, 343, 344, 345, 346, 347, 174, 175, 176, 348, 127, 128, 129, 130, 131, 132, 133, 349, 350, 351, 352, 353, 450, 451, 452, 453, 454, 455, 456, 457, 458, 459, 460, 461, 462, 463, 464, 465, 475, 476, 477, 478, 479, 480, 481, 482, 483, 484] (by decide +kernel) (by decide +kernel)
set_option maxRecDepth 20000 in
theorem gL_lines_X5_begin : GoodIn wsL_lines (wsV RL 32 RX5 yX5_begin wsX5_begin) := goodIn_app (goodIn_of _ (by decide +kernel)) ggL_lines_X5_begin
set_option maxRecDepth 20000 in
theorem ggL_lines_X5_stageOf : GoodIn wsL_lines wsX5_stageOf := goodIn_r _ [357, 21, 120, 164, 358, 329, 330, 331, 332, 333, 32, 334, 58, 359, 143, 144, 145, 59, 60, 360, 147, 148, 149, 61, 142, 361, 362, 363, 364, 146, 450, 451, 452, 453, 454, 455, 456, 457, 458, 459, 460, 461, 462, 475, 476, 477, 478, 479, 480, 481, 482] (by decide +kernel) (by decide +kernel)
set_option maxRecDepth 20000 in
theorem gL_lines_X5_stageOf : GoodIn wsL_lines (wsV RL 19 RX5 yX5_stageOf wsX5_stageOf) := goodIn_app (goodIn_of _ (by decide +kernel)) ggL_lines_X5_stageOf
set_option maxRecDepth 20000 in
theorem ggL_lines_X5_echo : GoodIn wsL_lines wsX5_echo := goodIn_r _ [368, 164, 33, 21, 120, 119, 166, 167, 3, 168, 121, 102, 103, 32, 104, 58, 59, 105, 96, 97, 98, 60, 61, 106, 107, 108, 109, 177, 178, 179, 180, 126, 127, 128, 129, 130, 131, 132, 133, 134, 135, 136, 137, 138, 139, 140, 141, 142, 143, 144, 145, 146, 147, 148, 149, 450, 451, 452, 453, 454, 455, 456, 457, 458, 459, 460, 461, 462, 475, 476, 477, 478, 479, 480, 481, 482] (by decide +kernel) (by decide +kernel)
set_option maxRecDepth 20000 in
theorem gL_lines_X5_echo : GoodIn wsL_lines (wsV RL 59 RX5 yX5_echo wsX5_echo) := goodIn_app (goodIn_of _ (by decide +kernel)) ggL_lines_X5_echo
set_option maxRecDepth 20000 in
theorem ggL_lines_X5_set : GoodIn wsL_lines wsX5_set := goodIn_r _ [372, 373, 374, 164, 21, 119, 25, 166, 167, 3, 168, 234, 235, 236, 24, 237, 89, 90, 72, 91, 92, 93, 20, 94, 38, 42, 49, 95, 96, 97, 98, 99, 100, 51, 52, 53, 54, 101, 102, 103, 32, 104, 58, 59, 105, 60, 61, 106, 107, 108, 109, 110, 111, 112, 41, 113, 65, 114, 66, 450, 451, 452, 453, 454, 455, 456, 457, 458, 459, 460, 461, 462, 463, 464, 465, 475, 476, 477, 478, 479, 480, 481, 482, 483, 484] (by decide +kernel) (by decide +kernel)
set_option maxRecDepth 20000 in
theorem gL_lines_X5_set : GoodIn wsL_lines (wsV RL 42 RX5 yX5_set wsX5_set) := goodIn_app (goodIn_of _ (by decide +kernel)) ggL_lines_X5_set
set_option maxRecDepth 20000 in
theorem ggL_lines_L_refused : GoodIn wsL_lines wsL_refused := goodIn_r _ [377, 378, 379, 315, 380, 381, 382, 296, 297, 298, 3, 299, 21, 120, 165, 185, 300, 301, 25, 83, 29, 302, 193, 194, 195, 20, 196, 99, 38, 197, 198, 139, 140, 141, 199, 190, 191, 303, 304, 305, 41, 306, 264, 265, 266, 267, 66, 307, 243, 244, 245, 100, 308, 231, 232, 233, 49, 309, 310, 311, 312, 164, 119, 166, 167, 168, 354, 355, 356, 357, 358, 329, 330, 331, 332, 333, 32, 334, 58, 359, 143, 144, 145, 59, 60, 360, 147, 148, 149, 61, 142, 361, 362, 363, 364, 146, 288, 289, 290, 291, 292, 293, 294, 295, 155, 156, 157, 158, 383, 384, 385, 386, 154, 387, 388, 389, 317, 318, 319, 320, 321, 322, 323, 324, 205, 206, 207, 200, 201, 202, 203, 52, 204, 208, 209, 210, 211, 54, 212, 53, 51, 390, 391, 392, 11, 393, 5, 335, 336, 337, 338, 234, 235, 236, 24, 237, 89, 90, 72, 91, 92, 93, 94, 42, 95, 96, 97, 98, 101, 102, 103, 104, 105, 106, 107, 108, 109, 110, 111, 112, 113, 65, 114, 339, 340, 341, 342, 343, 344, 345, 346, 347, 174, 175, 176, 348, 127, 128, 129, 130, 131, 132, 133, 349, 350, 351, 352, 353, 325, 326, 327, 328, 173, 369, 370, 371, 372, 373, 374, 217, 218, 219, 220, 221, 222, 223, 224, 225, 226, 227, 228, 229, 230, 238, 239, 240, 241, 242, 246, 247, 248, 249, 250, 135, 136, 137, 138, 251, 252, 253, 254, 255, 256, 257, 258, 259, 260, 261, 262, 263, 268, 269, 270, 271, 272, 273, 274, 275, 276, 277, 278, 279, 280, 281, 282, 283, 284, 285, 286, 287, 394, 395, 396, 397, 398, 399, 181, 182, 183, 184, 186, 187, 188, 189, 192, 213, 214, 215, 216, 365, 366, 367, 368, 33, 121, 177, 178, 179, 180, 126, 134, 160, 161, 162, 163, 169, 170, 171, 172, 400, 401, 402, 403, 404, 405, 406, 28, 407, 408, 77, 409, 410, 411, 412, 413, 414, 415, 416, 417, 418, 419, 420, 421, 422, 423, 424, 425, 426, 427, 428, 429, 78, 430, 431, 432, 433, 434, 435, 436, 437, 438, 439, 440, 441, 442, 443, 444, 445, 446, 447, 448, 449, 450, 451, 452, 453, 454, 455, 456, 457, 458, 459, 460, 461, 462, 475, 476, 477, 478, 479, 480, 481, 482, 463, 464, 465, 466, 467, 468, 469, 470, 471, 472, 473, 474, 483, 484] (by rfl) (by decide +kernel)
set_option maxRecDepth 20000 in
theorem gL_lines_L_refused : GoodIn wsL_lines (va_wsS RL 98 yL_refused wsL_refused) := goodIn_app (goodIn_of _ (by decide +kernel)) ggL_lines_L_refused
theorem dL_lines_0 : decode cL_lines 0 = .ok (.new 14, 3) := by decide +kernel
theorem dL_lines_3 : decode cL_lines 3 = .ok (.dup, 1) := by decide +kernel
theorem dL_lines_4 : decode cL_lines 4 = .ok (.invokespecial 79, 3) := by decide +kernel
theorem dL_lines_7 : decode cL_lines 7 = .ok (.astore_n 0, 1) := by decide +kernel
theorem dL_lines_8 : decode cL_lines 8 = .ok (.aload_n 0, 1) := by decide +kernel
theorem dL_lines_9 : decode cL_lines 9 = .ok (.invokevirtual 80, 3) := by decide +kernel
theorem dL_lines_12 : decode cL_lines 12 = .ok (.ldc 84, 2) := by decide +kernel
theorem dL_lines_14 : decode cL_lines 14 = .ok (.if_icmp .ne 167, 3) := by decide +kernel
theorem dL_lines_17 : decode cL_lines 17 = .ok (.aload_n 0, 1) := by decide +kernel
theorem dL_lines_18 : decode cL_lines 18 = .ok (.invokevirtual 85, 3) := by decide +kernel
theorem dL_lines_21 : decode cL_lines 21 = .ok (.sipush 10000, 3) := by decide +kernel
theorem dL_lines_24 : decode cL_lines 24 = .ok (.if_icmp .ne 157, 3) := by decide +kernel
theorem dL_lines_27 : decode cL_lines 27 = .ok (.aload_n 0, 1) := by decide +kernel
theorem dL_lines_28 : decode cL_lines 28 = .ok (.invokevirtual 88, 3) := by decide +kernel
theorem dL_lines_31 : decode cL_lines 31 = .ok (.ifCond .ne 150, 3) := by decide +kernel
theorem dL_lines_34 : decode cL_lines 34 = .ok (.aload_n 0, 1) := by decide +kernel
theorem dL_lines_35 : decode cL_lines 35 = .ok (.iconst 0, 1) := by decide +kernel
theorem dL_lines_36 : decode cL_lines 36 = .ok (.invokevirtual 62, 3) := by decide +kernel
theorem dL_lines_39 : decode cL_lines 39 = .ok (.ifCond .ne 142, 3) := by decide +kernel
theorem dL_lines_42 : decode cL_lines 42 = .ok (.aload_n 0, 1) := by decide +kernel
theorem dL_lines_43 : decode cL_lines 43 = .ok (.iconst 1, 1) := by decide +kernel
theorem dL_lines_44 : decode cL_lines 44 = .ok (.invokevirtual 62, 3) := by decide +kernel
theorem dL_lines_47 : decode cL_lines 47 = .ok (.sipush 10000, 3) := by decide +kernel
theorem dL_lines_50 : decode cL_lines 50 = .ok (.if_icmp .ne 131, 3) := by decide +kernel
theorem dL_lines_53 : decode cL_lines 53 = .ok (.aload_n 0, 1) := by decide +kernel
theorem dL_lines_54 : decode cL_lines 54 = .ok (.iconst 0, 1) := by decide +kernel
theorem dL_lines_55 : decode cL_lines 55 = .ok (.invokevirtual 56, 3) := by decide +kernel
theorem dL_lines_58 : decode cL_lines 58 = .ok (.ifCond .ne 123, 3) := by decide +kernel
theorem dL_lines_61 : decode cL_lines 61 = .ok (.aload_n 0, 1) := by decide +kernel
theorem dL_lines_62 : decode cL_lines 62 = .ok (.iconst 1, 1) := by decide +kernel
theorem dL_lines_63 : decode cL_lines 63 = .ok (.invokevirtual 56, 3) := by decide +kernel
theorem dL_lines_66 : decode cL_lines 66 = .ok (.ldc 52, 2) := by decide +kernel
theorem dL_lines_68 : decode cL_lines 68 = .ok (.if_icmp .ne 113, 3) := by decide +kernel
theorem dL_lines_71 : decode cL_lines 71 = .ok (.aload_n 0, 1) := by decide +kernel
theorem dL_lines_72 : decode cL_lines 72 = .ok (.sipush 1000, 3) := by decide +kernel
theorem dL_lines_75 : decode cL_lines 75 = .ok (.invokevirtual 46, 3) := by decide +kernel
theorem dL_lines_78 : decode cL_lines 78 = .ok (.iconst 1, 1) := by decide +kernel
theorem dL_lines_79 : decode cL_lines 79 = .ok (.if_icmp .ne 102, 3) := by decide +kernel
theorem dL_lines_82 : decode cL_lines 82 = .ok (.aload_n 0, 1) := by decide +kernel
theorem dL_lines_83 : decode cL_lines 83 = .ok (.iconst 3, 1) := by decide +kernel
theorem dL_lines_84 : decode cL_lines 84 = .ok (.invokevirtual 49, 3) := by decide +kernel
theorem dL_lines_87 : decode cL_lines 87 = .ok (.iconst 3, 1) := by decide +kernel
theorem dL_lines_88 : decode cL_lines 88 = .ok (.if_icmp .ne 93, 3) := by decide +kernel
theorem dL_lines_91 : decode cL_lines 91 = .ok (.aload_n 0, 1) := by decide +kernel
theorem dL_lines_92 : decode cL_lines 92 = .ok (.iconst 4, 1) := by decide +kernel
theorem dL_lines_93 : decode cL_lines 93 = .ok (.invokevirtual 23, 3) := by decide +kernel
theorem dL_lines_96 : decode cL_lines 96 = .ok (.sipush 1000, 3) := by decide +kernel
theorem dL_lines_99 : decode cL_lines 99 = .ok (.if_icmp .ne 82, 3) := by decide +kernel
theorem dL_lines_102 : decode cL_lines 102 = .ok (.aload_n 0, 1) := by decide +kernel
theorem dL_lines_103 : decode cL_lines 103 = .ok (.iconst 2, 1) := by decide +kernel
theorem dL_lines_104 : decode cL_lines 104 = .ok (.invokevirtual 13, 3) := by decide +kernel
theorem dL_lines_107 : decode cL_lines 107 = .ok (.ifCond .ne 74, 3) := by decide +kernel
theorem dL_lines_110 : decode cL_lines 110 = .ok (.aload_n 0, 1) := by decide +kernel
theorem dL_lines_111 : decode cL_lines 111 = .ok (.iconst 0, 1) := by decide +kernel
theorem dL_lines_112 : decode cL_lines 112 = .ok (.invokevirtual 46, 3) := by decide +kernel
theorem dL_lines_115 : decode cL_lines 115 = .ok (.iconst 1, 1) := by decide +kernel
theorem dL_lines_116 : decode cL_lines 116 = .ok (.if_icmp .ne 65, 3) := by decide +kernel
theorem dL_lines_119 : decode cL_lines 119 = .ok (.aload_n 0, 1) := by decide +kernel
theorem dL_lines_120 : decode cL_lines 120 = .ok (.iconst 2, 1) := by decide +kernel
theorem dL_lines_121 : decode cL_lines 121 = .ok (.invokevirtual 13, 3) := by decide +kernel
theorem dL_lines_124 : decode cL_lines 124 = .ok (.iconst 1, 1) := by decide +kernel
theorem dL_lines_125 : decode cL_lines 125 = .ok (.if_icmp .ne 56, 3) := by decide +kernel
theorem dL_lines_128 : decode cL_lines 128 = .ok (.aload_n 0, 1) := by decide +kernel
theorem dL_lines_129 : decode cL_lines 129 = .ok (.iconst 0, 1) := by decide +kernel
theorem dL_lines_130 : decode cL_lines 130 = .ok (.iconst 4, 1) := by decide +kernel
theorem dL_lines_131 : decode cL_lines 131 = .ok (.sipush 1000, 3) := by decide +kernel
theorem dL_lines_134 : decode cL_lines 134 = .ok (.sipush 1000, 3) := by decide +kernel
theorem dL_lines_137 : decode cL_lines 137 = .ok (.ldc 52, 2) := by decide +kernel
theorem dL_lines_139 : decode cL_lines 139 = .ok (.iconst 0, 1) := by decide +kernel
theorem dL_lines_140 : decode cL_lines 140 = .ok (.invokestatic 91, 3) := by decide +kernel
theorem dL_lines_143 : decode cL_lines 143 = .ok (.ifCond .eq 38, 3) := by decide +kernel
theorem dL_lines_146 : decode cL_lines 146 = .ok (.aload_n 0, 1) := by decide +kernel
theorem dL_lines_147 : decode cL_lines 147 = .ok (.iconst 0, 1) := by decide +kernel
theorem dL_lines_148 : decode cL_lines 148 = .ok (.invokevirtual 56, 3) := by decide +kernel
theorem dL_lines_151 : decode cL_lines 151 = .ok (.iconst 1, 1) := by decide +kernel
theorem dL_lines_152 : decode cL_lines 152 = .ok (.if_icmp .ne 29, 3) := by decide +kernel
theorem dL_lines_155 : decode cL_lines 155 = .ok (.aload_n 0, 1) := by decide +kernel
theorem dL_lines_156 : decode cL_lines 156 = .ok (.iconst 1, 1) := by decide +kernel
theorem dL_lines_157 : decode cL_lines 157 = .ok (.invokevirtual 56, 3) := by decide +kernel
theorem dL_lines_160 : decode cL_lines 160 = .ok (.ifCond .ne 21, 3) := by decide +kernel
theorem dL_lines_163 : decode cL_lines 163 = .ok (.aload_n 0, 1) := by decide +kernel
theorem dL_lines_164 : decode cL_lines 164 = .ok (.iconst 2, 1) := by decide +kernel
theorem dL_lines_165 : decode cL_lines 165 = .ok (.invokevirtual 56, 3) := by decide +kernel
theorem dL_lines_168 : decode cL_lines 168 = .ok (.ldc 95, 2) := by decide +kernel
theorem dL_lines_170 : decode cL_lines 170 = .ok (.if_icmp .ne 11, 3) := by decide +kernel
theorem dL_lines_173 : decode cL_lines 173 = .ok (.aload_n 0, 1) := by decide +kernel
theorem dL_lines_174 : decode cL_lines 174 = .ok (.iconst 3, 1) := by decide +kernel
theorem dL_lines_175 : decode cL_lines 175 = .ok (.invokevirtual 56, 3) := by decide +kernel
theorem dL_lines_178 : decode cL_lines 178 = .ok (.ifCond .eq 5, 3) := by decide +kernel
theorem dL_lines_181 : decode cL_lines 181 = .ok (.iconst 0, 1) := by decide +kernel
theorem dL_lines_182 : decode cL_lines 182 = .ok (.ireturn, 1) := by decide +kernel
theorem dL_lines_183 : decode cL_lines 183 = .ok (.aload_n 0, 1) := by decide +kernel
theorem dL_lines_184 : decode cL_lines 184 = .ok (.iconst 0, 1) := by decide +kernel
theorem dL_lines_185 : decode cL_lines 185 = .ok (.bipush 100, 2) := by decide +kernel
theorem dL_lines_187 : decode cL_lines 187 = .ok (.iconst 0, 1) := by decide +kernel
theorem dL_lines_188 : decode cL_lines 188 = .ok (.invokevirtual 38, 3) := by decide +kernel
theorem dL_lines_191 : decode cL_lines 191 = .ok (.ifCond .ne 131, 3) := by decide +kernel
theorem dL_lines_194 : decode cL_lines 194 = .ok (.aload_n 0, 1) := by decide +kernel
theorem dL_lines_195 : decode cL_lines 195 = .ok (.iconst 2, 1) := by decide +kernel
theorem dL_lines_196 : decode cL_lines 196 = .ok (.invokevirtual 32, 3) := by decide +kernel
theorem dL_lines_199 : decode cL_lines 199 = .ok (.iconst 5, 1) := by decide +kernel
theorem dL_lines_200 : decode cL_lines 200 = .ok (.if_icmp .ne 122, 3) := by decide +kernel
