set_option maxRecDepth 20000 in
theorem ggL_law_L_lines : GoodIn wsL_law wsL_lines := goodIn_r _ [8, 0, 1, 2, 4, 9, 10, 11, 12, 13, 14, 15, 16, 17, 18, 19, 20, 21, 22, 23, 24, 25, 26, 27, 28, 29, 30, 31, 32, 33, 34, 35, 36, 37, 38, 39, 40, 41, 42, 43, 44, 45, 46, 47, 48, 49, 50, 51, 52, 53, 54, 55, 56, 57, 58, 59, 60, 61, 62, 63, 64, 65, 66, 67, 68, 69, 70, 71, 72, 73, 74, 75, 76, 77, 78, 79, 80, 81, 82, 83, 84, 85, 86, 87, 88, 89, 90, 91, 92, 93, 94, 95, 96, 97, 98, 99, 100, 101, 102, 103, 104, 105, 106, 107, 108, 109, 110, 111, 112, 113, 114, 115, 116, 117, 118, 119, 120, 121, 122, 123, 124, 125, 126, 127, 128, 129, 130, 131, 132, 133, 134, 135, 136, 137, 138, 139, 140, 141, 142, 143, 144, 145, 146, 147, 148, 149, 150, 151, 152, 153, 154, 155, 156, 157, 158, 159, 160, 161, 162, 163, 164, 165, 166, 167, 168, 169, 170, 171, 172, 173, 174, 175, 176, 177, 178, 179, 180, 181, 182, 183, 184, 185, 186, 187, 188, 189, 190, 191, 192, 193, 194, 195, 196, 197, 198, 199, 200, 201, 202, 203, 204, 205, 206, 207, 208, 209, 210, 211, 212, 213, 214, 215, 216, 217, 218, 219, 220, 221, 222, 223, 224, 225, 226, 227, 228, 229, 230, 231, 232, 233, 234, 235, 236, 237, 238, 239, 240, 241, 242, 243, 244, 245, 246, 247, 248, 249, 250, 251, 252, 253, 254, 255, 256, 257, 258, 259, 260, 261, 262, 263, 264, 265, 266, 267, 268, 269, 270, 271, 272, 273, 274, 275, 276, 277, 278, 279, 280, 281, 282, 283, 284, 285, 286, 287, 288, 289, 290, 291, 292, 293, 294, 295, 296, 297, 298, 299, 300, 301, 302, 303, 304, 305, 306, 307, 308, 309, 310, 311, 312, 313, 314, 315, 316, 317, 318, 7, 319, 320, 321, 322, 323, 324, 325, 326, 327, 328, 329, 330, 331, 332, 333, 334, 335, 336, 337, 338, 339, 340, 341, 342, 343, 344, 345, 346, 347, 348, 349, 350, 351, 352, 353, 354, 355, 356, 357, 358, 359, 360, 361, 362, 363, 364, 365, 366, 367, 368, 369, 370, 371, 372, 373, 374, 375, 376, 377, 378, 379, 380, 381, 382, 383, 384, 385, 386, 387, 388, 389, 390, 391, 392, 393, 394, 395, 396, 397, 398, 399, 400, 401, 402, 403, 404, 405, 406, 407, 408, 409, 410, 411, 412, 413, 414, 415, 416, 417, 418, 419, 420, 421, 422, 423, 424, 425, 426, 427, 428, 429, 430, 431, 432, 433, 434, 435, 436, 437, 438, 439, 440, 441, 442, 443, 444, 445, 446, 447, 448, 449, 450, 451, 452, 524, 525, 526, 527, 528, 529, 530, 531, 532, 533, 534, 535, 536, 537, 538, 539, 540, 541, 542, 543, 544, 545, 546, 547, 548, 549, 550, 551, 552, 553, 554, 555, 556, 557, 558] (by rfl) (by decide +kernel)
set_option maxRecDepth 20000 in
theorem gL_law_L_lines : GoodIn wsL_law (va_wsS RL 172 yL_lines wsL_lines) := goodIn_app (goodIn_of _ (by decide +kernel)) ggL_law_L_lines
set_option maxRecDepth 20000 in
theorem ggL_law_L_references : GoodIn wsL_law wsL_references := goodIn_r _ [455, 0, 1, 2, 9, 13, 456, 457, 458, 459, 16, 17, 18, 19, 20, 21, 22, 23, 24, 25, 26, 27, 28, 29, 30, 31, 32, 33, 34, 35, 36, 37, 38, 39, 40, 41, 42, 43, 44, 45, 46, 47, 48, 49, 50, 51, 52, 53, 54, 55, 56, 57, 58, 59, 60, 61, 62, 63, 64, 65, 66, 67, 68, 69, 70, 71, 72, 73, 74, 75, 76, 77, 78, 79, 80, 81, 82, 338, 339, 340, 341, 168, 189, 170, 171, 172, 238, 239, 240, 241, 93, 94, 95, 96, 97, 98, 99, 100, 101, 102, 103, 104, 105, 106, 107, 108, 109, 110, 111, 112, 113, 114, 115, 116, 117, 118, 342, 343, 344, 345, 346, 347, 348, 349, 350, 178, 179, 180, 351, 131, 132, 133, 134, 135, 136, 137, 352, 353, 354, 355, 356, 372, 373, 374, 375, 376, 377, 123, 300, 301, 302, 303, 124, 169, 304, 305, 87, 306, 197, 198, 199, 200, 201, 202, 143, 144, 145, 203, 194, 195, 307, 308, 309, 310, 268, 269, 270, 271, 311, 247, 248, 249, 312, 235, 236, 237, 313, 314, 315, 316, 397, 398, 399, 400, 401, 402, 264, 265, 266, 267, 272, 273, 274, 275, 276, 277, 278, 279, 280, 281, 282, 283, 284, 285, 286, 287, 221, 222, 223, 224, 225, 226, 227, 228, 229, 230, 231, 232, 233, 234, 242, 243, 244, 245, 246, 250, 251, 252, 253, 254, 139, 140, 141, 142, 146, 147, 148, 149, 150, 151, 152, 153, 208, 209, 210, 211, 255, 256, 257, 258, 259, 260, 261, 262, 263, 317, 318, 7, 319, 320, 321, 322, 323, 158, 324, 325, 326, 327, 204, 205, 206, 207, 212, 213, 214, 215, 216, 386, 387, 388, 389, 390, 391, 392, 185, 186, 187, 188, 190, 191, 192, 193, 196, 217, 218, 219, 220, 328, 329, 330, 331, 332, 333, 334, 335, 336, 337, 177, 378, 379, 380, 381, 382, 383, 384, 385, 357, 358, 359, 360, 361, 362, 363, 364, 365, 366, 367, 292, 293, 294, 295, 296, 297, 298, 299, 159, 160, 161, 162, 393, 394, 395, 15, 396, 288, 289, 290, 291, 368, 369, 370, 371, 125, 181, 182, 183, 184, 130, 138, 164, 165, 166, 167, 173, 174, 175, 176, 403, 404, 405, 406, 407, 408, 409, 410, 411, 412, 413, 414, 415, 416, 417, 418, 419, 420, 421, 422, 423, 424, 425, 426, 427, 428, 429, 430, 431, 432, 433, 434, 435, 436, 437, 438, 439, 440, 441, 442, 443, 444, 445, 446, 447, 448, 449, 450, 451, 452, 524, 525, 526, 527, 528, 529, 530, 531, 532, 533, 534, 535, 536, 537, 538, 539, 540, 541, 542, 543, 544, 545, 546, 547, 548, 549, 550, 551, 552, 553, 554, 555, 556, 557, 558] (by rfl) (by decide +kernel)
set_option maxRecDepth 20000 in
theorem gL_law_L_references : GoodIn wsL_law (va_wsS RL 176 yL_references wsL_references) := goodIn_app (goodIn_of _ (by decide +kernel)) ggL_law_L_references
set_option maxRecDepth 20000 in
theorem ggL_law_L_texts : GoodIn wsL_law wsL_texts := goodIn_r _ [462, 9, 463, 464, 465, 466, 467, 468, 469, 470, 471, 472, 473, 474, 475, 476, 477, 478, 479, 480, 481, 482, 483, 0, 1, 2, 484, 485, 486, 14, 15, 487, 488, 7, 489, 4, 16, 17, 18, 19, 20, 21, 22, 23, 24, 25, 26, 27, 28, 29, 30, 31, 32, 33, 34, 35, 36, 37, 38, 39, 40, 41, 42, 43, 44, 45, 46, 47, 48, 49, 50, 51, 52, 53, 54, 55, 56, 57, 58, 59, 60, 61, 62, 63, 64, 65, 66, 67, 68, 69, 70, 71, 72, 73, 74, 75, 76, 77, 78, 79, 80, 81, 82, 490, 491, 492, 493, 403, 404, 405, 406, 168, 306, 229, 170, 171, 172, 407, 408, 409, 410, 411, 412, 413, 414, 415, 124, 169, 158, 416, 417, 418, 419, 420, 421, 422, 423, 424, 425, 426, 427, 428, 429, 430, 431, 432, 433, 434, 435, 436, 437, 438, 439, 440, 441, 442, 443, 444, 445, 446, 447, 448, 449, 450, 451, 452, 494, 495, 496, 497, 88, 498, 499, 500, 230, 231, 232, 233, 103, 234, 235, 236, 237, 238, 239, 240, 241, 93, 94, 95, 96, 97, 98, 99, 100, 101, 102, 104, 105, 106, 107, 108, 109, 110, 111, 112, 113, 114, 115, 116, 117, 118, 501, 502, 503, 504, 505, 506, 507, 242, 243, 244, 245, 246, 247, 248, 249, 250, 251, 252, 253, 201, 254, 139, 140, 141, 142, 143, 144, 145, 146, 147, 148, 149, 150, 151, 152, 153, 208, 209, 210, 211, 255, 256, 257, 258, 259, 260, 261, 262, 263, 264, 265, 266, 267, 268, 269, 270, 271, 272, 273, 274, 275, 276, 277, 278, 279, 280, 281, 282, 283, 284, 285, 286, 287, 334, 335, 336, 337, 177, 178, 179, 180, 300, 301, 302, 303, 189, 304, 305, 87, 197, 198, 199, 200, 202, 203, 194, 195, 307, 308, 309, 310, 311, 312, 313, 314, 315, 316, 123, 357, 358, 359, 360, 361, 332, 333, 362, 363, 364, 365, 366, 367, 83, 84, 85, 86, 89, 90, 91, 92, 508, 509, 510, 511, 512, 513, 514, 515, 524, 525, 526, 527, 528, 529, 530, 531, 532, 533, 534, 535, 536, 537, 538, 539, 540, 541, 542, 543, 544, 545, 546, 547, 548, 549, 550, 551, 552, 553, 554, 555, 556, 557, 558] (by rfl) (by decide +kernel)
set_option maxRecDepth 20000 in
theorem gL_law_L_texts : GoodIn wsL_law (va_wsS RL 179 yL_texts wsL_texts) := goodIn_app (goodIn_of _ (by decide +kernel)) ggL_law_L_texts
set_option maxRecDepth 20000 in
theorem ggL_law_X5_init : GoodIn wsL_law wsX5_init := goodIn_r _ [18, 19, 20, 21, 22, 23, 24, 25, 26, 27, 28, 29, 30, 31, 32, 33, 34, 35, 36, 37, 38, 39, 40, 41, 42, 43, 44, 45, 46, 47, 48, 49, 50, 51, 52, 53, 54, 55, 56, 57, 58, 59, 60, 61, 62, 63, 64, 65, 66, 67, 68, 69, 70, 71, 72, 73, 74, 75, 76, 77, 78, 79, 80, 81, 82, 528, 529, 530, 531, 532, 533, 534, 535, 536, 524, 525, 526, 527, 537, 538, 539, 540, 541, 542, 543, 544, 545, 546, 547, 548, 549, 550, 551, 552, 553, 554, 555, 556, 557, 558] (by decide +kernel) (by decide +kernel)
set_option maxRecDepth 20000 in
theorem gL_law_X5_init : GoodIn wsL_law (wsX5_init) := ggL_law_X5_init
set_option maxRecDepth 20000 in
theorem ggL_law_L_drawn : GoodIn wsL_law wsL_drawn := goodIn_r _ [518, 519] (by rfl) (by decide +kernel)
set_option maxRecDepth 20000 in
theorem gL_law_L_drawn : GoodIn wsL_law (va_wsS RL 182 yL_drawn wsL_drawn) := goodIn_app (goodIn_of _ (by decide +kernel)) ggL_law_L_drawn
set_option maxRecDepth 20000 in
theorem ggL_law_L_part : GoodIn wsL_law wsL_part := goodIn_r _ [522, 523] (by rfl) (by decide +kernel)
set_option maxRecDepth 20000 in
theorem gL_law_L_part : GoodIn wsL_law (va_wsS RL 186 yL_part wsL_part) := goodIn_app (goodIn_of _ (by decide +kernel)) ggL_law_L_part
set_option maxRecDepth 20000 in
theorem ggL_law_L_seen : GoodIn wsL_law wsL_seen := goodIn_r _ [383, 384, 385, 300, 301, 302, 2, 303, 25, 124, 169, 189, 304, 305, 29, 87, 33, 306, 197, 198, 199, 24, 200, 103, 42, 201, 202, 143, 144, 145, 203, 194, 195, 307, 308, 309, 45, 310, 268, 269, 270, 271, 70, 311, 247, 248, 249, 104, 312, 235, 236, 237, 53, 313, 314, 315, 316, 168, 123, 170, 171, 172, 357, 358, 359, 360, 361, 332, 333, 334, 335, 336, 36, 337, 62, 362, 147, 148, 149, 63, 64, 363, 151, 152, 153, 65, 146, 364, 365, 366, 367, 150, 292, 293, 294, 295, 296, 297, 298, 299, 159, 160, 161, 162, 386, 387, 388, 389, 158, 390, 391, 392, 320, 321, 322, 323, 324, 325, 326, 327, 209, 210, 211, 204, 205, 206, 207, 56, 208, 212, 213, 214, 215, 58, 216, 57, 55, 524, 525, 526, 527, 528, 529, 530, 531, 532, 533, 534, 535, 536, 549, 550, 551, 552, 553, 554, 555, 556, 537, 538, 539, 540, 541, 542, 543, 544, 545, 546, 547, 548, 557, 558] (by rfl) (by decide +kernel)
set_option maxRecDepth 20000 in
theorem gL_law_L_seen : GoodIn wsL_law (va_wsS RL 71 yL_seen wsL_seen) := goodIn_app (goodIn_of _ (by decide +kernel)) ggL_law_L_seen
set_option maxRecDepth 20000 in
theorem ggL_law_X5_count : GoodIn wsL_law wsX5_count := goodIn_r _ [303, 25, 124, 169, 189, 304, 305, 29, 87, 33, 306, 197, 198, 199, 24, 200, 103, 42, 201, 202, 143, 144, 145, 203, 194, 195, 307, 308, 309, 45, 310, 268, 269, 270, 271, 70, 311, 247, 248, 249, 104, 312, 235, 236, 237, 53, 313, 314, 315, 2, 316, 168, 123, 170, 171, 172, 524, 525, 526, 527, 528, 529, 530, 531, 532, 533, 534, 535, 536, 549, 550, 551, 552, 553, 554, 555, 556, 537, 538, 539, 540, 541, 542, 543, 544, 545, 546, 547, 548, 557, 558] (by decide +kernel) (by decide +kernel)
set_option maxRecDepth 20000 in
theorem gL_law_X5_count : GoodIn wsL_law (wsV RL 13 RX5 yX5_count wsX5_count) := goodIn_app (goodIn_of _ (by decide +kernel)) ggL_law_X5_count
set_option maxRecDepth 20000 in
theorem ggL_law_X5_begin : GoodIn wsL_law wsX5_begin := goodIn_r _ [341, 168, 25, 189, 29, 170, 171, 2, 172, 238, 239, 240, 28, 241, 93, 94, 76, 95, 96, 97, 24, 98, 42, 46, 53, 99, 100, 101, 102, 103, 104, 55, 56, 57, 58, 105, 106, 107, 36, 108, 62, 63, 109, 64, 65, 110, 111, 112, 113, 114, 115, 116, 45, 117, 69, 118, 70, 342, 343, 344, 345, 346, 347, 348, 349, 350, 178, 179, 180, 351, 131, 132, 133, 134, 135, 136, 137, 352, 353, 354, 355, 356, 524, 525, 526, 527, 528, 529, 530, 531, 532, 533, 534, 535, 536, 537, 538, 539, 549, 550, 551, 552, 553, 554, 555, 556, 557, 558] (by decide +kernel) (by decide +kernel)
set_option maxRecDepth 20000 in
theorem gL_law_X5_begin : GoodIn wsL_law (wsV RL 32 RX5 yX5_begin wsX5_begin) := goodIn_app (goodIn_of _ (by decide +kernel)) ggL_law_X5_begin
set_option maxRecDepth 20000 in
theorem ggL_law_X5_idle : GoodIn wsL_law wsX5_idle := goodIn_r _ [291, 168, 170, 171, 2, 172, 225, 226, 227, 228, 25, 189, 229, 29, 230, 231, 232, 24, 233, 103, 234, 235, 236, 237, 53, 238, 239, 240, 28, 241, 93, 94, 76, 95, 96, 97, 98, 42, 46, 99, 100, 101, 102, 104, 55, 56, 57, 58, 105, 106, 107, 36, 108, 62, 63, 109, 64, 65, 110, 111, 112, 113, 114, 115, 116, 45, 117, 69, 118, 70, 242, 243, 244, 245, 246, 247, 248, 249, 250, 251, 252, 253, 201, 254, 139, 140, 141, 142, 143, 144, 145, 146, 147, 148, 149, 150, 151, 152, 153, 208, 209, 210, 211, 255, 256, 257, 258, 259, 260, 261, 262, 263, 264, 265, 266, 267, 268, 269, 270, 271, 272, 273, 274, 275, 276, 277, 278, 279, 280, 281, 282, 283, 284, 285, 286, 287, 524, 525, 526, 527, 528, 529, 530, 531, 532, 533, 534, 535, 536, 537, 538, 539, 549, 550, 551, 552, 553, 554, 555, 556, 557, 558] (by decide +kernel) (by decide +kernel)
set_option maxRecDepth 20000 in
theorem gL_law_X5_idle : GoodIn wsL_law (wsV RL 49 RX5 yX5_idle wsX5_idle) := goodIn_app (goodIn_of _ (by decide +kernel)) ggL_law_X5_idle
set_option maxRecDepth 20000 in
theorem ggL_law_X5_stage : GoodIn wsL_law wsX5_stage := goodIn_r _ [331, 25, 124, 168, 332, 333, 29, 334, 335, 336, 36, 337, 62, 170, 171, 2, 172, 238, 239, 240, 28, 241, 93, 94, 76, 95, 96, 97, 24, 98, 42, 46, 53, 99, 100, 101, 102, 103, 104, 55, 56, 57, 58, 105, 106, 107, 108, 63, 109, 64, 65, 110, 111, 112, 113, 114, 115, 116, 45, 117, 69, 118, 70, 177, 178, 179, 180, 524, 525, 526, 527, 528, 529, 530, 531, 532, 533, 534, 535, 536, 549, 550, 551, 552, 553, 554, 555, 556, 537, 538, 539, 557, 558] (by decide +kernel) (by decide +kernel)
set_option maxRecDepth 20000 in
theorem gL_law_X5_stage : GoodIn wsL_law (wsV RL 38 RX5 yX5_stage wsX5_stage) := goodIn_app (goodIn_of _ (by decide +kernel)) ggL_law_X5_stage
set_option maxRecDepth 20000 in
theorem ggL_law_X5_set : GoodIn wsL_law wsX5_set := goodIn_r _ [375, 376, 377, 168, 25, 123, 29, 170, 171, 2, 172, 238, 239, 240, 28, 241, 93, 94, 76, 95, 96, 97, 24, 98, 42, 46, 53, 99, 100, 101, 102, 103, 104, 55, 56, 57, 58, 105, 106, 107, 36, 108, 62, 63, 109, 64, 65, 110, 111, 112, 113, 114, 115, 116, 45, 117, 69, 118, 70, 524, 525, 526, 527, 528, 529, 530, 531, 532, 533, 534, 535, 536, 537, 538, 539, 549, 550, 551, 552, 553, 554, 555, 556, 557, 558] (by decide +kernel) (by decide +kernel)
set_option maxRecDepth 20000 in
theorem gL_law_X5_set : GoodIn wsL_law (wsV RL 42 RX5 yX5_set wsX5_set) := goodIn_app (goodIn_of _ (by decide +kernel)) ggL_law_X5_set
set_option maxRecDepth 20000 in
theorem ggL_law_X5_give : GoodIn wsL_law wsX5_give := goodIn_r _ [224, 168, 170, 171, 2, 172, 225, 226, 227, 228, 25, 189, 229, 29, 230, 231, 232, 24, 233, 103, 234, 235, 236, 237, 53, 238, 239, 240, 28, 241, 93, 94, 76, 95, 96, 97, 98, 42, 46, 99, 100, 101, 102, 104, 55, 56, 57, 58, 105, 106, 107, 36, 108, 62, 63, 109, 64, 65, 110, 111, 112, 113, 114, 115, 116, 45, 117, 69, 118, 70, 242, 243, 244, 245, 246, 247, 248, 249, 250, 251, 252, 253, 201, 254, 139, 140, 141, 142, 143, 144, 145, 146, 147, 148, 149, 150, 151, 152, 153, 208, 209, 210, 211, 255, 256, 257, 258, 259, 260, 261, 262, 263, 264, 265, 266, 267, 268, 269, 270, 271, 272, 273, 274, 275, 276, 277, 278, 279, 280, 281, 282, 283, 284, 285, 286, 287, 524, 525, 526, 527, 528, 529, 530, 531, 532, 533, 534, 535, 536, 537, 538, 539, 549, 550, 551, 552, 553, 554, 555, 556, 557, 558] (by decide +kernel) (by decide +kernel)
set_option maxRecDepth 20000 in
theorem gL_law_X5_give : GoodIn wsL_law (wsV RL 46 RX5 yX5_give wsX5_give) := goodIn_app (goodIn_of _ (by decide +kernel)) ggL_law_X5_give
set_option maxRecDepth 20000 in
theorem ggL_law_L_refused : GoodIn wsL_law wsL_refused := goodIn_r _ [380, 381, 382, 7, 383, 384, 385, 300, 301, 302, 2, 303, 25, 124, 169, 189, 304, 305, 29, 87, 33, 306, 197, 198, 199, 24, 200, 103, 42, 201, 202, 143, 144, 145, 203, 194, 195, 307, 308, 309, 45, 310, 268, 269, 270, 271, 70, 311, 247, 248, 249, 104, 312, 235, 236, 237, 53, 313, 314, 315, 316, 168, 123, 170, 171, 172, 357, 358, 359, 360, 361, 332, 333, 334, 335, 336, 36, 337, 62, 362, 147, 148, 149, 63, 64, 363, 151, 152, 153, 65, 146, 364, 365, 366, 367, 150, 292, 293, 294, 295, 296, 297, 298, 299, 159, 160, 161, 162, 386, 387, 388, 389, 158, 390, 391, 392, 320, 321, 322, 323, 324, 325, 326, 327, 209, 210, 211, 204, 205, 206, 207, 56, 208, 212, 213, 214, 215, 58, 216, 57, 55, 393, 394, 395, 15, 396, 9, 338, 339, 340, 341, 238, 239, 240, 28, 241, 93, 94, 76, 95, 96, 97, 98, 46, 99, 100, 101, 102, 105, 106, 107, 108, 109, 110, 111, 112, 113, 114, 115, 116, 117, 69, 118, 342, 343, 344, 345, 346, 347, 348, 349, 350, 178, 179, 180, 351, 131, 132, 133, 134, 135, 136, 137, 352, 353, 354, 355, 356, 328, 329, 330, 331, 177, 372, 373, 374, 375, 376, 377, 221, 222, 223, 224, 225, 226, 227, 228, 229, 230, 231, 232, 233, 234, 242, 243, 244, 245, 246, 250, 251, 252, 253, 254, 139, 140, 141, 142, 255, 256, 257, 258, 259, 260, 261, 262, 263, 264, 265, 266, 267, 272, 273, 274, 275, 276, 277, 278, 279, 280, 281, 282, 283, 284, 285, 286, 287, 288, 289, 290, 291, 397, 398, 399, 400, 401, 402, 185, 186, 187, 188, 190, 191, 192, 193, 196, 217, 218, 219, 220, 368, 369, 370, 371, 37, 125, 181, 182, 183, 184, 130, 138, 164, 165, 166, 167, 173, 174, 175, 176, 403, 404, 405, 406, 407, 408, 409, 32, 410, 411, 81, 412, 413, 414, 415, 416, 417, 418, 419, 420, 421, 422, 423, 424, 425, 426, 427, 428, 429, 430, 431, 432, 82, 433, 434, 435, 436, 437, 438, 439, 440, 441, 442, 443, 444, 445, 446, 447, 448, 449, 450, 451, 452, 524, 525, 526, 527, 528, 529, 530, 531, 532, 533, 534, 535, 536, 549, 550, 551, 552, 553, 554, 555, 556, 537, 538, 539, 540, 541, 542, 543, 544, 545, 546, 547, 548, 557, 558] (by rfl) (by decide +kernel)
set_option maxRecDepth 20000 in
theorem gL_law_L_refused : GoodIn wsL_law (va_wsS RL 98 yL_refused wsL_refused) := goodIn_app (goodIn_of _ (by decide +kernel)) ggL_law_L_refused
set_option maxRecDepth 20000 in
theorem ggL_law_X5_undo : GoodIn wsL_law wsX5_undo := goodIn_r _ [86, 29, 87, 88, 25, 89, 90, 91, 28, 92, 93, 76, 94, 95, 96, 97, 24, 98, 42, 46, 53, 99, 100, 101, 102, 103, 104, 55, 56, 57, 58, 105, 106, 107, 36, 108, 62, 63, 109, 64, 65, 110, 111, 112, 113, 114, 115, 116, 45, 117, 69, 118, 70, 524, 525, 526, 527, 537, 538, 539, 528, 529, 530, 531, 532, 533, 534, 535, 536, 549, 550, 551, 552, 553, 554, 555, 556, 557, 558] (by decide +kernel) (by decide +kernel)
set_option maxRecDepth 20000 in
theorem gL_law_X5_undo : GoodIn wsL_law (wsV RL 80 RX5 yX5_undo wsX5_undo) := goodIn_app (goodIn_of _ (by decide +kernel)) ggL_law_X5_undo
theorem dL_law_0 : decode cL_law 0 = .ok (.invokestatic 172, 3) := by decide +kernel
theorem dL_law_3 : decode cL_law 3 = .ok (.ifCond .eq 15, 3) := by decide +kernel
theorem dL_law_6 : decode cL_law 6 = .ok (.invokestatic 176, 3) := by decide +kernel
theorem dL_law_9 : decode cL_law 9 = .ok (.ifCond .eq 9, 3) := by decide +kernel
theorem dL_law_12 : decode cL_law 12 = .ok (.invokestatic 179, 3) := by decide +kernel
theorem dL_law_15 : decode cL_law 15 = .ok (.ifCond .ne 5, 3) := by decide +kernel
theorem dL_law_18 : decode cL_law 18 = .ok (.iconst 0, 1) := by decide +kernel
theorem dL_law_19 : decode cL_law 19 = .ok (.ireturn, 1) := by decide +kernel
theorem dL_law_20 : decode cL_law 20 = .ok (.new 14, 3) := by decide +kernel
theorem dL_law_23 : decode cL_law 23 = .ok (.dup, 1) := by decide +kernel
theorem dL_law_24 : decode cL_law 24 = .ok (.invokespecial 79, 3) := by decide +kernel
theorem dL_law_27 : decode cL_law 27 = .ok (.astore_n 1, 1) := by decide +kernel
theorem dL_law_28 : decode cL_law 28 = .ok (.bipush 64, 2) := by decide +kernel
theorem dL_law_30 : decode cL_law 30 = .ok (.newarray .long, 2) := by decide +kernel
theorem dL_law_32 : decode cL_law 32 = .ok (.astore_n 2, 1) := by decide +kernel
theorem dL_law_33 : decode cL_law 33 = .ok (.iconst 0, 1) := by decide +kernel
theorem dL_law_34 : decode cL_law 34 = .ok (.istore_n 3, 1) := by decide +kernel
theorem dL_law_35 : decode cL_law 35 = .ok (.iconst 0, 1) := by decide +kernel
theorem dL_law_36 : decode cL_law 36 = .ok (.istore 4, 2) := by decide +kernel
theorem dL_law_38 : decode cL_law 38 = .ok (.iload 4, 2) := by decide +kernel
theorem dL_law_40 : decode cL_law 40 = .ok (.bipush 24, 2) := by decide +kernel
theorem dL_law_42 : decode cL_law 42 = .ok (.if_icmp .ge 284, 3) := by decide +kernel
theorem dL_law_45 : decode cL_law 45 = .ok (.aload_n 0, 1) := by decide +kernel
theorem dL_law_46 : decode cL_law 46 = .ok (.iload 4, 2) := by decide +kernel
theorem dL_law_48 : decode cL_law 48 = .ok (.invokestatic 182, 3) := by decide +kernel
theorem dL_law_51 : decode cL_law 51 = .ok (.istore 5, 2) := by decide +kernel
theorem dL_law_53 : decode cL_law 53 = .ok (.iload 5, 2) := by decide +kernel
theorem dL_law_55 : decode cL_law 55 = .ok (.bipush 9, 2) := by decide +kernel
theorem dL_law_57 : decode cL_law 57 = .ok (.invokestatic 186, 3) := by decide +kernel
theorem dL_law_60 : decode cL_law 60 = .ok (.istore 6, 2) := by decide +kernel
theorem dL_law_62 : decode cL_law 62 = .ok (.aload_n 2, 1) := by decide +kernel
theorem dL_law_63 : decode cL_law 63 = .ok (.iload_n 3, 1) := by decide +kernel
theorem dL_law_64 : decode cL_law 64 = .ok (.aload_n 1, 1) := by decide +kernel
theorem dL_law_65 : decode cL_law 65 = .ok (.invokestatic 71, 3) := by decide +kernel
theorem dL_law_68 : decode cL_law 68 = .ok (.lastore, 1) := by decide +kernel
theorem dL_law_69 : decode cL_law 69 = .ok (.aload_n 1, 1) := by decide +kernel
theorem dL_law_70 : decode cL_law 70 = .ok (.bipush 7, 2) := by decide +kernel
theorem dL_law_72 : decode cL_law 72 = .ok (.invokevirtual 13, 3) := by decide +kernel
theorem dL_law_75 : decode cL_law 75 = .ok (.istore 7, 2) := by decide +kernel
theorem dL_law_77 : decode cL_law 77 = .ok (.iload 6, 2) := by decide +kernel
theorem dL_law_79 : decode cL_law 79 = .ok (.ifCond .ne 52, 3) := by decide +kernel
theorem dL_law_82 : decode cL_law 82 = .ok (.iload 5, 2) := by decide +kernel
theorem dL_law_84 : decode cL_law 84 = .ok (.iconst 4, 1) := by decide +kernel
theorem dL_law_85 : decode cL_law 85 = .ok (.ishr, 1) := by decide +kernel
theorem dL_law_86 : decode cL_law 86 = .ok (.iconst 3, 1) := by decide +kernel
theorem dL_law_87 : decode cL_law 87 = .ok (.invokestatic 186, 3) := by decide +kernel
theorem dL_law_90 : decode cL_law 90 = .ok (.ifCond .ne 22, 3) := by decide +kernel
theorem dL_law_93 : decode cL_law 93 = .ok (.aload_n 1, 1) := by decide +kernel
theorem dL_law_94 : decode cL_law 94 = .ok (.iconst 2, 1) := by decide +kernel
theorem dL_law_95 : decode cL_law 95 = .ok (.iload 5, 2) := by decide +kernel
theorem dL_law_97 : decode cL_law 97 = .ok (.bipush 6, 2) := by decide +kernel
theorem dL_law_99 : decode cL_law 99 = .ok (.ishr, 1) := by decide +kernel
theorem dL_law_100 : decode cL_law 100 = .ok (.bipush 9, 2) := by decide +kernel
theorem dL_law_102 : decode cL_law 102 = .ok (.invokestatic 186, 3) := by decide +kernel
theorem dL_law_105 : decode cL_law 105 = .ok (.iadd, 1) := by decide +kernel
theorem dL_law_106 : decode cL_law 106 = .ok (.invokevirtual 32, 3) := by decide +kernel
theorem dL_law_109 : decode cL_law 109 = .ok (.goto 167, 3) := by decide +kernel
theorem dL_law_112 : decode cL_law 112 = .ok (.aload_n 1, 1) := by decide +kernel
theorem dL_law_113 : decode cL_law 113 = .ok (.iconst 1, 1) := by decide +kernel
theorem dL_law_114 : decode cL_law 114 = .ok (.iload 5, 2) := by decide +kernel
theorem dL_law_116 : decode cL_law 116 = .ok (.bipush 6, 2) := by decide +kernel
theorem dL_law_118 : decode cL_law 118 = .ok (.ishr, 1) := by decide +kernel
theorem dL_law_119 : decode cL_law 119 = .ok (.bipush 12, 2) := by decide +kernel
theorem dL_law_121 : decode cL_law 121 = .ok (.invokestatic 186, 3) := by decide +kernel
theorem dL_law_124 : decode cL_law 124 = .ok (.iadd, 1) := by decide +kernel
theorem dL_law_125 : decode cL_law 125 = .ok (.invokevirtual 49, 3) := by decide +kernel
theorem dL_law_128 : decode cL_law 128 = .ok (.goto 148, 3) := by decide +kernel
theorem dL_law_131 : decode cL_law 131 = .ok (.iload 6, 2) := by decide +kernel
theorem dL_law_133 : decode cL_law 133 = .ok (.iconst 1, 1) := by decide +kernel
theorem dL_law_134 : decode cL_law 134 = .ok (.if_icmp .ne 41, 3) := by decide +kernel
theorem dL_law_137 : decode cL_law 137 = .ok (.aload_n 1, 1) := by decide +kernel
theorem dL_law_138 : decode cL_law 138 = .ok (.iload 5, 2) := by decide +kernel
theorem dL_law_140 : decode cL_law 140 = .ok (.iconst 4, 1) := by decide +kernel
theorem dL_law_141 : decode cL_law 141 = .ok (.ishr, 1) := by decide +kernel
theorem dL_law_142 : decode cL_law 142 = .ok (.bipush 10, 2) := by decide +kernel
theorem dL_law_144 : decode cL_law 144 = .ok (.invokestatic 186, 3) := by decide +kernel
theorem dL_law_147 : decode cL_law 147 = .ok (.iload 5, 2) := by decide +kernel
theorem dL_law_149 : decode cL_law 149 = .ok (.bipush 8, 2) := by decide +kernel
theorem dL_law_151 : decode cL_law 151 = .ok (.ishr, 1) := by decide +kernel
theorem dL_law_152 : decode cL_law 152 = .ok (.sipush 301, 3) := by decide +kernel
theorem dL_law_155 : decode cL_law 155 = .ok (.invokestatic 186, 3) := by decide +kernel
theorem dL_law_158 : decode cL_law 158 = .ok (.iload 5, 2) := by decide +kernel
theorem dL_law_160 : decode cL_law 160 = .ok (.bipush 13, 2) := by decide +kernel
theorem dL_law_162 : decode cL_law 162 = .ok (.ishr, 1) := by decide +kernel
theorem dL_law_163 : decode cL_law 163 = .ok (.sipush 301, 3) := by decide +kernel
theorem dL_law_166 : decode cL_law 166 = .ok (.invokestatic 186, 3) := by decide +kernel
theorem dL_law_169 : decode cL_law 169 = .ok (.invokevirtual 38, 3) := by decide +kernel
theorem dL_law_172 : decode cL_law 172 = .ok (.goto 104, 3) := by decide +kernel
theorem dL_law_175 : decode cL_law 175 = .ok (.iload 6, 2) := by decide +kernel
theorem dL_law_177 : decode cL_law 177 = .ok (.iconst 2, 1) := by decide +kernel
theorem dL_law_178 : decode cL_law 178 = .ok (.if_icmp .ne 25, 3) := by decide +kernel
theorem dL_law_181 : decode cL_law 181 = .ok (.aload_n 1, 1) := by decide +kernel
theorem dL_law_182 : decode cL_law 182 = .ok (.iconst 0, 1) := by decide +kernel
theorem dL_law_183 : decode cL_law 183 = .ok (.sipush 1000, 3) := by decide +kernel
theorem dL_law_186 : decode cL_law 186 = .ok (.iload 5, 2) := by decide +kernel
theorem dL_law_188 : decode cL_law 188 = .ok (.iconst 4, 1) := by decide +kernel
theorem dL_law_189 : decode cL_law 189 = .ok (.ishr, 1) := by decide +kernel
theorem dL_law_190 : decode cL_law 190 = .ok (.sipush 9000, 3) := by decide +kernel
theorem dL_law_193 : decode cL_law 193 = .ok (.invokestatic 186, 3) := by decide +kernel
theorem dL_law_196 : decode cL_law 196 = .ok (.iadd, 1) := by decide +kernel
theorem dL_law_197 : decode cL_law 197 = .ok (.invokevirtual 42, 3) := by decide +kernel
theorem dL_law_200 : decode cL_law 200 = .ok (.goto 76, 3) := by decide +kernel
theorem dL_law_203 : decode cL_law 203 = .ok (.iload 6, 2) := by decide +kernel
theorem dL_law_205 : decode cL_law 205 = .ok (.iconst 3, 1) := by decide +kernel
theorem dL_law_206 : decode cL_law 206 = .ok (.if_icmp .ne 20, 3) := by decide +kernel
theorem dL_law_209 : decode cL_law 209 = .ok (.aload_n 1, 1) := by decide +kernel
theorem dL_law_210 : decode cL_law 210 = .ok (.iconst 1, 1) := by decide +kernel
theorem dL_law_211 : decode cL_law 211 = .ok (.iload 5, 2) := by decide +kernel
theorem dL_law_213 : decode cL_law 213 = .ok (.iconst 4, 1) := by decide +kernel
theorem dL_law_214 : decode cL_law 214 = .ok (.ishr, 1) := by decide +kernel
