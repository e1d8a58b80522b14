set_option maxRecDepth 20000 in
theorem ggL_references_X5_init : GoodIn wsL_references wsX5_init := goodIn_r _ [12, 13, 14, 15, 16, 17, 18, 19, 20, 21, 22, 23, 24, 25, 26, 27, 28, 29, 30, 31, 32, 33, 34, 35, 36, 37, 38, 39, 40, 41, 42, 43, 44, 45, 46, 47, 48, 49, 50, 51, 52, 53, 54, 55, 56, 57, 58, 59, 60, 61, 62, 63, 64, 65, 66, 67, 68, 69, 70, 71, 72, 73, 74, 75, 76, 431, 432, 433, 434, 435, 436, 437, 438, 439, 427, 428, 429, 430, 440, 441, 442, 443, 444, 445, 446, 447, 448, 449, 450, 451, 452, 453, 454, 455, 456, 457, 458, 459, 460, 461] (by decide +kernel) (by decide +kernel)
set_option maxRecDepth 20000 in
theorem gL_references_X5_init : GoodIn wsL_references (wsX5_init) := ggL_references_X5_init
set_option maxRecDepth 20000 in
theorem ggL_references_X5_begin : GoodIn wsL_references wsX5_begin := goodIn_r _ [80, 81, 19, 82, 23, 83, 84, 3, 85, 86, 87, 88, 22, 89, 90, 91, 70, 92, 93, 94, 18, 95, 36, 40, 47, 96, 97, 98, 99, 100, 101, 49, 50, 51, 52, 102, 103, 104, 30, 105, 56, 57, 106, 58, 59, 107, 108, 109, 110, 111, 112, 113, 39, 114, 63, 115, 64, 116, 117, 118, 119, 120, 121, 122, 123, 124, 125, 126, 127, 128, 129, 130, 131, 132, 133, 134, 135, 136, 137, 138, 139, 140, 427, 428, 429, 430, 431, 432, 433, 434, 435, 436, 437, 438, 439, 440, 441, 442, 452, 453, 454, 455, 456, 457, 458, 459, 460, 461] (by decide +kernel) (by decide +kernel)
set_option maxRecDepth 20000 in
theorem gL_references_X5_begin : GoodIn wsL_references (wsV RL 32 RX5 yX5_begin wsX5_begin) := goodIn_app (goodIn_of _ (by decide +kernel)) ggL_references_X5_begin
set_option maxRecDepth 20000 in
theorem ggL_references_X5_set : GoodIn wsL_references wsX5_set := goodIn_r _ [144, 145, 146, 81, 19, 147, 23, 83, 84, 3, 85, 86, 87, 88, 22, 89, 90, 91, 70, 92, 93, 94, 18, 95, 36, 40, 47, 96, 97, 98, 99, 100, 101, 49, 50, 51, 52, 102, 103, 104, 30, 105, 56, 57, 106, 58, 59, 107, 108, 109, 110, 111, 112, 113, 39, 114, 63, 115, 64, 427, 428, 429, 430, 431, 432, 433, 434, 435, 436, 437, 438, 439, 440, 441, 442, 452, 453, 454, 455, 456, 457, 458, 459, 460, 461] (by decide +kernel) (by decide +kernel)
set_option maxRecDepth 20000 in
theorem gL_references_X5_set : GoodIn wsL_references (wsV RL 42 RX5 yX5_set wsX5_set) := goodIn_app (goodIn_of _ (by decide +kernel)) ggL_references_X5_set
set_option maxRecDepth 20000 in
theorem ggL_references_X5_count : GoodIn wsL_references wsX5_count := goodIn_r _ [151, 19, 152, 153, 82, 154, 155, 23, 156, 27, 157, 158, 159, 160, 18, 161, 100, 36, 162, 163, 164, 165, 166, 167, 168, 169, 170, 171, 172, 39, 173, 174, 175, 176, 177, 64, 178, 179, 180, 181, 101, 182, 183, 184, 185, 47, 186, 187, 188, 3, 189, 81, 147, 83, 84, 85, 427, 428, 429, 430, 431, 432, 433, 434, 435, 436, 437, 438, 439, 452, 453, 454, 455, 456, 457, 458, 459, 440, 441, 442, 443, 444, 445, 446, 447, 448, 449, 450, 451, 460, 461] (by decide +kernel) (by decide +kernel)
set_option maxRecDepth 20000 in
theorem gL_references_X5_count : GoodIn wsL_references (wsV RL 13 RX5 yX5_count wsX5_count) := goodIn_app (goodIn_of _ (by decide +kernel)) ggL_references_X5_count
set_option maxRecDepth 20000 in
theorem ggL_references_X5_mended : GoodIn wsL_references wsX5_mended := goodIn_r _ [193, 194, 81, 19, 155, 83, 84, 3, 85, 195, 196, 197, 39, 198, 63, 199, 174, 175, 176, 177, 64, 200, 201, 202, 203, 204, 205, 206, 165, 207, 208, 209, 210, 211, 212, 213, 214, 215, 427, 428, 429, 430, 431, 432, 433, 434, 435, 436, 437, 438, 439, 460, 461] (by decide +kernel) (by decide +kernel)
set_option maxRecDepth 20000 in
theorem gL_references_X5_mended : GoodIn wsL_references (wsV RL 53 RX5 yX5_mended wsX5_mended) := goodIn_app (goodIn_of _ (by decide +kernel)) ggL_references_X5_mended
set_option maxRecDepth 20000 in
theorem ggL_references_X5_give : GoodIn wsL_references wsX5_give := goodIn_r _ [219, 81, 83, 84, 3, 85, 220, 221, 222, 223, 19, 82, 224, 23, 225, 226, 227, 18, 228, 100, 229, 183, 184, 185, 47, 86, 87, 88, 22, 89, 90, 91, 70, 92, 93, 94, 95, 36, 40, 96, 97, 98, 99, 101, 49, 50, 51, 52, 102, 103, 104, 30, 105, 56, 57, 106, 58, 59, 107, 108, 109, 110, 111, 112, 113, 39, 114, 63, 115, 64, 230, 231, 232, 233, 234, 179, 180, 181, 235, 236, 237, 238, 162, 239, 240, 241, 242, 243, 164, 165, 166, 244, 245, 246, 247, 248, 249, 250, 251, 252, 253, 254, 255, 256, 257, 258, 259, 260, 261, 262, 263, 264, 196, 197, 198, 199, 174, 175, 176, 177, 200, 201, 202, 203, 204, 205, 206, 207, 208, 209, 210, 211, 212, 213, 214, 215, 427, 428, 429, 430, 431, 432, 433, 434, 435, 436, 437, 438, 439, 440, 441, 442, 452, 453, 454, 455, 456, 457, 458, 459, 460, 461] (by decide +kernel) (by decide +kernel)
set_option maxRecDepth 20000 in
theorem gL_references_X5_give : GoodIn wsL_references (wsV RL 46 RX5 yX5_give wsX5_give) := goodIn_app (goodIn_of _ (by decide +kernel)) ggL_references_X5_give
set_option maxRecDepth 20000 in
theorem ggL_references_L_isOutput : GoodIn wsL_references wsL_isOutput := goodIn_r _ [268, 269, 270, 271, 3, 272, 81, 19, 273, 82, 274, 275, 276, 83, 84, 85, 158, 159, 160, 18, 161, 100, 36, 162, 163, 164, 165, 166, 167, 168, 169, 277, 253, 254, 255, 278, 279, 280, 281, 50, 252, 282, 283, 284, 285, 52, 286, 51, 49, 427, 428, 429, 430, 431, 432, 433, 434, 435, 436, 437, 438, 439, 452, 453, 454, 455, 456, 457, 458, 459] (by rfl) (by decide +kernel)
set_option maxRecDepth 20000 in
theorem gL_references_L_isOutput : GoodIn wsL_references (va_wsS RL 91 yL_isOutput wsL_isOutput) := goodIn_app (goodIn_of _ (by decide +kernel)) ggL_references_L_isOutput
set_option maxRecDepth 20000 in
theorem ggL_references_X5_pairOf : GoodIn wsL_references wsX5_pairOf := goodIn_r _ [290, 81, 19, 155, 273, 291, 292, 83, 84, 3, 85, 293, 175, 176, 39, 177, 64, 427, 428, 429, 430, 431, 432, 433, 434, 435, 436, 437, 438, 439, 460, 461] (by decide +kernel) (by decide +kernel)
set_option maxRecDepth 20000 in
theorem gL_references_X5_pairOf : GoodIn wsL_references (wsV RL 26 RX5 yX5_pairOf wsX5_pairOf) := goodIn_app (goodIn_of _ (by decide +kernel)) ggL_references_X5_pairOf
set_option maxRecDepth 20000 in
theorem ggL_references_X5_errors : GoodIn wsL_references wsX5_errors := goodIn_r _ [297, 81, 19, 82, 298, 299, 165, 300, 301, 168, 169, 273, 302, 83, 84, 3, 85, 158, 159, 160, 18, 161, 100, 36, 162, 163, 164, 166, 167, 278, 279, 280, 281, 50, 252, 253, 254, 255, 282, 283, 284, 285, 52, 286, 51, 49, 303, 304, 305, 306, 427, 428, 429, 430, 431, 432, 433, 434, 435, 436, 437, 438, 439, 452, 453, 454, 455, 456, 457, 458, 459] (by decide +kernel) (by decide +kernel)
set_option maxRecDepth 20000 in
theorem gL_references_X5_errors : GoodIn wsL_references (wsV RL 56 RX5 yX5_errors wsX5_errors) := goodIn_app (goodIn_of _ (by decide +kernel)) ggL_references_X5_errors
set_option maxRecDepth 20000 in
theorem ggL_references_X5_stage : GoodIn wsL_references wsX5_stage := goodIn_r _ [310, 19, 152, 81, 311, 312, 23, 313, 314, 315, 30, 316, 56, 83, 84, 3, 85, 86, 87, 88, 22, 89, 90, 91, 70, 92, 93, 94, 18, 95, 36, 40, 47, 96, 97, 98, 99, 100, 101, 49, 50, 51, 52, 102, 103, 104, 105, 57, 106, 58, 59, 107, 108, 109, 110, 111, 112, 113, 39, 114, 63, 115, 64, 317, 125, 126, 127, 427, 428, 429, 430, 431, 432, 433, 434, 435, 436, 437, 438, 439, 452, 453, 454, 455, 456, 457, 458, 459, 440, 441, 442, 460, 461] (by decide +kernel) (by decide +kernel)
set_option maxRecDepth 20000 in
theorem gL_references_X5_stage : GoodIn wsL_references (wsV RL 38 RX5 yX5_stage wsX5_stage) := goodIn_app (goodIn_of _ (by decide +kernel)) ggL_references_X5_stage
set_option maxRecDepth 20000 in
theorem ggL_references_L_refused : GoodIn wsL_references wsL_refused := goodIn_r _ [320, 321, 322, 267, 323, 324, 325, 148, 149, 150, 3, 151, 19, 152, 153, 82, 154, 155, 23, 156, 27, 157, 158, 159, 160, 18, 161, 100, 36, 162, 163, 164, 165, 166, 167, 168, 169, 170, 171, 172, 39, 173, 174, 175, 176, 177, 64, 178, 179, 180, 181, 101, 182, 183, 184, 185, 47, 186, 187, 188, 189, 81, 147, 83, 84, 85, 326, 327, 328, 329, 330, 311, 312, 313, 314, 315, 30, 316, 56, 331, 245, 246, 247, 57, 58, 332, 249, 250, 251, 59, 244, 333, 334, 335, 336, 248, 337, 338, 339, 340, 341, 342, 343, 344, 345, 346, 347, 348, 287, 288, 289, 290, 273, 291, 292, 293, 269, 270, 271, 272, 274, 275, 276, 277, 253, 254, 255, 278, 279, 280, 281, 50, 252, 282, 283, 284, 285, 52, 286, 51, 49, 349, 350, 351, 352, 353, 4, 77, 78, 79, 80, 86, 87, 88, 22, 89, 90, 91, 70, 92, 93, 94, 95, 40, 96, 97, 98, 99, 102, 103, 104, 105, 106, 107, 108, 109, 110, 111, 112, 113, 114, 63, 115, 116, 117, 118, 119, 120, 121, 122, 123, 124, 125, 126, 127, 128, 129, 130, 131, 132, 133, 134, 135, 136, 137, 138, 139, 140, 307, 308, 309, 310, 317, 141, 142, 143, 144, 145, 146, 216, 217, 218, 219, 220, 221, 222, 223, 224, 225, 226, 227, 228, 229, 230, 231, 232, 233, 234, 235, 236, 237, 238, 239, 240, 241, 242, 243, 256, 257, 258, 259, 260, 261, 262, 263, 264, 196, 197, 198, 199, 200, 201, 202, 203, 204, 205, 206, 207, 208, 209, 210, 211, 212, 213, 214, 215, 354, 355, 356, 357, 190, 191, 192, 193, 194, 195, 294, 295, 296, 297, 298, 299, 300, 301, 302, 303, 304, 305, 306, 358, 359, 360, 361, 31, 362, 363, 364, 365, 366, 367, 368, 369, 370, 371, 372, 373, 374, 375, 376, 377, 378, 379, 380, 381, 382, 383, 26, 384, 385, 75, 386, 387, 388, 389, 390, 391, 392, 393, 394, 395, 396, 397, 398, 399, 400, 401, 402, 403, 404, 405, 406, 76, 407, 408, 409, 410, 411, 412, 413, 414, 415, 416, 417, 418, 419, 420, 421, 422, 423, 424, 425, 426, 427, 428, 429, 430, 431, 432, 433, 434, 435, 436, 437, 438, 439, 452, 453, 454, 455, 456, 457, 458, 459, 440, 441, 442, 443, 444, 445, 446, 447, 448, 449, 450, 451, 460, 461] (by rfl) (by decide +kernel)
set_option maxRecDepth 20000 in
theorem gL_references_L_refused : GoodIn wsL_references (va_wsS RL 98 yL_refused wsL_refused) := goodIn_app (goodIn_of _ (by decide +kernel)) ggL_references_L_refused
theorem dL_references_0 : decode cL_references 0 = .ok (.new 14, 3) := by decide +kernel
theorem dL_references_3 : decode cL_references 3 = .ok (.dup, 1) := by decide +kernel
theorem dL_references_4 : decode cL_references 4 = .ok (.invokespecial 79, 3) := by decide +kernel
theorem dL_references_7 : decode cL_references 7 = .ok (.astore_n 0, 1) := by decide +kernel
theorem dL_references_8 : decode cL_references 8 = .ok (.aload_n 0, 1) := by decide +kernel
theorem dL_references_9 : decode cL_references 9 = .ok (.iconst 2, 1) := by decide +kernel
theorem dL_references_10 : decode cL_references 10 = .ok (.invokevirtual 32, 3) := by decide +kernel
theorem dL_references_13 : decode cL_references 13 = .ok (.ifCond .ne 162, 3) := by decide +kernel
theorem dL_references_16 : decode cL_references 16 = .ok (.aload_n 0, 1) := by decide +kernel
theorem dL_references_17 : decode cL_references 17 = .ok (.iconst 1, 1) := by decide +kernel
theorem dL_references_18 : decode cL_references 18 = .ok (.iconst 3, 1) := by decide +kernel
theorem dL_references_19 : decode cL_references 19 = .ok (.invokevirtual 42, 3) := by decide +kernel
theorem dL_references_22 : decode cL_references 22 = .ok (.ifCond .ne 153, 3) := by decide +kernel
theorem dL_references_25 : decode cL_references 25 = .ok (.aload_n 0, 1) := by decide +kernel
theorem dL_references_26 : decode cL_references 26 = .ok (.bipush 6, 2) := by decide +kernel
theorem dL_references_28 : decode cL_references 28 = .ok (.invokevirtual 13, 3) := by decide +kernel
theorem dL_references_31 : decode cL_references 31 = .ok (.iconst 1, 1) := by decide +kernel
theorem dL_references_32 : decode cL_references 32 = .ok (.if_icmp .ne 143, 3) := by decide +kernel
theorem dL_references_35 : decode cL_references 35 = .ok (.aload_n 0, 1) := by decide +kernel
theorem dL_references_36 : decode cL_references 36 = .ok (.iconst 5, 1) := by decide +kernel
theorem dL_references_37 : decode cL_references 37 = .ok (.invokevirtual 53, 3) := by decide +kernel
theorem dL_references_40 : decode cL_references 40 = .ok (.ldc 52, 2) := by decide +kernel
theorem dL_references_42 : decode cL_references 42 = .ok (.if_icmp .ne 133, 3) := by decide +kernel
theorem dL_references_45 : decode cL_references 45 = .ok (.aload_n 0, 1) := by decide +kernel
theorem dL_references_46 : decode cL_references 46 = .ok (.sipush 500, 3) := by decide +kernel
theorem dL_references_49 : decode cL_references 49 = .ok (.invokevirtual 46, 3) := by decide +kernel
theorem dL_references_52 : decode cL_references 52 = .ok (.iconst 2, 1) := by decide +kernel
theorem dL_references_53 : decode cL_references 53 = .ok (.if_icmp .ne 122, 3) := by decide +kernel
theorem dL_references_56 : decode cL_references 56 = .ok (.aload_n 0, 1) := by decide +kernel
theorem dL_references_57 : decode cL_references 57 = .ok (.iconst 5, 1) := by decide +kernel
theorem dL_references_58 : decode cL_references 58 = .ok (.invokevirtual 13, 3) := by decide +kernel
theorem dL_references_61 : decode cL_references 61 = .ok (.iconst 1, 1) := by decide +kernel
theorem dL_references_62 : decode cL_references 62 = .ok (.if_icmp .ne 113, 3) := by decide +kernel
theorem dL_references_65 : decode cL_references 65 = .ok (.aload_n 0, 1) := by decide +kernel
theorem dL_references_66 : decode cL_references 66 = .ok (.iconst 3, 1) := by decide +kernel
theorem dL_references_67 : decode cL_references 67 = .ok (.invokevirtual 13, 3) := by decide +kernel
theorem dL_references_70 : decode cL_references 70 = .ok (.iconst 1, 1) := by decide +kernel
theorem dL_references_71 : decode cL_references 71 = .ok (.if_icmp .ne 104, 3) := by decide +kernel
theorem dL_references_74 : decode cL_references 74 = .ok (.aload_n 0, 1) := by decide +kernel
theorem dL_references_75 : decode cL_references 75 = .ok (.bipush 6, 2) := by decide +kernel
theorem dL_references_77 : decode cL_references 77 = .ok (.invokevirtual 13, 3) := by decide +kernel
theorem dL_references_80 : decode cL_references 80 = .ok (.ifCond .ne 95, 3) := by decide +kernel
theorem dL_references_83 : decode cL_references 83 = .ok (.aload_n 0, 1) := by decide +kernel
theorem dL_references_84 : decode cL_references 84 = .ok (.sipush 600, 3) := by decide +kernel
theorem dL_references_87 : decode cL_references 87 = .ok (.invokevirtual 46, 3) := by decide +kernel
theorem dL_references_90 : decode cL_references 90 = .ok (.iconst 1, 1) := by decide +kernel
theorem dL_references_91 : decode cL_references 91 = .ok (.if_icmp .ne 84, 3) := by decide +kernel
theorem dL_references_94 : decode cL_references 94 = .ok (.aload_n 0, 1) := by decide +kernel
theorem dL_references_95 : decode cL_references 95 = .ok (.iconst 0, 1) := by decide +kernel
theorem dL_references_96 : decode cL_references 96 = .ok (.iconst 2, 1) := by decide +kernel
theorem dL_references_97 : decode cL_references 97 = .ok (.sipush 1000, 3) := by decide +kernel
theorem dL_references_100 : decode cL_references 100 = .ok (.sipush 1000, 3) := by decide +kernel
theorem dL_references_103 : decode cL_references 103 = .ok (.sipush 1000, 3) := by decide +kernel
theorem dL_references_106 : decode cL_references 106 = .ok (.iconst 1, 1) := by decide +kernel
theorem dL_references_107 : decode cL_references 107 = .ok (.invokestatic 91, 3) := by decide +kernel
theorem dL_references_110 : decode cL_references 110 = .ok (.ifCond .eq 65, 3) := by decide +kernel
theorem dL_references_113 : decode cL_references 113 = .ok (.aload_n 0, 1) := by decide +kernel
theorem dL_references_114 : decode cL_references 114 = .ok (.iconst 4, 1) := by decide +kernel
theorem dL_references_115 : decode cL_references 115 = .ok (.invokevirtual 13, 3) := by decide +kernel
theorem dL_references_118 : decode cL_references 118 = .ok (.iconst 1, 1) := by decide +kernel
theorem dL_references_119 : decode cL_references 119 = .ok (.if_icmp .ne 56, 3) := by decide +kernel
theorem dL_references_122 : decode cL_references 122 = .ok (.aload_n 0, 1) := by decide +kernel
theorem dL_references_123 : decode cL_references 123 = .ok (.iconst 0, 1) := by decide +kernel
theorem dL_references_124 : decode cL_references 124 = .ok (.iconst 0, 1) := by decide +kernel
theorem dL_references_125 : decode cL_references 125 = .ok (.invokevirtual 26, 3) := by decide +kernel
theorem dL_references_128 : decode cL_references 128 = .ok (.sipush 1000, 3) := by decide +kernel
theorem dL_references_131 : decode cL_references 131 = .ok (.if_icmp .ne 44, 3) := by decide +kernel
theorem dL_references_134 : decode cL_references 134 = .ok (.aload_n 0, 1) := by decide +kernel
theorem dL_references_135 : decode cL_references 135 = .ok (.iconst 0, 1) := by decide +kernel
theorem dL_references_136 : decode cL_references 136 = .ok (.iconst 1, 1) := by decide +kernel
theorem dL_references_137 : decode cL_references 137 = .ok (.invokevirtual 26, 3) := by decide +kernel
theorem dL_references_140 : decode cL_references 140 = .ok (.sipush 1000, 3) := by decide +kernel
theorem dL_references_143 : decode cL_references 143 = .ok (.if_icmp .ne 32, 3) := by decide +kernel
theorem dL_references_146 : decode cL_references 146 = .ok (.aload_n 0, 1) := by decide +kernel
theorem dL_references_147 : decode cL_references 147 = .ok (.iconst 1, 1) := by decide +kernel
theorem dL_references_148 : decode cL_references 148 = .ok (.iconst 0, 1) := by decide +kernel
theorem dL_references_149 : decode cL_references 149 = .ok (.invokevirtual 26, 3) := by decide +kernel
theorem dL_references_152 : decode cL_references 152 = .ok (.ldc 52, 2) := by decide +kernel
theorem dL_references_154 : decode cL_references 154 = .ok (.if_icmp .ne 21, 3) := by decide +kernel
theorem dL_references_157 : decode cL_references 157 = .ok (.aload_n 0, 1) := by decide +kernel
theorem dL_references_158 : decode cL_references 158 = .ok (.bipush 6, 2) := by decide +kernel
theorem dL_references_160 : decode cL_references 160 = .ok (.invokevirtual 13, 3) := by decide +kernel
theorem dL_references_163 : decode cL_references 163 = .ok (.iconst 1, 1) := by decide +kernel
theorem dL_references_164 : decode cL_references 164 = .ok (.if_icmp .ne 11, 3) := by decide +kernel
theorem dL_references_167 : decode cL_references 167 = .ok (.aload_n 0, 1) := by decide +kernel
theorem dL_references_168 : decode cL_references 168 = .ok (.iconst 0, 1) := by decide +kernel
theorem dL_references_169 : decode cL_references 169 = .ok (.invokevirtual 56, 3) := by decide +kernel
theorem dL_references_172 : decode cL_references 172 = .ok (.ifCond .eq 5, 3) := by decide +kernel
theorem dL_references_175 : decode cL_references 175 = .ok (.iconst 0, 1) := by decide +kernel
theorem dL_references_176 : decode cL_references 176 = .ok (.ireturn, 1) := by decide +kernel
theorem dL_references_177 : decode cL_references 177 = .ok (.aload_n 0, 1) := by decide +kernel
theorem dL_references_178 : decode cL_references 178 = .ok (.sipush 700, 3) := by decide +kernel
theorem dL_references_181 : decode cL_references 181 = .ok (.invokevirtual 46, 3) := by decide +kernel
theorem dL_references_184 : decode cL_references 184 = .ok (.iconst 2, 1) := by decide +kernel
theorem dL_references_185 : decode cL_references 185 = .ok (.if_icmp .ne 138, 3) := by decide +kernel
theorem dL_references_188 : decode cL_references 188 = .ok (.aload_n 0, 1) := by decide +kernel
theorem dL_references_189 : decode cL_references 189 = .ok (.iconst 0, 1) := by decide +kernel
theorem dL_references_190 : decode cL_references 190 = .ok (.iconst 4, 1) := by decide +kernel
theorem dL_references_191 : decode cL_references 191 = .ok (.sipush 600, 3) := by decide +kernel
theorem dL_references_194 : decode cL_references 194 = .ok (.sipush 600, 3) := by decide +kernel
theorem dL_references_197 : decode cL_references 197 = .ok (.sipush 600, 3) := by decide +kernel
theorem dL_references_200 : decode cL_references 200 = .ok (.iconst 0, 1) := by decide +kernel
theorem dL_references_201 : decode cL_references 201 = .ok (.invokestatic 91, 3) := by decide +kernel
theorem dL_references_204 : decode cL_references 204 = .ok (.ifCond .eq 119, 3) := by decide +kernel
theorem dL_references_207 : decode cL_references 207 = .ok (.aload_n 0, 1) := by decide +kernel
theorem dL_references_208 : decode cL_references 208 = .ok (.iconst 1, 1) := by decide +kernel
theorem dL_references_209 : decode cL_references 209 = .ok (.iconst 3, 1) := by decide +kernel
theorem dL_references_210 : decode cL_references 210 = .ok (.sipush 500, 3) := by decide +kernel
theorem dL_references_213 : decode cL_references 213 = .ok (.sipush 500, 3) := by decide +kernel
theorem dL_references_216 : decode cL_references 216 = .ok (.sipush 500, 3) := by decide +kernel
theorem dL_references_219 : decode cL_references 219 = .ok (.iconst 0, 1) := by decide +kernel
theorem dL_references_220 : decode cL_references 220 = .ok (.invokestatic 91, 3) := by decide +kernel
theorem dL_references_223 : decode cL_references 223 = .ok (.ifCond .eq 100, 3) := by decide +kernel
theorem dL_references_226 : decode cL_references 226 = .ok (.aload_n 0, 1) := by decide +kernel
theorem dL_references_227 : decode cL_references 227 = .ok (.iconst 5, 1) := by decide +kernel
theorem dL_references_228 : decode cL_references 228 = .ok (.invokevirtual 13, 3) := by decide +kernel
theorem dL_references_231 : decode cL_references 231 = .ok (.iconst 2, 1) := by decide +kernel
theorem dL_references_232 : decode cL_references 232 = .ok (.if_icmp .ne 91, 3) := by decide +kernel
theorem dL_references_235 : decode cL_references 235 = .ok (.aload_n 0, 1) := by decide +kernel
theorem dL_references_236 : decode cL_references 236 = .ok (.sipush 1500, 3) := by decide +kernel
theorem dL_references_239 : decode cL_references 239 = .ok (.invokevirtual 53, 3) := by decide +kernel
theorem dL_references_242 : decode cL_references 242 = .ok (.sipush 1500, 3) := by decide +kernel
theorem dL_references_245 : decode cL_references 245 = .ok (.if_icmp .ne 78, 3) := by decide +kernel
theorem dL_references_248 : decode cL_references 248 = .ok (.aload_n 0, 1) := by decide +kernel
theorem dL_references_249 : decode cL_references 249 = .ok (.iconst 0, 1) := by decide +kernel
theorem dL_references_250 : decode cL_references 250 = .ok (.invokevirtual 53, 3) := by decide +kernel
