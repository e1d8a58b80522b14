set_option maxRecDepth 20000 in
theorem ggL_refusesAny_X5_count : GoodIn wsL_refusesAny wsX5_count := goodIn_r _ [8, 9, 10, 11, 12, 13, 14, 15, 16, 17, 18, 19, 20, 21, 22, 23, 24, 25, 26, 27, 28, 29, 30, 31, 32, 33, 34, 35, 36, 37, 38, 39, 40, 41, 42, 43, 44, 45, 46, 47, 48, 49, 50, 51, 52, 53, 54, 55, 56, 7, 57, 58, 59, 60, 61, 62, 363, 364, 365, 366, 367, 368, 369, 370, 371, 372, 373, 374, 375, 376, 377, 378, 379, 380, 381, 382, 383, 384, 385, 386, 387, 388, 389, 390, 391, 392, 393, 394, 395, 396, 397] (by decide +kernel) (by decide +kernel)
set_option maxRecDepth 20000 in
theorem gL_refusesAny_X5_count : GoodIn wsL_refusesAny (wsV RL 13 RX5 yX5_count wsX5_count) := goodIn_app (goodIn_of _ (by decide +kernel)) ggL_refusesAny_X5_count
set_option maxRecDepth 20000 in
theorem ggL_refusesAny_X5_begin : GoodIn wsL_refusesAny wsX5_begin := goodIn_r _ [66, 58, 9, 12, 15, 60, 61, 7, 62, 67, 68, 69, 70, 71, 72, 73, 74, 75, 76, 77, 22, 78, 25, 79, 53, 80, 81, 82, 83, 24, 48, 84, 85, 86, 87, 88, 89, 90, 91, 92, 93, 94, 95, 96, 97, 98, 99, 100, 101, 102, 103, 104, 37, 105, 106, 107, 43, 108, 109, 110, 111, 112, 113, 114, 115, 116, 117, 118, 119, 120, 121, 122, 123, 124, 125, 126, 127, 128, 129, 130, 131, 132, 363, 364, 365, 366, 367, 368, 369, 370, 371, 372, 373, 374, 375, 384, 385, 386, 376, 377, 378, 379, 380, 381, 382, 383, 396, 397] (by decide +kernel) (by decide +kernel)
set_option maxRecDepth 20000 in
theorem gL_refusesAny_X5_begin : GoodIn wsL_refusesAny (wsV RL 32 RX5 yX5_begin wsX5_begin) := goodIn_app (goodIn_of _ (by decide +kernel)) ggL_refusesAny_X5_begin
set_option maxRecDepth 20000 in
theorem ggL_refusesAny_X5_stage : GoodIn wsL_refusesAny wsX5_stage := goodIn_r _ [136, 9, 10, 58, 137, 138, 15, 139, 140, 141, 91, 142, 93, 60, 61, 7, 62, 67, 68, 69, 70, 71, 72, 73, 74, 75, 76, 77, 22, 78, 25, 79, 53, 80, 81, 82, 83, 24, 48, 84, 85, 86, 87, 88, 89, 90, 92, 94, 95, 96, 97, 98, 99, 100, 101, 102, 103, 104, 37, 105, 106, 107, 43, 143, 117, 118, 119, 363, 364, 365, 366, 367, 368, 369, 370, 371, 372, 373, 374, 375, 376, 377, 378, 379, 380, 381, 382, 383, 384, 385, 386, 396, 397] (by decide +kernel) (by decide +kernel)
set_option maxRecDepth 20000 in
theorem gL_refusesAny_X5_stage : GoodIn wsL_refusesAny (wsV RL 38 RX5 yX5_stage wsX5_stage) := goodIn_app (goodIn_of _ (by decide +kernel)) ggL_refusesAny_X5_stage
set_option maxRecDepth 20000 in
theorem ggL_refusesAny_X5_set : GoodIn wsL_refusesAny wsX5_set := goodIn_r _ [147, 148, 149, 58, 9, 59, 15, 60, 61, 7, 62, 67, 68, 69, 70, 71, 72, 73, 74, 75, 76, 77, 22, 78, 25, 79, 53, 80, 81, 82, 83, 24, 48, 84, 85, 86, 87, 88, 89, 90, 91, 92, 93, 94, 95, 96, 97, 98, 99, 100, 101, 102, 103, 104, 37, 105, 106, 107, 43, 363, 364, 365, 366, 367, 368, 369, 370, 371, 372, 373, 374, 375, 384, 385, 386, 376, 377, 378, 379, 380, 381, 382, 383, 396, 397] (by decide +kernel) (by decide +kernel)
set_option maxRecDepth 20000 in
theorem gL_refusesAny_X5_set : GoodIn wsL_refusesAny (wsV RL 42 RX5 yX5_set wsX5_set) := goodIn_app (goodIn_of _ (by decide +kernel)) ggL_refusesAny_X5_set
set_option maxRecDepth 20000 in
theorem ggL_refusesAny_X5_give : GoodIn wsL_refusesAny wsX5_give := goodIn_r _ [153, 58, 60, 61, 7, 62, 154, 155, 156, 157, 9, 12, 158, 15, 159, 160, 161, 22, 162, 24, 163, 50, 51, 52, 53, 67, 68, 69, 70, 71, 72, 73, 74, 75, 76, 77, 78, 25, 79, 80, 81, 82, 83, 48, 84, 85, 86, 87, 88, 89, 90, 91, 92, 93, 94, 95, 96, 97, 98, 99, 100, 101, 102, 103, 104, 37, 105, 106, 107, 43, 164, 165, 166, 167, 168, 45, 46, 47, 169, 170, 171, 172, 26, 173, 174, 175, 176, 177, 28, 29, 30, 178, 179, 180, 181, 182, 183, 184, 185, 186, 187, 188, 189, 190, 191, 192, 193, 194, 195, 196, 197, 198, 199, 200, 201, 202, 39, 40, 41, 42, 203, 204, 205, 206, 207, 208, 209, 210, 211, 212, 213, 214, 215, 216, 217, 218, 363, 364, 365, 366, 367, 368, 369, 370, 371, 372, 373, 374, 375, 384, 385, 386, 376, 377, 378, 379, 380, 381, 382, 383, 396, 397] (by decide +kernel) (by decide +kernel)
set_option maxRecDepth 20000 in
theorem gL_refusesAny_X5_give : GoodIn wsL_refusesAny (wsV RL 46 RX5 yX5_give wsX5_give) := goodIn_app (goodIn_of _ (by decide +kernel)) ggL_refusesAny_X5_give
set_option maxRecDepth 20000 in
theorem ggL_refusesAny_X5_idle : GoodIn wsL_refusesAny wsX5_idle := goodIn_r _ [222, 58, 60, 61, 7, 62, 154, 155, 156, 157, 9, 12, 158, 15, 159, 160, 161, 22, 162, 24, 163, 50, 51, 52, 53, 67, 68, 69, 70, 71, 72, 73, 74, 75, 76, 77, 78, 25, 79, 80, 81, 82, 83, 48, 84, 85, 86, 87, 88, 89, 90, 91, 92, 93, 94, 95, 96, 97, 98, 99, 100, 101, 102, 103, 104, 37, 105, 106, 107, 43, 164, 165, 166, 167, 168, 45, 46, 47, 169, 170, 171, 172, 26, 173, 174, 175, 176, 177, 28, 29, 30, 178, 179, 180, 181, 182, 183, 184, 185, 186, 187, 188, 189, 190, 191, 192, 193, 194, 195, 196, 197, 198, 199, 200, 201, 202, 39, 40, 41, 42, 203, 204, 205, 206, 207, 208, 209, 210, 211, 212, 213, 214, 215, 216, 217, 218, 363, 364, 365, 366, 367, 368, 369, 370, 371, 372, 373, 374, 375, 384, 385, 386, 376, 377, 378, 379, 380, 381, 382, 383, 396, 397] (by decide +kernel) (by decide +kernel)
set_option maxRecDepth 20000 in
theorem gL_refusesAny_X5_idle : GoodIn wsL_refusesAny (wsV RL 49 RX5 yX5_idle wsX5_idle) := goodIn_app (goodIn_of _ (by decide +kernel)) ggL_refusesAny_X5_idle
set_option maxRecDepth 20000 in
theorem ggL_refusesAny_X5_stageOf : GoodIn wsL_refusesAny wsX5_stageOf := goodIn_r _ [226, 9, 10, 58, 227, 137, 138, 139, 140, 141, 91, 142, 93, 228, 179, 180, 181, 94, 96, 229, 183, 184, 185, 97, 178, 230, 231, 232, 233, 182, 363, 364, 365, 366, 367, 368, 369, 370, 371, 372, 373, 374, 375, 376, 377, 378, 379, 380, 381, 382, 383] (by decide +kernel) (by decide +kernel)
set_option maxRecDepth 20000 in
theorem gL_refusesAny_X5_stageOf : GoodIn wsL_refusesAny (wsV RL 19 RX5 yX5_stageOf wsX5_stageOf) := goodIn_app (goodIn_of _ (by decide +kernel)) ggL_refusesAny_X5_stageOf
set_option maxRecDepth 20000 in
theorem ggL_refusesAny_X5_outputOf : GoodIn wsL_refusesAny wsX5_outputOf := goodIn_r _ [237, 58, 9, 238, 12, 239, 240, 241, 60, 61, 7, 62, 19, 20, 21, 22, 23, 24, 25, 26, 27, 28, 29, 30, 31, 32, 33, 242, 187, 188, 189, 243, 244, 245, 246, 85, 186, 247, 248, 249, 250, 87, 251, 86, 84, 363, 364, 365, 366, 367, 368, 369, 370, 371, 372, 373, 374, 375, 376, 377, 378, 379, 380, 381, 382, 383] (by decide +kernel) (by decide +kernel)
set_option maxRecDepth 20000 in
theorem gL_refusesAny_X5_outputOf : GoodIn wsL_refusesAny (wsV RL 29 RX5 yX5_outputOf wsX5_outputOf) := goodIn_app (goodIn_of _ (by decide +kernel)) ggL_refusesAny_X5_outputOf
set_option maxRecDepth 20000 in
theorem ggL_refusesAny_X5_pairOf : GoodIn wsL_refusesAny wsX5_pairOf := goodIn_r _ [255, 58, 9, 14, 238, 256, 257, 60, 61, 7, 62, 258, 40, 41, 37, 42, 43, 363, 364, 365, 366, 367, 368, 369, 370, 371, 372, 373, 374, 375, 396, 397] (by decide +kernel) (by decide +kernel)
set_option maxRecDepth 20000 in
theorem gL_refusesAny_X5_pairOf : GoodIn wsL_refusesAny (wsV RL 26 RX5 yX5_pairOf wsX5_pairOf) := goodIn_app (goodIn_of _ (by decide +kernel)) ggL_refusesAny_X5_pairOf
set_option maxRecDepth 20000 in
theorem ggL_refusesAny_X5_mended : GoodIn wsL_refusesAny wsX5_mended := goodIn_r _ [262, 263, 58, 9, 14, 60, 61, 7, 62, 264, 199, 200, 37, 201, 106, 202, 39, 40, 41, 42, 43, 203, 204, 205, 206, 207, 208, 209, 29, 210, 211, 212, 213, 214, 215, 216, 217, 218, 363, 364, 365, 366, 367, 368, 369, 370, 371, 372, 373, 374, 375, 396, 397] (by decide +kernel) (by decide +kernel)
set_option maxRecDepth 20000 in
theorem gL_refusesAny_X5_mended : GoodIn wsL_refusesAny (wsV RL 53 RX5 yX5_mended wsX5_mended) := goodIn_app (goodIn_of _ (by decide +kernel)) ggL_refusesAny_X5_mended
set_option maxRecDepth 20000 in
theorem ggL_refusesAny_X5_errors : GoodIn wsL_refusesAny wsX5_errors := goodIn_r _ [268, 58, 9, 12, 269, 270, 29, 271, 272, 32, 33, 238, 273, 60, 61, 7, 62, 19, 20, 21, 22, 23, 24, 25, 26, 27, 28, 30, 31, 243, 244, 245, 246, 85, 186, 187, 188, 189, 247, 248, 249, 250, 87, 251, 86, 84, 274, 275, 276, 277, 363, 364, 365, 366, 367, 368, 369, 370, 371, 372, 373, 374, 375, 376, 377, 378, 379, 380, 381, 382, 383] (by decide +kernel) (by decide +kernel)
set_option maxRecDepth 20000 in
theorem gL_refusesAny_X5_errors : GoodIn wsL_refusesAny (wsV RL 56 RX5 yX5_errors wsX5_errors) := goodIn_app (goodIn_of _ (by decide +kernel)) ggL_refusesAny_X5_errors
set_option maxRecDepth 20000 in
theorem ggL_refusesAny_X5_account : GoodIn wsL_refusesAny wsX5_account := goodIn_r _ [281, 9, 10, 282, 283, 284, 285, 58, 286, 287, 288, 91, 289, 93, 94, 363, 364, 365, 366, 367, 368, 369, 370, 371, 372, 373, 374, 375, 376, 377, 378, 379, 380, 381, 382, 383] (by decide +kernel) (by decide +kernel)
set_option maxRecDepth 20000 in
theorem gL_refusesAny_X5_account : GoodIn wsL_refusesAny (wsV RL 23 RX5 yX5_account wsX5_account) := goodIn_app (goodIn_of _ (by decide +kernel)) ggL_refusesAny_X5_account
set_option maxRecDepth 20000 in
theorem ggL_refusesAny_X5_echo : GoodIn wsL_refusesAny wsX5_echo := goodIn_r _ [293, 58, 294, 9, 10, 59, 60, 61, 7, 62, 295, 89, 90, 91, 92, 93, 94, 95, 81, 82, 83, 96, 97, 98, 99, 100, 101, 296, 297, 298, 299, 300, 121, 122, 123, 124, 125, 126, 127, 301, 174, 175, 176, 177, 28, 29, 30, 178, 179, 180, 181, 182, 183, 184, 185, 363, 364, 365, 366, 367, 368, 369, 370, 371, 372, 373, 374, 375, 376, 377, 378, 379, 380, 381, 382, 383] (by decide +kernel) (by decide +kernel)
set_option maxRecDepth 20000 in
theorem gL_refusesAny_X5_echo : GoodIn wsL_refusesAny (wsV RL 59 RX5 yX5_echo wsX5_echo) := goodIn_app (goodIn_of _ (by decide +kernel)) ggL_refusesAny_X5_echo
set_option maxRecDepth 20000 in
theorem ggL_refusesAny_X5_worn : GoodIn wsL_refusesAny wsX5_worn := goodIn_r _ [305, 58, 9, 10, 11, 60, 61, 7, 62, 306, 307, 308, 309, 294, 59, 295, 89, 90, 91, 92, 93, 94, 95, 81, 82, 83, 96, 97, 98, 99, 100, 101, 143, 117, 118, 119, 296, 297, 298, 299, 300, 121, 122, 123, 124, 125, 126, 127, 301, 174, 175, 176, 177, 28, 29, 30, 178, 179, 180, 181, 182, 183, 184, 185, 363, 364, 365, 366, 367, 368, 369, 370, 371, 372, 373, 374, 375, 376, 377, 378, 379, 380, 381, 382, 383] (by decide +kernel) (by decide +kernel)
set_option maxRecDepth 20000 in
theorem gL_refusesAny_X5_worn : GoodIn wsL_refusesAny (wsV RL 62 RX5 yX5_worn wsX5_worn) := goodIn_app (goodIn_of _ (by decide +kernel)) ggL_refusesAny_X5_worn
set_option maxRecDepth 20000 in
theorem ggL_refusesAny_X5_type : GoodIn wsL_refusesAny wsX5_type := goodIn_r _ [313, 58, 17, 18, 158, 60, 61, 7, 62, 314, 315, 316, 317, 318, 319, 320, 363, 364, 365, 366, 387, 388, 389, 390, 391, 392, 393, 394, 395] (by decide +kernel) (by decide +kernel)
set_option maxRecDepth 20000 in
theorem gL_refusesAny_X5_type : GoodIn wsL_refusesAny (wsV RL 65 RX5 yX5_type wsX5_type) := goodIn_app (goodIn_of _ (by decide +kernel)) ggL_refusesAny_X5_type
set_option maxRecDepth 20000 in
theorem ggL_refusesAny_X5_fault : GoodIn wsL_refusesAny wsX5_fault := goodIn_r _ [324, 58, 17, 9, 10, 11, 238, 325, 326, 60, 61, 7, 62, 327, 328, 329, 317, 330, 331, 332, 319, 333, 334, 335, 336, 337, 338, 339, 340, 341, 342, 343, 344, 345, 346, 347, 348, 349, 350, 320, 351, 352, 353, 354, 355, 356, 357, 358, 359, 360, 361, 362, 363, 364, 365, 366, 367, 368, 369, 370, 371, 372, 373, 374, 375, 376, 377, 378, 379, 380, 381, 382, 383, 387, 388, 389, 390, 391, 392, 393, 394, 395] (by decide +kernel) (by decide +kernel)
set_option maxRecDepth 20000 in
theorem gL_refusesAny_X5_fault : GoodIn wsL_refusesAny (wsV RL 68 RX5 yX5_fault wsX5_fault) := goodIn_app (goodIn_of _ (by decide +kernel)) ggL_refusesAny_X5_fault
theorem dL_refusesAny_0 : decode cL_refusesAny 0 = .ok (.aload_n 0, 1) := by decide +kernel
theorem dL_refusesAny_1 : decode cL_refusesAny 1 = .ok (.iconst 0, 1) := by decide +kernel
theorem dL_refusesAny_2 : decode cL_refusesAny 2 = .ok (.invokevirtual 13, 3) := by decide +kernel
theorem dL_refusesAny_5 : decode cL_refusesAny 5 = .ok (.istore_n 2, 1) := by decide +kernel
theorem dL_refusesAny_6 : decode cL_refusesAny 6 = .ok (.aload_n 0, 1) := by decide +kernel
theorem dL_refusesAny_7 : decode cL_refusesAny 7 = .ok (.iload_n 1, 1) := by decide +kernel
theorem dL_refusesAny_8 : decode cL_refusesAny 8 = .ok (.ifCond .ne 7, 3) := by decide +kernel
theorem dL_refusesAny_11 : decode cL_refusesAny 11 = .ok (.iconst 1, 1) := by decide +kernel
theorem dL_refusesAny_12 : decode cL_refusesAny 12 = .ok (.goto 5, 3) := by decide +kernel
theorem dL_refusesAny_15 : decode cL_refusesAny 15 = .ok (.bipush 11, 2) := by decide +kernel
theorem dL_refusesAny_17 : decode cL_refusesAny 17 = .ok (.invokevirtual 32, 3) := by decide +kernel
theorem dL_refusesAny_20 : decode cL_refusesAny 20 = .ok (.ldc 37, 2) := by decide +kernel
theorem dL_refusesAny_22 : decode cL_refusesAny 22 = .ok (.if_icmp .ne 190, 3) := by decide +kernel
theorem dL_refusesAny_25 : decode cL_refusesAny 25 = .ok (.aload_n 0, 1) := by decide +kernel
theorem dL_refusesAny_26 : decode cL_refusesAny 26 = .ok (.iload_n 1, 1) := by decide +kernel
theorem dL_refusesAny_27 : decode cL_refusesAny 27 = .ok (.ifCond .ne 7, 3) := by decide +kernel
theorem dL_refusesAny_30 : decode cL_refusesAny 30 = .ok (.iconst (-1), 1) := by decide +kernel
theorem dL_refusesAny_31 : decode cL_refusesAny 31 = .ok (.goto 4, 3) := by decide +kernel
theorem dL_refusesAny_34 : decode cL_refusesAny 34 = .ok (.iload_n 2, 1) := by decide +kernel
theorem dL_refusesAny_35 : decode cL_refusesAny 35 = .ok (.iconst 0, 1) := by decide +kernel
theorem dL_refusesAny_36 : decode cL_refusesAny 36 = .ok (.iconst 0, 1) := by decide +kernel
theorem dL_refusesAny_37 : decode cL_refusesAny 37 = .ok (.invokevirtual 38, 3) := by decide +kernel
theorem dL_refusesAny_40 : decode cL_refusesAny 40 = .ok (.ldc 37, 2) := by decide +kernel
theorem dL_refusesAny_42 : decode cL_refusesAny 42 = .ok (.if_icmp .ne 170, 3) := by decide +kernel
theorem dL_refusesAny_45 : decode cL_refusesAny 45 = .ok (.aload_n 0, 1) := by decide +kernel
theorem dL_refusesAny_46 : decode cL_refusesAny 46 = .ok (.iconst 0, 1) := by decide +kernel
theorem dL_refusesAny_47 : decode cL_refusesAny 47 = .ok (.iload_n 1, 1) := by decide +kernel
theorem dL_refusesAny_48 : decode cL_refusesAny 48 = .ok (.ifCond .ne 7, 3) := by decide +kernel
theorem dL_refusesAny_51 : decode cL_refusesAny 51 = .ok (.iconst (-1), 1) := by decide +kernel
theorem dL_refusesAny_52 : decode cL_refusesAny 52 = .ok (.goto 6, 3) := by decide +kernel
theorem dL_refusesAny_55 : decode cL_refusesAny 55 = .ok (.sipush 301, 3) := by decide +kernel
theorem dL_refusesAny_58 : decode cL_refusesAny 58 = .ok (.iconst 0, 1) := by decide +kernel
theorem dL_refusesAny_59 : decode cL_refusesAny 59 = .ok (.invokevirtual 38, 3) := by decide +kernel
theorem dL_refusesAny_62 : decode cL_refusesAny 62 = .ok (.ldc 37, 2) := by decide +kernel
theorem dL_refusesAny_64 : decode cL_refusesAny 64 = .ok (.if_icmp .ne 148, 3) := by decide +kernel
theorem dL_refusesAny_67 : decode cL_refusesAny 67 = .ok (.aload_n 0, 1) := by decide +kernel
theorem dL_refusesAny_68 : decode cL_refusesAny 68 = .ok (.iconst 0, 1) := by decide +kernel
theorem dL_refusesAny_69 : decode cL_refusesAny 69 = .ok (.iconst 0, 1) := by decide +kernel
theorem dL_refusesAny_70 : decode cL_refusesAny 70 = .ok (.iload_n 1, 1) := by decide +kernel
theorem dL_refusesAny_71 : decode cL_refusesAny 71 = .ok (.ifCond .ne 7, 3) := by decide +kernel
theorem dL_refusesAny_74 : decode cL_refusesAny 74 = .ok (.iconst (-1), 1) := by decide +kernel
theorem dL_refusesAny_75 : decode cL_refusesAny 75 = .ok (.goto 6, 3) := by decide +kernel
theorem dL_refusesAny_78 : decode cL_refusesAny 78 = .ok (.sipush 301, 3) := by decide +kernel
theorem dL_refusesAny_81 : decode cL_refusesAny 81 = .ok (.invokevirtual 38, 3) := by decide +kernel
theorem dL_refusesAny_84 : decode cL_refusesAny 84 = .ok (.ldc 37, 2) := by decide +kernel
theorem dL_refusesAny_86 : decode cL_refusesAny 86 = .ok (.if_icmp .ne 126, 3) := by decide +kernel
theorem dL_refusesAny_89 : decode cL_refusesAny 89 = .ok (.aload_n 0, 1) := by decide +kernel
theorem dL_refusesAny_90 : decode cL_refusesAny 90 = .ok (.iload_n 1, 1) := by decide +kernel
theorem dL_refusesAny_91 : decode cL_refusesAny 91 = .ok (.ifCond .ne 7, 3) := by decide +kernel
theorem dL_refusesAny_94 : decode cL_refusesAny 94 = .ok (.iconst (-1), 1) := by decide +kernel
theorem dL_refusesAny_95 : decode cL_refusesAny 95 = .ok (.goto 4, 3) := by decide +kernel
theorem dL_refusesAny_98 : decode cL_refusesAny 98 = .ok (.iconst 5, 1) := by decide +kernel
theorem dL_refusesAny_99 : decode cL_refusesAny 99 = .ok (.iconst 1, 1) := by decide +kernel
theorem dL_refusesAny_100 : decode cL_refusesAny 100 = .ok (.invokevirtual 42, 3) := by decide +kernel
theorem dL_refusesAny_103 : decode cL_refusesAny 103 = .ok (.ldc 37, 2) := by decide +kernel
theorem dL_refusesAny_105 : decode cL_refusesAny 105 = .ok (.if_icmp .ne 107, 3) := by decide +kernel
theorem dL_refusesAny_108 : decode cL_refusesAny 108 = .ok (.aload_n 0, 1) := by decide +kernel
theorem dL_refusesAny_109 : decode cL_refusesAny 109 = .ok (.iconst 0, 1) := by decide +kernel
theorem dL_refusesAny_110 : decode cL_refusesAny 110 = .ok (.iload_n 1, 1) := by decide +kernel
theorem dL_refusesAny_111 : decode cL_refusesAny 111 = .ok (.ifCond .ne 9, 3) := by decide +kernel
theorem dL_refusesAny_114 : decode cL_refusesAny 114 = .ok (.sipush 999, 3) := by decide +kernel
theorem dL_refusesAny_117 : decode cL_refusesAny 117 = .ok (.goto 5, 3) := by decide +kernel
theorem dL_refusesAny_120 : decode cL_refusesAny 120 = .ok (.ldc 45, 2) := by decide +kernel
theorem dL_refusesAny_122 : decode cL_refusesAny 122 = .ok (.invokevirtual 42, 3) := by decide +kernel
theorem dL_refusesAny_125 : decode cL_refusesAny 125 = .ok (.ldc 37, 2) := by decide +kernel
theorem dL_refusesAny_127 : decode cL_refusesAny 127 = .ok (.if_icmp .ne 85, 3) := by decide +kernel
theorem dL_refusesAny_130 : decode cL_refusesAny 130 = .ok (.aload_n 0, 1) := by decide +kernel
theorem dL_refusesAny_131 : decode cL_refusesAny 131 = .ok (.iconst 1, 1) := by decide +kernel
theorem dL_refusesAny_132 : decode cL_refusesAny 132 = .ok (.iload_n 1, 1) := by decide +kernel
theorem dL_refusesAny_133 : decode cL_refusesAny 133 = .ok (.ifCond .ne 7, 3) := by decide +kernel
theorem dL_refusesAny_136 : decode cL_refusesAny 136 = .ok (.iconst (-1), 1) := by decide +kernel
theorem dL_refusesAny_137 : decode cL_refusesAny 137 = .ok (.goto 5, 3) := by decide +kernel
theorem dL_refusesAny_140 : decode cL_refusesAny 140 = .ok (.bipush 13, 2) := by decide +kernel
theorem dL_refusesAny_142 : decode cL_refusesAny 142 = .ok (.invokevirtual 42, 3) := by decide +kernel
theorem dL_refusesAny_145 : decode cL_refusesAny 145 = .ok (.ldc 37, 2) := by decide +kernel
theorem dL_refusesAny_147 : decode cL_refusesAny 147 = .ok (.if_icmp .ne 65, 3) := by decide +kernel
theorem dL_refusesAny_150 : decode cL_refusesAny 150 = .ok (.aload_n 0, 1) := by decide +kernel
theorem dL_refusesAny_151 : decode cL_refusesAny 151 = .ok (.iconst 2, 1) := by decide +kernel
theorem dL_refusesAny_152 : decode cL_refusesAny 152 = .ok (.iload_n 1, 1) := by decide +kernel
theorem dL_refusesAny_153 : decode cL_refusesAny 153 = .ok (.iadd, 1) := by decide +kernel
theorem dL_refusesAny_154 : decode cL_refusesAny 154 = .ok (.iload_n 1, 1) := by decide +kernel
theorem dL_refusesAny_155 : decode cL_refusesAny 155 = .ok (.ifCond .ne 7, 3) := by decide +kernel
theorem dL_refusesAny_158 : decode cL_refusesAny 158 = .ok (.iconst 0, 1) := by decide +kernel
theorem dL_refusesAny_159 : decode cL_refusesAny 159 = .ok (.goto 6, 3) := by decide +kernel
theorem dL_refusesAny_162 : decode cL_refusesAny 162 = .ok (.sipush 10001, 3) := by decide +kernel
theorem dL_refusesAny_165 : decode cL_refusesAny 165 = .ok (.invokevirtual 42, 3) := by decide +kernel
theorem dL_refusesAny_168 : decode cL_refusesAny 168 = .ok (.ldc 37, 2) := by decide +kernel
theorem dL_refusesAny_170 : decode cL_refusesAny 170 = .ok (.if_icmp .ne 42, 3) := by decide +kernel
theorem dL_refusesAny_173 : decode cL_refusesAny 173 = .ok (.aload_n 0, 1) := by decide +kernel
theorem dL_refusesAny_174 : decode cL_refusesAny 174 = .ok (.iload_n 1, 1) := by decide +kernel
theorem dL_refusesAny_175 : decode cL_refusesAny 175 = .ok (.ifCond .ne 7, 3) := by decide +kernel
theorem dL_refusesAny_178 : decode cL_refusesAny 178 = .ok (.iconst (-1), 1) := by decide +kernel
theorem dL_refusesAny_179 : decode cL_refusesAny 179 = .ok (.goto 6, 3) := by decide +kernel
theorem dL_refusesAny_182 : decode cL_refusesAny 182 = .ok (.sipush 10001, 3) := by decide +kernel
theorem dL_refusesAny_185 : decode cL_refusesAny 185 = .ok (.invokevirtual 46, 3) := by decide +kernel
theorem dL_refusesAny_188 : decode cL_refusesAny 188 = .ok (.ldc 37, 2) := by decide +kernel
theorem dL_refusesAny_190 : decode cL_refusesAny 190 = .ok (.if_icmp .ne 22, 3) := by decide +kernel
theorem dL_refusesAny_193 : decode cL_refusesAny 193 = .ok (.aload_n 0, 1) := by decide +kernel
theorem dL_refusesAny_194 : decode cL_refusesAny 194 = .ok (.iload_n 1, 1) := by decide +kernel
theorem dL_refusesAny_195 : decode cL_refusesAny 195 = .ok (.ifCond .ne 7, 3) := by decide +kernel
theorem dL_refusesAny_198 : decode cL_refusesAny 198 = .ok (.iconst 0, 1) := by decide +kernel
theorem dL_refusesAny_199 : decode cL_refusesAny 199 = .ok (.goto 5, 3) := by decide +kernel
theorem dL_refusesAny_202 : decode cL_refusesAny 202 = .ok (.bipush 41, 2) := by decide +kernel
theorem dL_refusesAny_204 : decode cL_refusesAny 204 = .ok (.invokevirtual 49, 3) := by decide +kernel
theorem dL_refusesAny_207 : decode cL_refusesAny 207 = .ok (.ldc 37, 2) := by decide +kernel
theorem dL_refusesAny_209 : decode cL_refusesAny 209 = .ok (.if_icmp .eq 5, 3) := by decide +kernel
