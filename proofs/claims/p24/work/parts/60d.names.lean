set_option maxRecDepth 20000 in
theorem ggL_refused_L_seen : GoodIn wsL_refused wsL_seen := goodIn_r _ [4, 5, 6, 7, 8, 9, 10, 11, 12, 13, 14, 15, 16, 17, 18, 19, 20, 21, 22, 23, 24, 25, 26, 27, 28, 29, 30, 31, 32, 33, 34, 35, 36, 37, 38, 39, 40, 41, 42, 43, 44, 45, 46, 47, 48, 49, 50, 51, 52, 53, 54, 55, 56, 57, 58, 59, 60, 61, 62, 63, 64, 65, 66, 67, 68, 69, 70, 71, 72, 73, 74, 75, 76, 77, 78, 79, 80, 81, 82, 83, 84, 85, 86, 87, 88, 89, 90, 91, 92, 93, 94, 95, 96, 97, 98, 99, 100, 101, 102, 103, 104, 105, 106, 107, 108, 109, 110, 111, 112, 113, 114, 115, 116, 117, 118, 119, 120, 121, 122, 123, 124, 125, 126, 127, 128, 129, 130, 131, 132, 133, 134, 135, 136, 137, 138, 139, 140, 372, 373, 374, 375, 376, 377, 378, 379, 380, 381, 382, 383, 384, 385, 386, 387, 388, 389, 390, 391, 392, 393, 394, 395, 396, 397, 398, 399, 400, 401, 402, 403, 404, 405, 406] (by rfl) (by decide +kernel)
set_option maxRecDepth 20000 in
theorem gL_refused_L_seen : GoodIn wsL_refused (va_wsS RL 71 yL_seen wsL_seen) := goodIn_app (goodIn_of _ (by decide +kernel)) ggL_refused_L_seen
set_option maxRecDepth 20000 in
theorem ggL_refused_X5_count : GoodIn wsL_refused wsX5_count := goodIn_r _ [11, 12, 13, 14, 15, 16, 17, 18, 19, 20, 21, 22, 23, 24, 25, 26, 27, 28, 29, 30, 31, 32, 33, 34, 35, 36, 37, 38, 39, 40, 41, 42, 43, 44, 45, 46, 47, 48, 49, 50, 51, 52, 53, 54, 55, 56, 57, 58, 59, 10, 60, 61, 62, 63, 64, 65, 372, 373, 374, 375, 376, 377, 378, 379, 380, 381, 382, 383, 384, 385, 386, 387, 388, 389, 390, 391, 392, 393, 394, 395, 396, 397, 398, 399, 400, 401, 402, 403, 404, 405, 406] (by decide +kernel) (by decide +kernel)
set_option maxRecDepth 20000 in
theorem gL_refused_X5_count : GoodIn wsL_refused (wsV RL 13 RX5 yX5_count wsX5_count) := goodIn_app (goodIn_of _ (by decide +kernel)) ggL_refused_X5_count
set_option maxRecDepth 20000 in
theorem ggL_refused_L_refusesAny : GoodIn wsL_refused wsL_refusesAny := goodIn_r _ [143, 144, 145, 146, 7, 8, 9, 10, 11, 12, 13, 14, 15, 16, 17, 18, 19, 20, 21, 22, 23, 24, 25, 26, 27, 28, 29, 30, 31, 32, 33, 34, 35, 36, 37, 38, 39, 40, 41, 42, 43, 44, 45, 46, 47, 48, 49, 50, 51, 52, 53, 54, 55, 56, 57, 58, 59, 60, 61, 62, 63, 64, 65, 147, 148, 149, 150, 151, 152, 153, 154, 155, 156, 157, 158, 159, 160, 161, 162, 163, 164, 165, 166, 167, 140, 131, 139, 137, 168, 169, 170, 76, 171, 78, 83, 172, 84, 89, 173, 174, 175, 176, 177, 178, 179, 180, 181, 182, 183, 184, 185, 186, 187, 188, 189, 190, 191, 192, 193, 194, 195, 196, 197, 198, 199, 200, 201, 202, 203, 204, 205, 206, 207, 208, 209, 210, 211, 71, 72, 73, 74, 75, 77, 212, 213, 214, 215, 216, 217, 218, 219, 220, 221, 222, 223, 224, 225, 226, 227, 228, 229, 230, 231, 232, 233, 234, 235, 236, 237, 238, 239, 240, 241, 242, 243, 244, 245, 246, 90, 80, 81, 82, 95, 86, 87, 88, 132, 124, 125, 126, 247, 248, 249, 250, 251, 252, 253, 254, 255, 256, 257, 258, 259, 260, 261, 262, 263, 264, 265, 266, 267, 268, 269, 270, 271, 272, 273, 274, 275, 276, 277, 278, 279, 66, 67, 68, 69, 70, 79, 85, 91, 92, 93, 94, 116, 117, 118, 119, 112, 120, 121, 122, 123, 127, 128, 129, 130, 133, 134, 135, 136, 138, 108, 109, 110, 111, 113, 114, 115, 280, 281, 282, 283, 284, 285, 286, 287, 288, 289, 290, 291, 292, 293, 294, 295, 296, 297, 298, 96, 97, 98, 99, 100, 101, 102, 103, 104, 105, 106, 107, 299, 300, 301, 302, 303, 304, 305, 306, 307, 308, 309, 310, 311, 312, 313, 314, 315, 316, 317, 318, 319, 320, 321, 322, 323, 324, 325, 326, 327, 328, 329, 330, 331, 332, 333, 334, 335, 336, 337, 338, 339, 340, 341, 342, 343, 344, 345, 346, 347, 348, 349, 350, 351, 352, 353, 354, 355, 356, 357, 358, 359, 360, 361, 362, 363, 364, 365, 366, 367, 368, 369, 370, 371, 372, 373, 374, 375, 376, 377, 378, 379, 380, 381, 382, 383, 384, 385, 386, 387, 388, 389, 390, 391, 392, 393, 394, 395, 396, 397, 398, 399, 400, 401, 402, 403, 404, 405, 406] (by rfl) (by decide +kernel)
set_option maxRecDepth 20000 in
theorem gL_refused_L_refusesAny : GoodIn wsL_refused (va_wsS RL 75 yL_refusesAny wsL_refusesAny) := goodIn_app (goodIn_of _ (by decide +kernel)) ggL_refused_L_refusesAny
theorem dL_refused_0 : decode cL_refused 0 = .ok (.aload_n 0, 1) := by decide +kernel
theorem dL_refused_1 : decode cL_refused 1 = .ok (.invokestatic 71, 3) := by decide +kernel
theorem dL_refused_4 : decode cL_refused 4 = .ok (.lstore_n 1, 1) := by decide +kernel
theorem dL_refused_5 : decode cL_refused 5 = .ok (.aload_n 0, 1) := by decide +kernel
theorem dL_refused_6 : decode cL_refused 6 = .ok (.bipush 7, 2) := by decide +kernel
theorem dL_refused_8 : decode cL_refused 8 = .ok (.invokevirtual 13, 3) := by decide +kernel
theorem dL_refused_11 : decode cL_refused 11 = .ok (.istore_n 3, 1) := by decide +kernel
theorem dL_refused_12 : decode cL_refused 12 = .ok (.aload_n 0, 1) := by decide +kernel
theorem dL_refused_13 : decode cL_refused 13 = .ok (.iconst 0, 1) := by decide +kernel
theorem dL_refused_14 : decode cL_refused 14 = .ok (.invokestatic 75, 3) := by decide +kernel
theorem dL_refused_17 : decode cL_refused 17 = .ok (.ifCond .eq 34, 3) := by decide +kernel
theorem dL_refused_20 : decode cL_refused 20 = .ok (.aload_n 0, 1) := by decide +kernel
theorem dL_refused_21 : decode cL_refused 21 = .ok (.iconst 1, 1) := by decide +kernel
theorem dL_refused_22 : decode cL_refused 22 = .ok (.invokestatic 75, 3) := by decide +kernel
theorem dL_refused_25 : decode cL_refused 25 = .ok (.ifCond .eq 26, 3) := by decide +kernel
theorem dL_refused_28 : decode cL_refused 28 = .ok (.aload_n 0, 1) := by decide +kernel
theorem dL_refused_29 : decode cL_refused 29 = .ok (.invokestatic 71, 3) := by decide +kernel
theorem dL_refused_32 : decode cL_refused 32 = .ok (.lload_n 1, 1) := by decide +kernel
theorem dL_refused_33 : decode cL_refused 33 = .ok (.lcmp, 1) := by decide +kernel
theorem dL_refused_34 : decode cL_refused 34 = .ok (.ifCond .ne 17, 3) := by decide +kernel
theorem dL_refused_37 : decode cL_refused 37 = .ok (.aload_n 0, 1) := by decide +kernel
theorem dL_refused_38 : decode cL_refused 38 = .ok (.bipush 7, 2) := by decide +kernel
theorem dL_refused_40 : decode cL_refused 40 = .ok (.invokevirtual 13, 3) := by decide +kernel
theorem dL_refused_43 : decode cL_refused 43 = .ok (.iload_n 3, 1) := by decide +kernel
theorem dL_refused_44 : decode cL_refused 44 = .ok (.if_icmp .ne 7, 3) := by decide +kernel
theorem dL_refused_47 : decode cL_refused 47 = .ok (.iconst 1, 1) := by decide +kernel
theorem dL_refused_48 : decode cL_refused 48 = .ok (.goto 4, 3) := by decide +kernel
theorem dL_refused_51 : decode cL_refused 51 = .ok (.iconst 0, 1) := by decide +kernel
theorem dL_refused_52 : decode cL_refused 52 = .ok (.ireturn, 1) := by decide +kernel
set_option maxRecDepth 20000 in
theorem ggL_isOutput_X5_outputOf : GoodIn wsL_isOutput wsX5_outputOf := goodIn_r _ [5, 6, 7, 8, 9, 10, 11, 12, 13, 14, 4, 15, 16, 17, 18, 19, 20, 21, 22, 23, 24, 25, 26, 27, 28, 29, 30, 31, 32, 33, 34, 35, 36, 37, 38, 39, 40, 41, 42, 43, 44, 45, 46, 47, 48, 49, 50, 51, 52, 53, 54, 55, 56, 57, 58, 59, 60, 61, 62, 63, 64, 65, 66, 67, 68, 69] (by decide +kernel) (by decide +kernel)
set_option maxRecDepth 20000 in
theorem gL_isOutput_X5_outputOf : GoodIn wsL_isOutput (wsV RL 29 RX5 yX5_outputOf wsX5_outputOf) := goodIn_app (goodIn_of _ (by decide +kernel)) ggL_isOutput_X5_outputOf
theorem dL_isOutput_0 : decode cL_isOutput 0 = .ok (.aload_n 0, 1) := by decide +kernel
theorem dL_isOutput_1 : decode cL_isOutput 1 = .ok (.iload_n 1, 1) := by decide +kernel
theorem dL_isOutput_2 : decode cL_isOutput 2 = .ok (.iconst 0, 1) := by decide +kernel
theorem dL_isOutput_3 : decode cL_isOutput 3 = .ok (.invokevirtual 29, 3) := by decide +kernel
theorem dL_isOutput_6 : decode cL_isOutput 6 = .ok (.iload_n 2, 1) := by decide +kernel
theorem dL_isOutput_7 : decode cL_isOutput 7 = .ok (.if_icmp .ne 73, 3) := by decide +kernel
theorem dL_isOutput_10 : decode cL_isOutput 10 = .ok (.aload_n 0, 1) := by decide +kernel
theorem dL_isOutput_11 : decode cL_isOutput 11 = .ok (.iload_n 1, 1) := by decide +kernel
theorem dL_isOutput_12 : decode cL_isOutput 12 = .ok (.iconst 1, 1) := by decide +kernel
theorem dL_isOutput_13 : decode cL_isOutput 13 = .ok (.invokevirtual 29, 3) := by decide +kernel
theorem dL_isOutput_16 : decode cL_isOutput 16 = .ok (.iload_n 3, 1) := by decide +kernel
theorem dL_isOutput_17 : decode cL_isOutput 17 = .ok (.if_icmp .ne 63, 3) := by decide +kernel
theorem dL_isOutput_20 : decode cL_isOutput 20 = .ok (.aload_n 0, 1) := by decide +kernel
theorem dL_isOutput_21 : decode cL_isOutput 21 = .ok (.iload_n 1, 1) := by decide +kernel
theorem dL_isOutput_22 : decode cL_isOutput 22 = .ok (.iconst 2, 1) := by decide +kernel
theorem dL_isOutput_23 : decode cL_isOutput 23 = .ok (.invokevirtual 29, 3) := by decide +kernel
theorem dL_isOutput_26 : decode cL_isOutput 26 = .ok (.iload 4, 2) := by decide +kernel
theorem dL_isOutput_28 : decode cL_isOutput 28 = .ok (.if_icmp .ne 52, 3) := by decide +kernel
theorem dL_isOutput_31 : decode cL_isOutput 31 = .ok (.aload_n 0, 1) := by decide +kernel
theorem dL_isOutput_32 : decode cL_isOutput 32 = .ok (.iload_n 1, 1) := by decide +kernel
theorem dL_isOutput_33 : decode cL_isOutput 33 = .ok (.iconst 3, 1) := by decide +kernel
theorem dL_isOutput_34 : decode cL_isOutput 34 = .ok (.invokevirtual 29, 3) := by decide +kernel
theorem dL_isOutput_37 : decode cL_isOutput 37 = .ok (.iload 5, 2) := by decide +kernel
theorem dL_isOutput_39 : decode cL_isOutput 39 = .ok (.if_icmp .ne 41, 3) := by decide +kernel
theorem dL_isOutput_42 : decode cL_isOutput 42 = .ok (.aload_n 0, 1) := by decide +kernel
theorem dL_isOutput_43 : decode cL_isOutput 43 = .ok (.iload_n 1, 1) := by decide +kernel
theorem dL_isOutput_44 : decode cL_isOutput 44 = .ok (.iconst 4, 1) := by decide +kernel
theorem dL_isOutput_45 : decode cL_isOutput 45 = .ok (.invokevirtual 29, 3) := by decide +kernel
theorem dL_isOutput_48 : decode cL_isOutput 48 = .ok (.iload 6, 2) := by decide +kernel
theorem dL_isOutput_50 : decode cL_isOutput 50 = .ok (.if_icmp .ne 30, 3) := by decide +kernel
theorem dL_isOutput_53 : decode cL_isOutput 53 = .ok (.aload_n 0, 1) := by decide +kernel
theorem dL_isOutput_54 : decode cL_isOutput 54 = .ok (.iload_n 1, 1) := by decide +kernel
theorem dL_isOutput_55 : decode cL_isOutput 55 = .ok (.iconst 5, 1) := by decide +kernel
theorem dL_isOutput_56 : decode cL_isOutput 56 = .ok (.invokevirtual 29, 3) := by decide +kernel
theorem dL_isOutput_59 : decode cL_isOutput 59 = .ok (.iload 5, 2) := by decide +kernel
theorem dL_isOutput_61 : decode cL_isOutput 61 = .ok (.ifCond .ge 8, 3) := by decide +kernel
theorem dL_isOutput_64 : decode cL_isOutput 64 = .ok (.iload 4, 2) := by decide +kernel
theorem dL_isOutput_66 : decode cL_isOutput 66 = .ok (.goto 5, 3) := by decide +kernel
theorem dL_isOutput_69 : decode cL_isOutput 69 = .ok (.iload 5, 2) := by decide +kernel
theorem dL_isOutput_71 : decode cL_isOutput 71 = .ok (.iload_n 3, 1) := by decide +kernel
theorem dL_isOutput_72 : decode cL_isOutput 72 = .ok (.isub, 1) := by decide +kernel
theorem dL_isOutput_73 : decode cL_isOutput 73 = .ok (.if_icmp .ne 7, 3) := by decide +kernel
theorem dL_isOutput_76 : decode cL_isOutput 76 = .ok (.iconst 1, 1) := by decide +kernel
theorem dL_isOutput_77 : decode cL_isOutput 77 = .ok (.goto 4, 3) := by decide +kernel
theorem dL_isOutput_80 : decode cL_isOutput 80 = .ok (.iconst 0, 1) := by decide +kernel
theorem dL_isOutput_81 : decode cL_isOutput 81 = .ok (.ireturn, 1) := by decide +kernel
