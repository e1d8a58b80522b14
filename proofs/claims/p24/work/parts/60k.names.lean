set_option maxRecDepth 20000 in
theorem ggL_texts_L_isFault : GoodIn wsL_texts wsL_isFault := goodIn_r _ [34, 23, 24, 25, 1, 35, 36, 37, 38, 39, 40, 41, 42, 43, 44, 45, 46, 47, 48, 49, 50, 51, 52, 53, 54, 55, 56, 57, 58, 59, 60, 61, 62, 63, 64, 65, 66, 67, 68, 69, 70, 71, 72, 73, 74, 75, 76, 77, 78, 79, 80, 81, 82, 83, 84, 85, 86, 87, 88, 89, 90, 91, 92, 93, 94, 95, 96, 97, 98, 99, 100, 101, 102, 103, 104, 33, 105, 106, 107, 108, 109, 110, 111, 112, 113, 114, 115, 116, 117, 118, 119, 120, 121, 122, 123, 124, 125, 126, 127, 128, 129, 130, 131, 132, 133, 134, 135, 136, 137, 138, 139, 140, 141, 142, 143, 144, 145, 146, 147, 148, 149, 150, 151, 152, 153, 154, 155, 156, 157, 158, 159, 160, 161, 162, 163, 164, 165, 166, 167, 168, 169, 170, 171, 172, 173, 174, 175, 176, 177, 178, 179, 180, 181, 182, 183, 184, 185, 186, 187, 188, 189, 190, 191, 192, 193, 194, 195, 196, 197, 198, 199, 200, 201, 202, 203, 204, 205, 206, 207, 208, 209, 210, 211, 212, 213, 214, 215, 216, 217, 218, 219, 220, 221, 222, 223, 224, 225, 226, 227, 228, 229, 230, 231, 232, 233, 234, 235, 236, 237, 238, 239, 240, 241, 242, 243, 244, 245, 246, 247, 248, 249, 250, 251, 252, 253, 254, 255, 256, 257, 258, 259, 260, 261, 262, 263, 264, 265, 266, 267, 268, 269, 270, 271, 272, 273, 274, 275, 276, 277, 278, 279, 280, 281, 282, 283, 284, 285, 286, 287, 288, 289, 290, 291, 292, 293, 294, 295, 296, 297, 298, 299, 300, 301, 302, 303, 304, 305, 306, 307, 308, 309, 310, 311, 312, 313, 314, 315, 316, 317, 318, 319, 349, 350, 351, 352, 353, 354, 355, 356, 357, 358, 359, 360, 361, 362, 363, 364, 365, 366, 367, 368, 369, 370, 371, 372, 373, 374, 375, 376, 377, 378, 379, 380, 381, 382, 383] (by rfl) (by decide +kernel)
set_option maxRecDepth 20000 in
theorem gL_texts_L_isFault : GoodIn wsL_texts (va_wsS RL 117 yL_isFault wsL_isFault) := goodIn_app (goodIn_of _ (by decide +kernel)) ggL_texts_L_isFault
set_option maxRecDepth 20000 in
theorem ggL_texts_X5_init : GoodIn wsL_texts wsX5_init := goodIn_r _ [38, 39, 40, 41, 42, 43, 44, 45, 46, 47, 48, 49, 50, 51, 52, 53, 54, 55, 56, 57, 58, 59, 60, 61, 62, 63, 64, 65, 66, 67, 68, 69, 70, 71, 72, 73, 74, 75, 76, 77, 78, 79, 80, 81, 82, 83, 84, 85, 86, 87, 88, 89, 90, 91, 92, 93, 94, 95, 96, 97, 98, 99, 100, 101, 102, 353, 354, 355, 356, 357, 358, 359, 360, 361, 349, 350, 351, 352, 362, 363, 364, 365, 366, 367, 368, 369, 370, 371, 372, 373, 374, 375, 376, 377, 378, 379, 380, 381, 382, 383] (by decide +kernel) (by decide +kernel)
set_option maxRecDepth 20000 in
theorem gL_texts_X5_init : GoodIn wsL_texts (wsX5_init) := ggL_texts_X5_init
set_option maxRecDepth 20000 in
theorem ggL_texts_L_types : GoodIn wsL_texts wsL_types := goodIn_r _ [105, 106, 107, 108, 109, 25, 110, 111, 53, 112, 113, 114, 115, 116, 117, 118, 119, 52, 120, 121, 101, 349, 350, 351, 352, 365, 366, 367, 368, 369, 370, 371, 372, 373] (by rfl) (by decide +kernel)
set_option maxRecDepth 20000 in
theorem gL_texts_L_types : GoodIn wsL_texts (va_wsS RL 110 yL_types wsL_types) := goodIn_app (goodIn_of _ (by decide +kernel)) ggL_texts_L_types
set_option maxRecDepth 20000 in
theorem ggL_texts_X5_play : GoodIn wsL_texts wsX5_play := goodIn_r _ [169, 45, 126, 127, 53, 128, 170, 171, 113, 49, 172, 173, 131, 132, 133, 52, 134, 135, 136, 121, 137, 138, 139, 140, 141, 142, 143, 144, 145, 102, 146, 147, 148, 149, 150, 151, 152, 153, 101, 154, 155, 156, 157, 158, 159, 160, 161, 162, 163, 164, 165, 174, 175, 176, 44, 177, 178, 179, 180, 181, 182, 73, 183, 184, 185, 48, 186, 187, 188, 96, 189, 190, 191, 192, 62, 66, 193, 194, 195, 196, 197, 75, 76, 77, 78, 198, 199, 200, 56, 201, 82, 83, 202, 84, 85, 203, 204, 205, 206, 207, 208, 209, 65, 210, 89, 211, 90, 212, 213, 214, 215, 25, 216, 217, 218, 219, 220, 221, 222, 223, 224, 225, 226, 227, 228, 229, 230, 231, 232, 233, 234, 235, 236, 237, 238, 239, 240, 241, 242, 243, 244, 245, 246, 247, 248, 249, 250, 251, 252, 253, 254, 255, 256, 257, 258, 259, 260, 261, 262, 263, 264, 265, 266, 267, 268, 269, 270, 271, 272, 273, 274, 275, 276, 277, 278, 279, 280, 281, 282, 283, 284, 285, 286, 287, 288, 289, 290, 291, 292, 349, 350, 351, 352, 353, 354, 355, 356, 357, 358, 359, 360, 361, 374, 375, 376, 377, 378, 379, 380, 381, 365, 366, 367, 368, 369, 370, 371, 372, 373, 362, 363, 364, 382, 383] (by decide +kernel) (by decide +kernel)
set_option maxRecDepth 20000 in
theorem gL_texts_X5_play : GoodIn wsL_texts (wsV RL 114 RX5 yX5_play wsX5_play) := goodIn_app (goodIn_of _ (by decide +kernel)) ggL_texts_X5_play
set_option maxRecDepth 20000 in
theorem ggL_texts_X5_count : GoodIn wsL_texts wsX5_count := goodIn_r _ [296, 45, 126, 127, 297, 298, 299, 49, 300, 53, 112, 301, 302, 303, 44, 304, 178, 62, 231, 305, 237, 238, 239, 306, 307, 308, 309, 310, 311, 65, 312, 265, 266, 267, 268, 90, 313, 224, 225, 226, 197, 314, 180, 181, 182, 73, 315, 316, 317, 25, 318, 111, 319, 114, 115, 116, 349, 350, 351, 352, 353, 354, 355, 356, 357, 358, 359, 360, 361, 374, 375, 376, 377, 378, 379, 380, 381, 362, 363, 364, 365, 366, 367, 368, 369, 370, 371, 372, 373, 382, 383] (by decide +kernel) (by decide +kernel)
set_option maxRecDepth 20000 in
theorem gL_texts_X5_count : GoodIn wsL_texts (wsV RL 13 RX5 yX5_count wsX5_count) := goodIn_app (goodIn_of _ (by decide +kernel)) ggL_texts_X5_count
set_option maxRecDepth 20000 in
theorem ggL_texts_X5_stageOf : GoodIn wsL_texts wsX5_stageOf := goodIn_r _ [323, 45, 126, 111, 324, 325, 326, 285, 286, 287, 56, 288, 82, 327, 241, 242, 243, 83, 84, 328, 245, 246, 247, 85, 240, 329, 330, 331, 332, 244, 349, 350, 351, 352, 353, 354, 355, 356, 357, 358, 359, 360, 361, 374, 375, 376, 377, 378, 379, 380, 381] (by decide +kernel) (by decide +kernel)
set_option maxRecDepth 20000 in
theorem gL_texts_X5_stageOf : GoodIn wsL_texts (wsV RL 19 RX5 yX5_stageOf wsX5_stageOf) := goodIn_app (goodIn_of _ (by decide +kernel)) ggL_texts_X5_stageOf
set_option maxRecDepth 20000 in
theorem ggL_texts_X5_undo : GoodIn wsL_texts wsX5_undo := goodIn_r _ [336, 49, 300, 170, 45, 337, 338, 339, 48, 340, 187, 96, 188, 189, 190, 191, 44, 192, 62, 66, 73, 193, 194, 195, 196, 178, 197, 75, 76, 77, 78, 198, 199, 200, 56, 201, 82, 83, 202, 84, 85, 203, 204, 205, 206, 207, 208, 209, 65, 210, 89, 211, 90, 349, 350, 351, 352, 362, 363, 364, 353, 354, 355, 356, 357, 358, 359, 360, 361, 374, 375, 376, 377, 378, 379, 380, 381, 382, 383] (by decide +kernel) (by decide +kernel)
set_option maxRecDepth 20000 in
theorem gL_texts_X5_undo : GoodIn wsL_texts (wsV RL 80 RX5 yX5_undo wsX5_undo) := goodIn_app (goodIn_of _ (by decide +kernel)) ggL_texts_X5_undo
set_option maxRecDepth 20000 in
theorem ggL_texts_X5_clearText : GoodIn wsL_texts wsX5_clearText := goodIn_r _ [344, 53, 112, 345, 346, 347, 52, 348, 121, 349, 350, 351, 352, 365, 366, 367, 368, 369, 370, 371, 372, 373] (by decide +kernel) (by decide +kernel)
set_option maxRecDepth 20000 in
theorem gL_texts_X5_clearText : GoodIn wsL_texts (wsV RL 169 RX5 yX5_clearText wsX5_clearText) := goodIn_app (goodIn_of _ (by decide +kernel)) ggL_texts_X5_clearText
set_option maxRecDepth 20000 in
theorem ggL_texts_X5_type : GoodIn wsL_texts wsX5_type := goodIn_r _ [110, 111, 53, 112, 113, 114, 115, 25, 116, 117, 118, 119, 52, 120, 121, 101, 349, 350, 351, 352, 365, 366, 367, 368, 369, 370, 371, 372, 373] (by decide +kernel) (by decide +kernel)
set_option maxRecDepth 20000 in
theorem gL_texts_X5_type : GoodIn wsL_texts (wsV RL 65 RX5 yX5_type wsX5_type) := goodIn_app (goodIn_of _ (by decide +kernel)) ggL_texts_X5_type
theorem dL_texts_0 : decode cL_texts 0 = .ok (.lconst 0, 1) := by decide +kernel
theorem dL_texts_1 : decode cL_texts 1 = .ok (.lconst 0, 1) := by decide +kernel
theorem dL_texts_2 : decode cL_texts 2 = .ok (.ldc 52, 2) := by decide +kernel
theorem dL_texts_4 : decode cL_texts 4 = .ok (.iconst 0, 1) := by decide +kernel
theorem dL_texts_5 : decode cL_texts 5 = .ok (.iconst 0, 1) := by decide +kernel
theorem dL_texts_6 : decode cL_texts 6 = .ok (.invokestatic 117, 3) := by decide +kernel
theorem dL_texts_9 : decode cL_texts 9 = .ok (.ifCond .eq 123, 3) := by decide +kernel
theorem dL_texts_12 : decode cL_texts 12 = .ok (.ldc2_w 121, 3) := by decide +kernel
theorem dL_texts_15 : decode cL_texts 15 = .ok (.lconst 0, 1) := by decide +kernel
theorem dL_texts_16 : decode cL_texts 16 = .ok (.iconst 0, 1) := by decide +kernel
theorem dL_texts_17 : decode cL_texts 17 = .ok (.iconst 1, 1) := by decide +kernel
theorem dL_texts_18 : decode cL_texts 18 = .ok (.iconst 1, 1) := by decide +kernel
theorem dL_texts_19 : decode cL_texts 19 = .ok (.invokestatic 117, 3) := by decide +kernel
theorem dL_texts_22 : decode cL_texts 22 = .ok (.ifCond .eq 110, 3) := by decide +kernel
theorem dL_texts_25 : decode cL_texts 25 = .ok (.ldc2_w 123, 3) := by decide +kernel
theorem dL_texts_28 : decode cL_texts 28 = .ok (.lconst 0, 1) := by decide +kernel
theorem dL_texts_29 : decode cL_texts 29 = .ok (.ldc 52, 2) := by decide +kernel
theorem dL_texts_31 : decode cL_texts 31 = .ok (.iconst 0, 1) := by decide +kernel
theorem dL_texts_32 : decode cL_texts 32 = .ok (.iconst 0, 1) := by decide +kernel
theorem dL_texts_33 : decode cL_texts 33 = .ok (.invokestatic 117, 3) := by decide +kernel
theorem dL_texts_36 : decode cL_texts 36 = .ok (.ifCond .eq 96, 3) := by decide +kernel
theorem dL_texts_39 : decode cL_texts 39 = .ok (.ldc2_w 125, 3) := by decide +kernel
theorem dL_texts_42 : decode cL_texts 42 = .ok (.lconst 0, 1) := by decide +kernel
theorem dL_texts_43 : decode cL_texts 43 = .ok (.iconst 0, 1) := by decide +kernel
theorem dL_texts_44 : decode cL_texts 44 = .ok (.iconst 3, 1) := by decide +kernel
theorem dL_texts_45 : decode cL_texts 45 = .ok (.iconst 0, 1) := by decide +kernel
theorem dL_texts_46 : decode cL_texts 46 = .ok (.invokestatic 117, 3) := by decide +kernel
theorem dL_texts_49 : decode cL_texts 49 = .ok (.ifCond .eq 83, 3) := by decide +kernel
theorem dL_texts_52 : decode cL_texts 52 = .ok (.ldc2_w 127, 3) := by decide +kernel
theorem dL_texts_55 : decode cL_texts 55 = .ok (.lconst 0, 1) := by decide +kernel
theorem dL_texts_56 : decode cL_texts 56 = .ok (.ldc 52, 2) := by decide +kernel
theorem dL_texts_58 : decode cL_texts 58 = .ok (.iconst 0, 1) := by decide +kernel
theorem dL_texts_59 : decode cL_texts 59 = .ok (.iconst 0, 1) := by decide +kernel
theorem dL_texts_60 : decode cL_texts 60 = .ok (.invokestatic 117, 3) := by decide +kernel
theorem dL_texts_63 : decode cL_texts 63 = .ok (.ifCond .eq 69, 3) := by decide +kernel
theorem dL_texts_66 : decode cL_texts 66 = .ok (.ldc2_w 129, 3) := by decide +kernel
theorem dL_texts_69 : decode cL_texts 69 = .ok (.lconst 0, 1) := by decide +kernel
theorem dL_texts_70 : decode cL_texts 70 = .ok (.iconst 0, 1) := by decide +kernel
theorem dL_texts_71 : decode cL_texts 71 = .ok (.iconst 1, 1) := by decide +kernel
theorem dL_texts_72 : decode cL_texts 72 = .ok (.bipush 6, 2) := by decide +kernel
theorem dL_texts_74 : decode cL_texts 74 = .ok (.invokestatic 117, 3) := by decide +kernel
theorem dL_texts_77 : decode cL_texts 77 = .ok (.ifCond .eq 55, 3) := by decide +kernel
theorem dL_texts_80 : decode cL_texts 80 = .ok (.ldc2_w 131, 3) := by decide +kernel
theorem dL_texts_83 : decode cL_texts 83 = .ok (.lconst 0, 1) := by decide +kernel
theorem dL_texts_84 : decode cL_texts 84 = .ok (.iconst 0, 1) := by decide +kernel
theorem dL_texts_85 : decode cL_texts 85 = .ok (.iconst 1, 1) := by decide +kernel
theorem dL_texts_86 : decode cL_texts 86 = .ok (.iconst 0, 1) := by decide +kernel
theorem dL_texts_87 : decode cL_texts 87 = .ok (.invokestatic 117, 3) := by decide +kernel
theorem dL_texts_90 : decode cL_texts 90 = .ok (.ifCond .eq 42, 3) := by decide +kernel
theorem dL_texts_93 : decode cL_texts 93 = .ok (.ldc2_w 133, 3) := by decide +kernel
theorem dL_texts_96 : decode cL_texts 96 = .ok (.lconst 0, 1) := by decide +kernel
theorem dL_texts_97 : decode cL_texts 97 = .ok (.iconst 3, 1) := by decide +kernel
theorem dL_texts_98 : decode cL_texts 98 = .ok (.iconst 1, 1) := by decide +kernel
theorem dL_texts_99 : decode cL_texts 99 = .ok (.iconst 1, 1) := by decide +kernel
theorem dL_texts_100 : decode cL_texts 100 = .ok (.invokestatic 117, 3) := by decide +kernel
theorem dL_texts_103 : decode cL_texts 103 = .ok (.ifCond .eq 29, 3) := by decide +kernel
theorem dL_texts_106 : decode cL_texts 106 = .ok (.ldc2_w 135, 3) := by decide +kernel
theorem dL_texts_109 : decode cL_texts 109 = .ok (.lconst 0, 1) := by decide +kernel
theorem dL_texts_110 : decode cL_texts 110 = .ok (.iconst 0, 1) := by decide +kernel
theorem dL_texts_111 : decode cL_texts 111 = .ok (.iconst 1, 1) := by decide +kernel
theorem dL_texts_112 : decode cL_texts 112 = .ok (.iconst 1, 1) := by decide +kernel
theorem dL_texts_113 : decode cL_texts 113 = .ok (.invokestatic 117, 3) := by decide +kernel
theorem dL_texts_116 : decode cL_texts 116 = .ok (.ifCond .eq 16, 3) := by decide +kernel
theorem dL_texts_119 : decode cL_texts 119 = .ok (.ldc2_w 137, 3) := by decide +kernel
theorem dL_texts_122 : decode cL_texts 122 = .ok (.lconst 0, 1) := by decide +kernel
theorem dL_texts_123 : decode cL_texts 123 = .ok (.iconst 0, 1) := by decide +kernel
theorem dL_texts_124 : decode cL_texts 124 = .ok (.iconst 1, 1) := by decide +kernel
theorem dL_texts_125 : decode cL_texts 125 = .ok (.iconst 2, 1) := by decide +kernel
theorem dL_texts_126 : decode cL_texts 126 = .ok (.invokestatic 117, 3) := by decide +kernel
theorem dL_texts_129 : decode cL_texts 129 = .ok (.ifCond .ne 5, 3) := by decide +kernel
theorem dL_texts_132 : decode cL_texts 132 = .ok (.iconst 0, 1) := by decide +kernel
theorem dL_texts_133 : decode cL_texts 133 = .ok (.ireturn, 1) := by decide +kernel
theorem dL_texts_134 : decode cL_texts 134 = .ok (.ldc2_w 139, 3) := by decide +kernel
theorem dL_texts_137 : decode cL_texts 137 = .ok (.lconst 0, 1) := by decide +kernel
theorem dL_texts_138 : decode cL_texts 138 = .ok (.iconst 0, 1) := by decide +kernel
theorem dL_texts_139 : decode cL_texts 139 = .ok (.iconst 2, 1) := by decide +kernel
theorem dL_texts_140 : decode cL_texts 140 = .ok (.ldc 52, 2) := by decide +kernel
theorem dL_texts_142 : decode cL_texts 142 = .ok (.invokestatic 117, 3) := by decide +kernel
theorem dL_texts_145 : decode cL_texts 145 = .ok (.ifCond .eq 133, 3) := by decide +kernel
theorem dL_texts_148 : decode cL_texts 148 = .ok (.ldc2_w 141, 3) := by decide +kernel
theorem dL_texts_151 : decode cL_texts 151 = .ok (.ldc2_w 143, 3) := by decide +kernel
theorem dL_texts_154 : decode cL_texts 154 = .ok (.iconst 0, 1) := by decide +kernel
theorem dL_texts_155 : decode cL_texts 155 = .ok (.iconst 2, 1) := by decide +kernel
theorem dL_texts_156 : decode cL_texts 156 = .ok (.ldc 52, 2) := by decide +kernel
theorem dL_texts_158 : decode cL_texts 158 = .ok (.invokestatic 117, 3) := by decide +kernel
theorem dL_texts_161 : decode cL_texts 161 = .ok (.ifCond .eq 117, 3) := by decide +kernel
theorem dL_texts_164 : decode cL_texts 164 = .ok (.ldc2_w 145, 3) := by decide +kernel
theorem dL_texts_167 : decode cL_texts 167 = .ok (.ldc2_w 143, 3) := by decide +kernel
theorem dL_texts_170 : decode cL_texts 170 = .ok (.ldc 52, 2) := by decide +kernel
theorem dL_texts_172 : decode cL_texts 172 = .ok (.iconst 0, 1) := by decide +kernel
theorem dL_texts_173 : decode cL_texts 173 = .ok (.iconst 0, 1) := by decide +kernel
theorem dL_texts_174 : decode cL_texts 174 = .ok (.invokestatic 117, 3) := by decide +kernel
theorem dL_texts_177 : decode cL_texts 177 = .ok (.ifCond .eq 101, 3) := by decide +kernel
theorem dL_texts_180 : decode cL_texts 180 = .ok (.ldc2_w 147, 3) := by decide +kernel
theorem dL_texts_183 : decode cL_texts 183 = .ok (.ldc2_w 143, 3) := by decide +kernel
theorem dL_texts_186 : decode cL_texts 186 = .ok (.iconst 0, 1) := by decide +kernel
theorem dL_texts_187 : decode cL_texts 187 = .ok (.iconst 3, 1) := by decide +kernel
theorem dL_texts_188 : decode cL_texts 188 = .ok (.iconst 1, 1) := by decide +kernel
theorem dL_texts_189 : decode cL_texts 189 = .ok (.invokestatic 117, 3) := by decide +kernel
theorem dL_texts_192 : decode cL_texts 192 = .ok (.ifCond .eq 86, 3) := by decide +kernel
theorem dL_texts_195 : decode cL_texts 195 = .ok (.ldc2_w 149, 3) := by decide +kernel
theorem dL_texts_198 : decode cL_texts 198 = .ok (.ldc2_w 143, 3) := by decide +kernel
theorem dL_texts_201 : decode cL_texts 201 = .ok (.iconst 0, 1) := by decide +kernel
theorem dL_texts_202 : decode cL_texts 202 = .ok (.iconst 3, 1) := by decide +kernel
theorem dL_texts_203 : decode cL_texts 203 = .ok (.iconst 2, 1) := by decide +kernel
theorem dL_texts_204 : decode cL_texts 204 = .ok (.invokestatic 117, 3) := by decide +kernel
theorem dL_texts_207 : decode cL_texts 207 = .ok (.ifCond .eq 71, 3) := by decide +kernel
theorem dL_texts_210 : decode cL_texts 210 = .ok (.ldc2_w 151, 3) := by decide +kernel
theorem dL_texts_213 : decode cL_texts 213 = .ok (.lconst 0, 1) := by decide +kernel
theorem dL_texts_214 : decode cL_texts 214 = .ok (.iconst 0, 1) := by decide +kernel
theorem dL_texts_215 : decode cL_texts 215 = .ok (.iconst 1, 1) := by decide +kernel
theorem dL_texts_216 : decode cL_texts 216 = .ok (.iconst 2, 1) := by decide +kernel
theorem dL_texts_217 : decode cL_texts 217 = .ok (.invokestatic 117, 3) := by decide +kernel
theorem dL_texts_220 : decode cL_texts 220 = .ok (.ifCond .eq 58, 3) := by decide +kernel
theorem dL_texts_223 : decode cL_texts 223 = .ok (.ldc2_w 153, 3) := by decide +kernel
theorem dL_texts_226 : decode cL_texts 226 = .ok (.lconst 0, 1) := by decide +kernel
theorem dL_texts_227 : decode cL_texts 227 = .ok (.iconst 0, 1) := by decide +kernel
theorem dL_texts_228 : decode cL_texts 228 = .ok (.iconst 1, 1) := by decide +kernel
theorem dL_texts_229 : decode cL_texts 229 = .ok (.iconst 4, 1) := by decide +kernel
theorem dL_texts_230 : decode cL_texts 230 = .ok (.invokestatic 117, 3) := by decide +kernel
theorem dL_texts_233 : decode cL_texts 233 = .ok (.ifCond .eq 45, 3) := by decide +kernel
theorem dL_texts_236 : decode cL_texts 236 = .ok (.ldc2_w 155, 3) := by decide +kernel
theorem dL_texts_239 : decode cL_texts 239 = .ok (.lconst 0, 1) := by decide +kernel
theorem dL_texts_240 : decode cL_texts 240 = .ok (.iconst 0, 1) := by decide +kernel
theorem dL_texts_241 : decode cL_texts 241 = .ok (.iconst 1, 1) := by decide +kernel
theorem dL_texts_242 : decode cL_texts 242 = .ok (.iconst 4, 1) := by decide +kernel
theorem dL_texts_243 : decode cL_texts 243 = .ok (.invokestatic 117, 3) := by decide +kernel
theorem dL_texts_246 : decode cL_texts 246 = .ok (.ifCond .eq 32, 3) := by decide +kernel
theorem dL_texts_249 : decode cL_texts 249 = .ok (.ldc2_w 157, 3) := by decide +kernel
theorem dL_texts_252 : decode cL_texts 252 = .ok (.ldc2_w 159, 3) := by decide +kernel
theorem dL_texts_255 : decode cL_texts 255 = .ok (.ldc 52, 2) := by decide +kernel
theorem dL_texts_257 : decode cL_texts 257 = .ok (.iconst 0, 1) := by decide +kernel
theorem dL_texts_258 : decode cL_texts 258 = .ok (.iconst 0, 1) := by decide +kernel
theorem dL_texts_259 : decode cL_texts 259 = .ok (.invokestatic 117, 3) := by decide +kernel
