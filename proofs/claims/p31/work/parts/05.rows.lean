set_option maxRecDepth 20000 in
theorem ggL_refuses_L_call : GoodIn wsL_refuses wsL_call := goodIn_ca (goodIn_ca (goodIn_ca (goodIn_r _ [8, 9, 10, 7, 11, 12, 13, 1, 14, 15, 16, 17, 18, 19, 20, 21, 22, 23, 24, 25, 26, 27, 28, 29, 30, 31, 32, 33, 34, 35, 36, 37, 38, 39, 40, 41, 42, 43, 44, 45, 46, 47, 48, 49, 50, 51, 52, 2, 53, 54, 55, 56, 57, 58, 59, 60, 61, 62, 63, 64, 65, 66, 67, 68, 69, 70, 71, 72, 73, 74, 75, 76, 77, 78, 79, 80, 81, 82, 83, 84, 85, 86, 87, 88, 89, 90, 91, 92, 93, 94, 95, 96, 97, 98, 99, 100, 101, 102, 103, 104, 105, 106, 107, 108, 109, 110, 111, 112, 113, 114, 115, 116, 117, 118, 119, 120, 121, 122, 123, 124, 125, 126, 127, 128, 129, 130, 131, 132, 133, 134, 135, 136, 137, 138, 139, 140, 141, 142, 143, 144, 145, 146, 147, 148, 149, 150, 151, 152, 153, 154, 155, 156, 157, 158, 159, 160, 161, 162, 163, 164, 165, 166, 167, 168, 169, 170, 171, 172, 173, 174, 175, 176, 177, 178, 179, 180, 181, 182, 183, 184, 185, 186, 187, 188, 189, 190, 191, 192, 193, 194, 195, 196, 197, 198, 199, 200, 201, 202, 203, 204, 205, 206, 207, 208, 209, 210, 211, 212, 213, 214, 215, 216, 217, 218, 219, 220, 221, 222, 223, 224, 225, 226, 227, 228, 229, 230, 231, 232, 233, 234, 235, 236, 237, 238, 239, 240, 241, 242, 243, 244, 245, 246, 247, 248, 249, 250, 251, 252, 253, 254, 255, 256, 257, 258, 259, 260, 261, 262, 263, 264, 265, 266, 267, 268, 269, 270, 271, 272, 273, 274, 275, 276, 277, 278, 279, 280, 281, 282, 283, 284, 285, 286, 287, 288, 289, 290, 291, 292, 293, 294, 295, 296, 297, 298, 299, 300, 301, 302, 303, 304, 305, 306, 307, 308, 309, 310, 311, 312, 313, 314, 315, 316, 317, 318, 319, 320, 321, 322, 323, 324, 325, 326, 327, 328, 329, 330, 331, 332, 333, 334, 335, 336, 337, 338, 339, 340, 341, 342, 343, 344, 345, 346, 347, 348, 349, 350, 351, 352, 353, 354, 355, 356, 357, 358, 359, 360, 361, 362, 363, 364, 365, 366, 367, 368, 369, 370, 371, 372, 373, 374, 375, 376, 377, 378, 379, 380, 381, 382, 383, 384, 385, 386, 387, 388, 389, 390, 391, 392, 393, 394, 395, 396, 397, 398, 465, 466, 467, 468, 469, 470, 471, 472, 473, 474, 475, 476, 477, 478, 479, 480, 481, 482, 483, 484, 485, 486, 487, 488, 489, 490, 491, 492, 493, 494, 495, 496, 497, 498, 499, 500] (by decide +kernel) (by decide +kernel)) (goodIn_sub (fun _ h => List.mem_cons_of_mem _ (List.mem_append_left _ (List.mem_append_left _ (List.mem_append_right _ h)))) (by decide +kernel))) (goodIn_sub (fun _ h => List.mem_cons_of_mem _ (List.mem_append_left _ (List.mem_append_right _ h))) (by decide +kernel))) (goodIn_sub (fun _ h => List.mem_cons_of_mem _ (List.mem_append_right _ h)) (by decide +kernel))
set_option maxRecDepth 20000 in
theorem gL_refuses_L_call : GoodIn wsL_refuses (va_wsS RL 156 yL_call wsL_call) := goodIn_app (goodIn_of _ (by decide +kernel)) ggL_refuses_L_call
set_option maxRecDepth 20000 in
theorem ggL_refuses_L_tryGo : GoodIn wsL_refuses wsL_tryGo := goodIn_ca (goodIn_r _ [401, 52, 2, 402, 403, 404, 18, 405, 170, 40, 105, 106, 107, 62, 63, 108, 109, 110, 175, 176, 177, 178, 179, 180, 181, 182, 183, 184, 185, 91, 186, 93, 187, 188, 189, 190, 120, 115, 191, 192, 193, 194, 195, 196, 197, 198, 199, 200, 201, 70, 202, 126, 203, 204, 205, 72, 206, 131, 207, 208, 379, 304, 305, 306, 116, 117, 118, 119, 121, 122, 123, 124, 125, 127, 128, 129, 130, 307, 308, 309, 310, 311, 312, 313, 314, 315, 316, 317, 318, 319, 320, 321, 322, 148, 149, 150, 323, 324, 325, 326, 327, 328, 329, 330, 331, 332, 465, 466, 467, 468, 469, 470, 498, 499, 500, 479, 480, 481, 482, 483, 484, 485, 486, 487, 488, 489, 490, 491, 492, 493, 494, 495, 496, 497] (by decide +kernel) (by decide +kernel)) (goodIn_sub (fun _ h => List.mem_cons_of_mem _ (List.mem_append_right _ h)) (by decide +kernel))
set_option maxRecDepth 20000 in
theorem gL_refuses_L_tryGo : GoodIn wsL_refuses (va_wsS RL 160 yL_tryGo wsL_tryGo) := goodIn_app (goodIn_of _ (by decide +kernel)) ggL_refuses_L_tryGo
set_option maxRecDepth 20000 in
theorem ggL_refuses_L_trySimulate : GoodIn wsL_refuses wsL_trySimulate := goodIn_ca (goodIn_r _ [408, 12, 1, 409, 410, 411, 18, 412, 20, 21, 356, 40, 413, 414, 42, 415, 320, 313, 321, 357, 184, 185, 91, 186, 93, 187, 188, 189, 190, 120, 115, 191, 192, 193, 194, 195, 196, 197, 198, 199, 200, 201, 70, 202, 126, 203, 204, 205, 72, 206, 131, 207, 208, 379, 304, 305, 306, 116, 117, 118, 119, 121, 122, 123, 124, 125, 127, 128, 129, 130, 307, 308, 309, 310, 311, 312, 314, 315, 316, 317, 318, 319, 322, 148, 149, 150, 323, 324, 325, 326, 327, 328, 329, 330, 331, 332, 416, 417, 418, 419, 420, 465, 466, 467, 468, 469, 470, 479, 480, 481, 482, 483, 484, 485, 486, 487, 488, 489, 490, 491, 492, 493, 494, 495, 496, 497] (by decide +kernel) (by decide +kernel)) (goodIn_sub (fun _ h => List.mem_cons_of_mem _ (List.mem_append_left _ (List.mem_append_left _ (List.mem_append_right _ h)))) (by decide +kernel))
set_option maxRecDepth 20000 in
theorem gL_refuses_L_trySimulate : GoodIn wsL_refuses (va_wsS RL 164 yL_trySimulate wsL_trySimulate) := goodIn_app (goodIn_of _ (by decide +kernel)) ggL_refuses_L_trySimulate
set_option maxRecDepth 20000 in
theorem ggL_refuses_L_tryScript : GoodIn wsL_refuses wsL_tryScript := goodIn_ca (goodIn_r _ [423, 12, 1, 424, 425, 426, 18, 427, 20, 21, 356, 40, 428, 158, 429, 430, 431, 357, 184, 185, 91, 186, 93, 187, 188, 189, 190, 120, 115, 191, 192, 193, 194, 195, 196, 197, 198, 199, 200, 201, 70, 202, 126, 203, 204, 205, 72, 206, 131, 207, 208, 432, 433, 434, 435, 436, 437, 438, 439, 440, 441, 442, 109, 110, 443, 304, 305, 306, 116, 117, 118, 119, 121, 122, 123, 124, 125, 127, 128, 129, 130, 307, 308, 309, 310, 311, 312, 313, 314, 315, 316, 317, 318, 319, 320, 321, 322, 148, 149, 150, 323, 324, 325, 326, 327, 328, 329, 330, 331, 332, 444, 445, 446, 65, 66, 172, 173, 174, 447, 210, 211, 212, 213, 214, 215, 216, 217, 218, 219, 220, 221, 222, 223, 224, 225, 226, 227, 448, 449, 450, 236, 237, 238, 239, 451, 241, 242, 243, 452, 453, 454, 455, 456, 457, 458, 459, 89, 90, 92, 460, 252, 253, 254, 461, 462, 463, 464, 112, 113, 114, 465, 466, 467, 468, 469, 470, 479, 480, 481, 482, 483, 484, 485, 486, 487, 488, 489, 490, 491, 492, 493, 494, 495, 496, 497] (by decide +kernel) (by decide +kernel)) (goodIn_sub (fun _ h => List.mem_cons_of_mem _ (List.mem_append_left _ (List.mem_append_left _ (List.mem_append_right _ h)))) (by decide +kernel))
set_option maxRecDepth 20000 in
theorem gL_refuses_L_tryScript : GoodIn wsL_refuses (va_wsS RL 168 yL_tryScript wsL_tryScript) := goodIn_app (goodIn_of _ (by decide +kernel)) ggL_refuses_L_tryScript
theorem dL_refuses_0 : decode cL_refuses 0 = .ok (.iconst 1, 1) := by decide +kernel
theorem dL_refuses_1 : decode cL_refuses 1 = .ok (.aload_n 0, 1) := by decide +kernel
theorem dL_refuses_2 : decode cL_refuses 2 = .ok (.iconst 1, 1) := by decide +kernel
theorem dL_refuses_3 : decode cL_refuses 3 = .ok (.bipush 7, 2) := by decide +kernel
theorem dL_refuses_5 : decode cL_refuses 5 = .ok (.iconst 0, 1) := by decide +kernel
theorem dL_refuses_6 : decode cL_refuses 6 = .ok (.iconst 0, 1) := by decide +kernel
theorem dL_refuses_7 : decode cL_refuses 7 = .ok (.invokestatic 156, 3) := by decide +kernel
theorem dL_refuses_10 : decode cL_refuses 10 = .ok (.ishl, 1) := by decide +kernel
theorem dL_refuses_11 : decode cL_refuses 11 = .ok (.istore_n 2, 1) := by decide +kernel
theorem dL_refuses_12 : decode cL_refuses 12 = .ok (.aload_n 0, 1) := by decide +kernel
theorem dL_refuses_13 : decode cL_refuses 13 = .ok (.iconst 1, 1) := by decide +kernel
theorem dL_refuses_14 : decode cL_refuses 14 = .ok (.bipush 8, 2) := by decide +kernel
theorem dL_refuses_16 : decode cL_refuses 16 = .ok (.iconst 0, 1) := by decide +kernel
theorem dL_refuses_17 : decode cL_refuses 17 = .ok (.iconst 0, 1) := by decide +kernel
theorem dL_refuses_18 : decode cL_refuses 18 = .ok (.invokestatic 156, 3) := by decide +kernel
theorem dL_refuses_21 : decode cL_refuses 21 = .ok (.istore_n 3, 1) := by decide +kernel
theorem dL_refuses_22 : decode cL_refuses 22 = .ok (.aload_n 0, 1) := by decide +kernel
theorem dL_refuses_23 : decode cL_refuses 23 = .ok (.iconst 1, 1) := by decide +kernel
theorem dL_refuses_24 : decode cL_refuses 24 = .ok (.bipush 10, 2) := by decide +kernel
theorem dL_refuses_26 : decode cL_refuses 26 = .ok (.iload_n 1, 1) := by decide +kernel
theorem dL_refuses_27 : decode cL_refuses 27 = .ok (.bipush 9, 2) := by decide +kernel
theorem dL_refuses_29 : decode cL_refuses 29 = .ok (.irem, 1) := by decide +kernel
theorem dL_refuses_30 : decode cL_refuses 30 = .ok (.iadd, 1) := by decide +kernel
theorem dL_refuses_31 : decode cL_refuses 31 = .ok (.iconst 0, 1) := by decide +kernel
theorem dL_refuses_32 : decode cL_refuses 32 = .ok (.iconst 0, 1) := by decide +kernel
theorem dL_refuses_33 : decode cL_refuses 33 = .ok (.invokestatic 156, 3) := by decide +kernel
theorem dL_refuses_36 : decode cL_refuses 36 = .ok (.ldc 15, 2) := by decide +kernel
theorem dL_refuses_38 : decode cL_refuses 38 = .ok (.if_icmp .ne 87, 3) := by decide +kernel
theorem dL_refuses_41 : decode cL_refuses 41 = .ok (.aload_n 0, 1) := by decide +kernel
theorem dL_refuses_42 : decode cL_refuses 42 = .ok (.iconst 2, 1) := by decide +kernel
theorem dL_refuses_43 : decode cL_refuses 43 = .ok (.iconst 2, 1) := by decide +kernel
theorem dL_refuses_44 : decode cL_refuses 44 = .ok (.iload_n 1, 1) := by decide +kernel
theorem dL_refuses_45 : decode cL_refuses 45 = .ok (.bipush 9, 2) := by decide +kernel
theorem dL_refuses_47 : decode cL_refuses 47 = .ok (.irem, 1) := by decide +kernel
theorem dL_refuses_48 : decode cL_refuses 48 = .ok (.iadd, 1) := by decide +kernel
theorem dL_refuses_49 : decode cL_refuses 49 = .ok (.bipush 9, 2) := by decide +kernel
theorem dL_refuses_51 : decode cL_refuses 51 = .ok (.iconst 0, 1) := by decide +kernel
theorem dL_refuses_52 : decode cL_refuses 52 = .ok (.invokestatic 156, 3) := by decide +kernel
theorem dL_refuses_55 : decode cL_refuses 55 = .ok (.ldc 26, 2) := by decide +kernel
theorem dL_refuses_57 : decode cL_refuses 57 = .ok (.if_icmp .ne 68, 3) := by decide +kernel
theorem dL_refuses_60 : decode cL_refuses 60 = .ok (.aload_n 0, 1) := by decide +kernel
theorem dL_refuses_61 : decode cL_refuses 61 = .ok (.iconst 2, 1) := by decide +kernel
theorem dL_refuses_62 : decode cL_refuses 62 = .ok (.iload_n 1, 1) := by decide +kernel
theorem dL_refuses_63 : decode cL_refuses 63 = .ok (.iconst 2, 1) := by decide +kernel
theorem dL_refuses_64 : decode cL_refuses 64 = .ok (.irem, 1) := by decide +kernel
theorem dL_refuses_65 : decode cL_refuses 65 = .ok (.iconst 5, 1) := by decide +kernel
theorem dL_refuses_66 : decode cL_refuses 66 = .ok (.iconst 0, 1) := by decide +kernel
theorem dL_refuses_67 : decode cL_refuses 67 = .ok (.invokestatic 156, 3) := by decide +kernel
theorem dL_refuses_70 : decode cL_refuses 70 = .ok (.ldc 15, 2) := by decide +kernel
theorem dL_refuses_72 : decode cL_refuses 72 = .ok (.if_icmp .ne 53, 3) := by decide +kernel
theorem dL_refuses_75 : decode cL_refuses 75 = .ok (.aload_n 0, 1) := by decide +kernel
theorem dL_refuses_76 : decode cL_refuses 76 = .ok (.iconst 3, 1) := by decide +kernel
theorem dL_refuses_77 : decode cL_refuses 77 = .ok (.iload_n 1, 1) := by decide +kernel
theorem dL_refuses_78 : decode cL_refuses 78 = .ok (.iconst 2, 1) := by decide +kernel
theorem dL_refuses_79 : decode cL_refuses 79 = .ok (.irem, 1) := by decide +kernel
theorem dL_refuses_80 : decode cL_refuses 80 = .ok (.iload_n 2, 1) := by decide +kernel
theorem dL_refuses_81 : decode cL_refuses 81 = .ok (.bipush 9, 2) := by decide +kernel
theorem dL_refuses_83 : decode cL_refuses 83 = .ok (.invokestatic 156, 3) := by decide +kernel
theorem dL_refuses_86 : decode cL_refuses 86 = .ok (.ldc 26, 2) := by decide +kernel
theorem dL_refuses_88 : decode cL_refuses 88 = .ok (.if_icmp .ne 37, 3) := by decide +kernel
theorem dL_refuses_91 : decode cL_refuses 91 = .ok (.aload_n 0, 1) := by decide +kernel
theorem dL_refuses_92 : decode cL_refuses 92 = .ok (.iconst 3, 1) := by decide +kernel
theorem dL_refuses_93 : decode cL_refuses 93 = .ok (.iload_n 1, 1) := by decide +kernel
theorem dL_refuses_94 : decode cL_refuses 94 = .ok (.iconst 2, 1) := by decide +kernel
theorem dL_refuses_95 : decode cL_refuses 95 = .ok (.irem, 1) := by decide +kernel
theorem dL_refuses_96 : decode cL_refuses 96 = .ok (.iload_n 1, 1) := by decide +kernel
theorem dL_refuses_97 : decode cL_refuses 97 = .ok (.iload_n 2, 1) := by decide +kernel
theorem dL_refuses_98 : decode cL_refuses 98 = .ok (.irem, 1) := by decide +kernel
theorem dL_refuses_99 : decode cL_refuses 99 = .ok (.iconst 4, 1) := by decide +kernel
theorem dL_refuses_100 : decode cL_refuses 100 = .ok (.invokestatic 156, 3) := by decide +kernel
theorem dL_refuses_103 : decode cL_refuses 103 = .ok (.ldc 15, 2) := by decide +kernel
theorem dL_refuses_105 : decode cL_refuses 105 = .ok (.if_icmp .ne 20, 3) := by decide +kernel
theorem dL_refuses_108 : decode cL_refuses 108 = .ok (.aload_n 0, 1) := by decide +kernel
theorem dL_refuses_109 : decode cL_refuses 109 = .ok (.iconst 3, 1) := by decide +kernel
theorem dL_refuses_110 : decode cL_refuses 110 = .ok (.iconst 2, 1) := by decide +kernel
theorem dL_refuses_111 : decode cL_refuses 111 = .ok (.iconst 0, 1) := by decide +kernel
theorem dL_refuses_112 : decode cL_refuses 112 = .ok (.iconst 0, 1) := by decide +kernel
theorem dL_refuses_113 : decode cL_refuses 113 = .ok (.invokestatic 156, 3) := by decide +kernel
theorem dL_refuses_116 : decode cL_refuses 116 = .ok (.ldc 26, 2) := by decide +kernel
theorem dL_refuses_118 : decode cL_refuses 118 = .ok (.if_icmp .ne 7, 3) := by decide +kernel
theorem dL_refuses_121 : decode cL_refuses 121 = .ok (.iconst 1, 1) := by decide +kernel
theorem dL_refuses_122 : decode cL_refuses 122 = .ok (.goto 4, 3) := by decide +kernel
theorem dL_refuses_125 : decode cL_refuses 125 = .ok (.iconst 0, 1) := by decide +kernel
theorem dL_refuses_126 : decode cL_refuses 126 = .ok (.istore 4, 2) := by decide +kernel
theorem dL_refuses_128 : decode cL_refuses 128 = .ok (.iload 4, 2) := by decide +kernel
theorem dL_refuses_130 : decode cL_refuses 130 = .ok (.ifCond .eq 102, 3) := by decide +kernel
theorem dL_refuses_133 : decode cL_refuses 133 = .ok (.aload_n 0, 1) := by decide +kernel
theorem dL_refuses_134 : decode cL_refuses 134 = .ok (.iconst 4, 1) := by decide +kernel
theorem dL_refuses_135 : decode cL_refuses 135 = .ok (.bipush 26, 2) := by decide +kernel
theorem dL_refuses_137 : decode cL_refuses 137 = .ok (.iload_n 1, 1) := by decide +kernel
theorem dL_refuses_138 : decode cL_refuses 138 = .ok (.bipush 9, 2) := by decide +kernel
theorem dL_refuses_140 : decode cL_refuses 140 = .ok (.irem, 1) := by decide +kernel
theorem dL_refuses_141 : decode cL_refuses 141 = .ok (.iadd, 1) := by decide +kernel
theorem dL_refuses_142 : decode cL_refuses 142 = .ok (.iconst 0, 1) := by decide +kernel
theorem dL_refuses_143 : decode cL_refuses 143 = .ok (.iconst 0, 1) := by decide +kernel
theorem dL_refuses_144 : decode cL_refuses 144 = .ok (.invokestatic 156, 3) := by decide +kernel
theorem dL_refuses_147 : decode cL_refuses 147 = .ok (.ldc 26, 2) := by decide +kernel
theorem dL_refuses_149 : decode cL_refuses 149 = .ok (.if_icmp .ne 83, 3) := by decide +kernel
theorem dL_refuses_152 : decode cL_refuses 152 = .ok (.aload_n 0, 1) := by decide +kernel
theorem dL_refuses_153 : decode cL_refuses 153 = .ok (.iconst 4, 1) := by decide +kernel
theorem dL_refuses_154 : decode cL_refuses 154 = .ok (.iload_n 1, 1) := by decide +kernel
theorem dL_refuses_155 : decode cL_refuses 155 = .ok (.bipush 26, 2) := by decide +kernel
theorem dL_refuses_157 : decode cL_refuses 157 = .ok (.irem, 1) := by decide +kernel
theorem dL_refuses_158 : decode cL_refuses 158 = .ok (.iconst 5, 1) := by decide +kernel
theorem dL_refuses_159 : decode cL_refuses 159 = .ok (.iconst 0, 1) := by decide +kernel
theorem dL_refuses_160 : decode cL_refuses 160 = .ok (.invokestatic 156, 3) := by decide +kernel
theorem dL_refuses_163 : decode cL_refuses 163 = .ok (.ldc 15, 2) := by decide +kernel
theorem dL_refuses_165 : decode cL_refuses 165 = .ok (.if_icmp .ne 67, 3) := by decide +kernel
theorem dL_refuses_168 : decode cL_refuses 168 = .ok (.aload_n 0, 1) := by decide +kernel
theorem dL_refuses_169 : decode cL_refuses 169 = .ok (.iconst 5, 1) := by decide +kernel
theorem dL_refuses_170 : decode cL_refuses 170 = .ok (.iconst 2, 1) := by decide +kernel
theorem dL_refuses_171 : decode cL_refuses 171 = .ok (.iconst 0, 1) := by decide +kernel
theorem dL_refuses_172 : decode cL_refuses 172 = .ok (.iconst 0, 1) := by decide +kernel
theorem dL_refuses_173 : decode cL_refuses 173 = .ok (.invokestatic 156, 3) := by decide +kernel
theorem dL_refuses_176 : decode cL_refuses 176 = .ok (.ldc 26, 2) := by decide +kernel
theorem dL_refuses_178 : decode cL_refuses 178 = .ok (.if_icmp .ne 54, 3) := by decide +kernel
theorem dL_refuses_181 : decode cL_refuses 181 = .ok (.aload_n 0, 1) := by decide +kernel
theorem dL_refuses_182 : decode cL_refuses 182 = .ok (.iconst 5, 1) := by decide +kernel
theorem dL_refuses_183 : decode cL_refuses 183 = .ok (.iconst 0, 1) := by decide +kernel
theorem dL_refuses_184 : decode cL_refuses 184 = .ok (.bipush 26, 2) := by decide +kernel
theorem dL_refuses_186 : decode cL_refuses 186 = .ok (.iconst 0, 1) := by decide +kernel
theorem dL_refuses_187 : decode cL_refuses 187 = .ok (.invokestatic 156, 3) := by decide +kernel
theorem dL_refuses_190 : decode cL_refuses 190 = .ok (.ldc 26, 2) := by decide +kernel
theorem dL_refuses_192 : decode cL_refuses 192 = .ok (.if_icmp .ne 40, 3) := by decide +kernel
theorem dL_refuses_195 : decode cL_refuses 195 = .ok (.aload_n 0, 1) := by decide +kernel
theorem dL_refuses_196 : decode cL_refuses 196 = .ok (.bipush 6, 2) := by decide +kernel
theorem dL_refuses_198 : decode cL_refuses 198 = .ok (.iconst (-1), 1) := by decide +kernel
theorem dL_refuses_199 : decode cL_refuses 199 = .ok (.iconst 0, 1) := by decide +kernel
theorem dL_refuses_200 : decode cL_refuses 200 = .ok (.iconst 0, 1) := by decide +kernel
theorem dL_refuses_201 : decode cL_refuses 201 = .ok (.invokestatic 156, 3) := by decide +kernel
theorem dL_refuses_204 : decode cL_refuses 204 = .ok (.ldc 26, 2) := by decide +kernel
theorem dL_refuses_206 : decode cL_refuses 206 = .ok (.if_icmp .ne 26, 3) := by decide +kernel
theorem dL_refuses_209 : decode cL_refuses 209 = .ok (.aload_n 0, 1) := by decide +kernel
theorem dL_refuses_210 : decode cL_refuses 210 = .ok (.bipush 7, 2) := by decide +kernel
theorem dL_refuses_212 : decode cL_refuses 212 = .ok (.iconst (-1), 1) := by decide +kernel
theorem dL_refuses_213 : decode cL_refuses 213 = .ok (.iload_n 1, 1) := by decide +kernel
theorem dL_refuses_214 : decode cL_refuses 214 = .ok (.bipush 9, 2) := by decide +kernel
theorem dL_refuses_216 : decode cL_refuses 216 = .ok (.irem, 1) := by decide +kernel
theorem dL_refuses_217 : decode cL_refuses 217 = .ok (.isub, 1) := by decide +kernel
theorem dL_refuses_218 : decode cL_refuses 218 = .ok (.iconst 0, 1) := by decide +kernel
theorem dL_refuses_219 : decode cL_refuses 219 = .ok (.iconst 0, 1) := by decide +kernel
theorem dL_refuses_220 : decode cL_refuses 220 = .ok (.invokestatic 156, 3) := by decide +kernel
theorem dL_refuses_223 : decode cL_refuses 223 = .ok (.ldc 26, 2) := by decide +kernel
theorem dL_refuses_225 : decode cL_refuses 225 = .ok (.if_icmp .ne 7, 3) := by decide +kernel
theorem dL_refuses_228 : decode cL_refuses 228 = .ok (.iconst 1, 1) := by decide +kernel
theorem dL_refuses_229 : decode cL_refuses 229 = .ok (.goto 4, 3) := by decide +kernel
theorem dL_refuses_232 : decode cL_refuses 232 = .ok (.iconst 0, 1) := by decide +kernel
theorem dL_refuses_233 : decode cL_refuses 233 = .ok (.istore 4, 2) := by decide +kernel
theorem dL_refuses_235 : decode cL_refuses 235 = .ok (.iload 4, 2) := by decide +kernel
theorem dL_refuses_237 : decode cL_refuses 237 = .ok (.ifCond .eq 141, 3) := by decide +kernel
theorem dL_refuses_240 : decode cL_refuses 240 = .ok (.aload_n 0, 1) := by decide +kernel
theorem dL_refuses_241 : decode cL_refuses 241 = .ok (.bipush 8, 2) := by decide +kernel
theorem dL_refuses_243 : decode cL_refuses 243 = .ok (.iconst 2, 1) := by decide +kernel
theorem dL_refuses_244 : decode cL_refuses 244 = .ok (.bipush 9, 2) := by decide +kernel
theorem dL_refuses_246 : decode cL_refuses 246 = .ok (.bipush 9, 2) := by decide +kernel
theorem dL_refuses_248 : decode cL_refuses 248 = .ok (.invokestatic 156, 3) := by decide +kernel
theorem dL_refuses_251 : decode cL_refuses 251 = .ok (.ldc 26, 2) := by decide +kernel
theorem dL_refuses_253 : decode cL_refuses 253 = .ok (.if_icmp .ne 125, 3) := by decide +kernel
theorem dL_refuses_256 : decode cL_refuses 256 = .ok (.aload_n 0, 1) := by decide +kernel
theorem dL_refuses_257 : decode cL_refuses 257 = .ok (.bipush 8, 2) := by decide +kernel
theorem dL_refuses_259 : decode cL_refuses 259 = .ok (.iload_n 1, 1) := by decide +kernel
theorem dL_refuses_260 : decode cL_refuses 260 = .ok (.iconst 2, 1) := by decide +kernel
theorem dL_refuses_261 : decode cL_refuses 261 = .ok (.irem, 1) := by decide +kernel
theorem dL_refuses_262 : decode cL_refuses 262 = .ok (.iconst 0, 1) := by decide +kernel
theorem dL_refuses_263 : decode cL_refuses 263 = .ok (.iconst 5, 1) := by decide +kernel
theorem dL_refuses_264 : decode cL_refuses 264 = .ok (.iload_n 1, 1) := by decide +kernel
theorem dL_refuses_265 : decode cL_refuses 265 = .ok (.bipush 9, 2) := by decide +kernel
theorem dL_refuses_267 : decode cL_refuses 267 = .ok (.irem, 1) := by decide +kernel
theorem dL_refuses_268 : decode cL_refuses 268 = .ok (.iadd, 1) := by decide +kernel
theorem dL_refuses_269 : decode cL_refuses 269 = .ok (.invokestatic 156, 3) := by decide +kernel
theorem dL_refuses_272 : decode cL_refuses 272 = .ok (.ldc 15, 2) := by decide +kernel
theorem dL_refuses_274 : decode cL_refuses 274 = .ok (.if_icmp .ne 104, 3) := by decide +kernel
theorem dL_refuses_277 : decode cL_refuses 277 = .ok (.aload_n 0, 1) := by decide +kernel
theorem dL_refuses_278 : decode cL_refuses 278 = .ok (.bipush 8, 2) := by decide +kernel
theorem dL_refuses_280 : decode cL_refuses 280 = .ok (.iload_n 1, 1) := by decide +kernel
theorem dL_refuses_281 : decode cL_refuses 281 = .ok (.iconst 2, 1) := by decide +kernel
theorem dL_refuses_282 : decode cL_refuses 282 = .ok (.irem, 1) := by decide +kernel
theorem dL_refuses_283 : decode cL_refuses 283 = .ok (.iconst 1, 1) := by decide +kernel
theorem dL_refuses_284 : decode cL_refuses 284 = .ok (.bipush 7, 2) := by decide +kernel
theorem dL_refuses_286 : decode cL_refuses 286 = .ok (.invokestatic 156, 3) := by decide +kernel
theorem dL_refuses_289 : decode cL_refuses 289 = .ok (.ldc 15, 2) := by decide +kernel
theorem dL_refuses_291 : decode cL_refuses 291 = .ok (.if_icmp .ne 87, 3) := by decide +kernel
theorem dL_refuses_294 : decode cL_refuses 294 = .ok (.aload_n 0, 1) := by decide +kernel
theorem dL_refuses_295 : decode cL_refuses 295 = .ok (.bipush 8, 2) := by decide +kernel
theorem dL_refuses_297 : decode cL_refuses 297 = .ok (.iload_n 1, 1) := by decide +kernel
theorem dL_refuses_298 : decode cL_refuses 298 = .ok (.iconst 2, 1) := by decide +kernel
theorem dL_refuses_299 : decode cL_refuses 299 = .ok (.irem, 1) := by decide +kernel
theorem dL_refuses_300 : decode cL_refuses 300 = .ok (.iconst 2, 1) := by decide +kernel
theorem dL_refuses_301 : decode cL_refuses 301 = .ok (.iconst (-1), 1) := by decide +kernel
theorem dL_refuses_302 : decode cL_refuses 302 = .ok (.invokestatic 156, 3) := by decide +kernel
theorem dL_refuses_305 : decode cL_refuses 305 = .ok (.ldc 15, 2) := by decide +kernel
theorem dL_refuses_307 : decode cL_refuses 307 = .ok (.if_icmp .ne 71, 3) := by decide +kernel
theorem dL_refuses_310 : decode cL_refuses 310 = .ok (.aload_n 0, 1) := by decide +kernel
theorem dL_refuses_311 : decode cL_refuses 311 = .ok (.bipush 8, 2) := by decide +kernel
theorem dL_refuses_313 : decode cL_refuses 313 = .ok (.iload_n 1, 1) := by decide +kernel
theorem dL_refuses_314 : decode cL_refuses 314 = .ok (.iconst 2, 1) := by decide +kernel
theorem dL_refuses_315 : decode cL_refuses 315 = .ok (.irem, 1) := by decide +kernel
theorem dL_refuses_316 : decode cL_refuses 316 = .ok (.iconst 3, 1) := by decide +kernel
theorem dL_refuses_317 : decode cL_refuses 317 = .ok (.iconst 0, 1) := by decide +kernel
theorem dL_refuses_318 : decode cL_refuses 318 = .ok (.invokestatic 156, 3) := by decide +kernel
theorem dL_refuses_321 : decode cL_refuses 321 = .ok (.ldc 15, 2) := by decide +kernel
theorem dL_refuses_323 : decode cL_refuses 323 = .ok (.if_icmp .ne 55, 3) := by decide +kernel
theorem dL_refuses_326 : decode cL_refuses 326 = .ok (.aload_n 0, 1) := by decide +kernel
theorem dL_refuses_327 : decode cL_refuses 327 = .ok (.bipush 9, 2) := by decide +kernel
theorem dL_refuses_329 : decode cL_refuses 329 = .ok (.iconst 0, 1) := by decide +kernel
theorem dL_refuses_330 : decode cL_refuses 330 = .ok (.iconst 1, 1) := by decide +kernel
theorem dL_refuses_331 : decode cL_refuses 331 = .ok (.iconst 0, 1) := by decide +kernel
theorem dL_refuses_332 : decode cL_refuses 332 = .ok (.invokestatic 156, 3) := by decide +kernel
theorem dL_refuses_335 : decode cL_refuses 335 = .ok (.ldc 15, 2) := by decide +kernel
theorem dL_refuses_337 : decode cL_refuses 337 = .ok (.if_icmp .ne 41, 3) := by decide +kernel
theorem dL_refuses_340 : decode cL_refuses 340 = .ok (.aload_n 0, 1) := by decide +kernel
theorem dL_refuses_341 : decode cL_refuses 341 = .ok (.bipush 9, 2) := by decide +kernel
theorem dL_refuses_343 : decode cL_refuses 343 = .ok (.iconst 1, 1) := by decide +kernel
theorem dL_refuses_344 : decode cL_refuses 344 = .ok (.iconst 5, 1) := by decide +kernel
theorem dL_refuses_345 : decode cL_refuses 345 = .ok (.iconst 0, 1) := by decide +kernel
theorem dL_refuses_346 : decode cL_refuses 346 = .ok (.invokestatic 156, 3) := by decide +kernel
theorem dL_refuses_349 : decode cL_refuses 349 = .ok (.ldc 15, 2) := by decide +kernel
theorem dL_refuses_351 : decode cL_refuses 351 = .ok (.if_icmp .ne 27, 3) := by decide +kernel
theorem dL_refuses_354 : decode cL_refuses 354 = .ok (.aload_n 0, 1) := by decide +kernel
theorem dL_refuses_355 : decode cL_refuses 355 = .ok (.bipush 9, 2) := by decide +kernel
theorem dL_refuses_357 : decode cL_refuses 357 = .ok (.iconst 2, 1) := by decide +kernel
theorem dL_refuses_358 : decode cL_refuses 358 = .ok (.bipush 10, 2) := by decide +kernel
theorem dL_refuses_360 : decode cL_refuses 360 = .ok (.iload_n 1, 1) := by decide +kernel
theorem dL_refuses_361 : decode cL_refuses 361 = .ok (.bipush 9, 2) := by decide +kernel
theorem dL_refuses_363 : decode cL_refuses 363 = .ok (.irem, 1) := by decide +kernel
theorem dL_refuses_364 : decode cL_refuses 364 = .ok (.iadd, 1) := by decide +kernel
theorem dL_refuses_365 : decode cL_refuses 365 = .ok (.iconst 0, 1) := by decide +kernel
theorem dL_refuses_366 : decode cL_refuses 366 = .ok (.invokestatic 156, 3) := by decide +kernel
theorem dL_refuses_369 : decode cL_refuses 369 = .ok (.ldc 15, 2) := by decide +kernel
theorem dL_refuses_371 : decode cL_refuses 371 = .ok (.if_icmp .ne 7, 3) := by decide +kernel
theorem dL_refuses_374 : decode cL_refuses 374 = .ok (.iconst 1, 1) := by decide +kernel
theorem dL_refuses_375 : decode cL_refuses 375 = .ok (.goto 4, 3) := by decide +kernel
theorem dL_refuses_378 : decode cL_refuses 378 = .ok (.iconst 0, 1) := by decide +kernel
theorem dL_refuses_379 : decode cL_refuses 379 = .ok (.istore 4, 2) := by decide +kernel
theorem dL_refuses_381 : decode cL_refuses 381 = .ok (.iload 4, 2) := by decide +kernel
theorem dL_refuses_383 : decode cL_refuses 383 = .ok (.ifCond .eq 119, 3) := by decide +kernel
theorem dL_refuses_386 : decode cL_refuses 386 = .ok (.aload_n 0, 1) := by decide +kernel
theorem dL_refuses_387 : decode cL_refuses 387 = .ok (.bipush 10, 2) := by decide +kernel
theorem dL_refuses_389 : decode cL_refuses 389 = .ok (.iload_n 1, 1) := by decide +kernel
theorem dL_refuses_390 : decode cL_refuses 390 = .ok (.iconst 2, 1) := by decide +kernel
theorem dL_refuses_391 : decode cL_refuses 391 = .ok (.irem, 1) := by decide +kernel
theorem dL_refuses_392 : decode cL_refuses 392 = .ok (.iload_n 2, 1) := by decide +kernel
theorem dL_refuses_393 : decode cL_refuses 393 = .ok (.bipush 99, 2) := by decide +kernel
theorem dL_refuses_395 : decode cL_refuses 395 = .ok (.invokestatic 156, 3) := by decide +kernel
theorem dL_refuses_398 : decode cL_refuses 398 = .ok (.ldc 26, 2) := by decide +kernel
theorem dL_refuses_400 : decode cL_refuses 400 = .ok (.if_icmp .ne 102, 3) := by decide +kernel
theorem dL_refuses_403 : decode cL_refuses 403 = .ok (.aload_n 0, 1) := by decide +kernel
theorem dL_refuses_404 : decode cL_refuses 404 = .ok (.bipush 10, 2) := by decide +kernel
theorem dL_refuses_406 : decode cL_refuses 406 = .ok (.iload_n 1, 1) := by decide +kernel
theorem dL_refuses_407 : decode cL_refuses 407 = .ok (.iconst 2, 1) := by decide +kernel
theorem dL_refuses_408 : decode cL_refuses 408 = .ok (.irem, 1) := by decide +kernel
theorem dL_refuses_409 : decode cL_refuses 409 = .ok (.iload_n 1, 1) := by decide +kernel
theorem dL_refuses_410 : decode cL_refuses 410 = .ok (.iload_n 2, 1) := by decide +kernel
theorem dL_refuses_411 : decode cL_refuses 411 = .ok (.irem, 1) := by decide +kernel
theorem dL_refuses_412 : decode cL_refuses 412 = .ok (.iconst 2, 1) := by decide +kernel
theorem dL_refuses_413 : decode cL_refuses 413 = .ok (.iload_n 3, 1) := by decide +kernel
theorem dL_refuses_414 : decode cL_refuses 414 = .ok (.imul, 1) := by decide +kernel
theorem dL_refuses_415 : decode cL_refuses 415 = .ok (.invokestatic 156, 3) := by decide +kernel
theorem dL_refuses_418 : decode cL_refuses 418 = .ok (.ldc 15, 2) := by decide +kernel
theorem dL_refuses_420 : decode cL_refuses 420 = .ok (.if_icmp .ne 82, 3) := by decide +kernel
theorem dL_refuses_423 : decode cL_refuses 423 = .ok (.aload_n 0, 1) := by decide +kernel
theorem dL_refuses_424 : decode cL_refuses 424 = .ok (.bipush 26, 2) := by decide +kernel
theorem dL_refuses_426 : decode cL_refuses 426 = .ok (.iload_n 1, 1) := by decide +kernel
theorem dL_refuses_427 : decode cL_refuses 427 = .ok (.bipush 9, 2) := by decide +kernel
theorem dL_refuses_429 : decode cL_refuses 429 = .ok (.irem, 1) := by decide +kernel
theorem dL_refuses_430 : decode cL_refuses 430 = .ok (.iadd, 1) := by decide +kernel
theorem dL_refuses_431 : decode cL_refuses 431 = .ok (.iconst 1, 1) := by decide +kernel
theorem dL_refuses_432 : decode cL_refuses 432 = .ok (.invokestatic 160, 3) := by decide +kernel
theorem dL_refuses_435 : decode cL_refuses 435 = .ok (.ldc 26, 2) := by decide +kernel
theorem dL_refuses_437 : decode cL_refuses 437 = .ok (.if_icmp .ne 65, 3) := by decide +kernel
theorem dL_refuses_440 : decode cL_refuses 440 = .ok (.aload_n 0, 1) := by decide +kernel
theorem dL_refuses_441 : decode cL_refuses 441 = .ok (.bipush 13, 2) := by decide +kernel
theorem dL_refuses_443 : decode cL_refuses 443 = .ok (.iconst 2, 1) := by decide +kernel
theorem dL_refuses_444 : decode cL_refuses 444 = .ok (.iconst 0, 1) := by decide +kernel
theorem dL_refuses_445 : decode cL_refuses 445 = .ok (.iconst 0, 1) := by decide +kernel
theorem dL_refuses_446 : decode cL_refuses 446 = .ok (.invokestatic 156, 3) := by decide +kernel
theorem dL_refuses_449 : decode cL_refuses 449 = .ok (.ldc 26, 2) := by decide +kernel
theorem dL_refuses_451 : decode cL_refuses 451 = .ok (.if_icmp .ne 51, 3) := by decide +kernel
theorem dL_refuses_454 : decode cL_refuses 454 = .ok (.aload_n 0, 1) := by decide +kernel
theorem dL_refuses_455 : decode cL_refuses 455 = .ok (.bipush 14, 2) := by decide +kernel
theorem dL_refuses_457 : decode cL_refuses 457 = .ok (.iconst (-1), 1) := by decide +kernel
theorem dL_refuses_458 : decode cL_refuses 458 = .ok (.iconst 0, 1) := by decide +kernel
theorem dL_refuses_459 : decode cL_refuses 459 = .ok (.iconst 0, 1) := by decide +kernel
theorem dL_refuses_460 : decode cL_refuses 460 = .ok (.invokestatic 156, 3) := by decide +kernel
theorem dL_refuses_463 : decode cL_refuses 463 = .ok (.ldc 26, 2) := by decide +kernel
theorem dL_refuses_465 : decode cL_refuses 465 = .ok (.if_icmp .ne 37, 3) := by decide +kernel
theorem dL_refuses_468 : decode cL_refuses 468 = .ok (.aload_n 0, 1) := by decide +kernel
theorem dL_refuses_469 : decode cL_refuses 469 = .ok (.bipush 15, 2) := by decide +kernel
theorem dL_refuses_471 : decode cL_refuses 471 = .ok (.iconst 0, 1) := by decide +kernel
theorem dL_refuses_472 : decode cL_refuses 472 = .ok (.bipush 26, 2) := by decide +kernel
theorem dL_refuses_474 : decode cL_refuses 474 = .ok (.iconst 0, 1) := by decide +kernel
theorem dL_refuses_475 : decode cL_refuses 475 = .ok (.invokestatic 156, 3) := by decide +kernel
theorem dL_refuses_478 : decode cL_refuses 478 = .ok (.ldc 26, 2) := by decide +kernel
theorem dL_refuses_480 : decode cL_refuses 480 = .ok (.if_icmp .ne 22, 3) := by decide +kernel
theorem dL_refuses_483 : decode cL_refuses 483 = .ok (.aload_n 0, 1) := by decide +kernel
theorem dL_refuses_484 : decode cL_refuses 484 = .ok (.bipush 16, 2) := by decide +kernel
theorem dL_refuses_486 : decode cL_refuses 486 = .ok (.bipush 26, 2) := by decide +kernel
theorem dL_refuses_488 : decode cL_refuses 488 = .ok (.iconst 0, 1) := by decide +kernel
theorem dL_refuses_489 : decode cL_refuses 489 = .ok (.iconst 0, 1) := by decide +kernel
theorem dL_refuses_490 : decode cL_refuses 490 = .ok (.invokestatic 156, 3) := by decide +kernel
theorem dL_refuses_493 : decode cL_refuses 493 = .ok (.ldc 26, 2) := by decide +kernel
theorem dL_refuses_495 : decode cL_refuses 495 = .ok (.if_icmp .ne 7, 3) := by decide +kernel
theorem dL_refuses_498 : decode cL_refuses 498 = .ok (.iconst 1, 1) := by decide +kernel
theorem dL_refuses_499 : decode cL_refuses 499 = .ok (.goto 4, 3) := by decide +kernel
theorem dL_refuses_502 : decode cL_refuses 502 = .ok (.iconst 0, 1) := by decide +kernel
theorem dL_refuses_503 : decode cL_refuses 503 = .ok (.istore 4, 2) := by decide +kernel
theorem dL_refuses_505 : decode cL_refuses 505 = .ok (.iload 4, 2) := by decide +kernel
theorem dL_refuses_507 : decode cL_refuses 507 = .ok (.ifCond .eq 67, 3) := by decide +kernel
theorem dL_refuses_510 : decode cL_refuses 510 = .ok (.aload_n 0, 1) := by decide +kernel
theorem dL_refuses_511 : decode cL_refuses 511 = .ok (.bipush 17, 2) := by decide +kernel
theorem dL_refuses_513 : decode cL_refuses 513 = .ok (.iconst 2, 1) := by decide +kernel
theorem dL_refuses_514 : decode cL_refuses 514 = .ok (.iconst 0, 1) := by decide +kernel
theorem dL_refuses_515 : decode cL_refuses 515 = .ok (.iconst 0, 1) := by decide +kernel
theorem dL_refuses_516 : decode cL_refuses 516 = .ok (.invokestatic 156, 3) := by decide +kernel
theorem dL_refuses_519 : decode cL_refuses 519 = .ok (.ldc 26, 2) := by decide +kernel
theorem dL_refuses_521 : decode cL_refuses 521 = .ok (.if_icmp .ne 53, 3) := by decide +kernel
theorem dL_refuses_524 : decode cL_refuses 524 = .ok (.aload_n 0, 1) := by decide +kernel
theorem dL_refuses_525 : decode cL_refuses 525 = .ok (.bipush 18, 2) := by decide +kernel
theorem dL_refuses_527 : decode cL_refuses 527 = .ok (.iconst (-1), 1) := by decide +kernel
theorem dL_refuses_528 : decode cL_refuses 528 = .ok (.iconst 0, 1) := by decide +kernel
theorem dL_refuses_529 : decode cL_refuses 529 = .ok (.iconst 0, 1) := by decide +kernel
theorem dL_refuses_530 : decode cL_refuses 530 = .ok (.invokestatic 156, 3) := by decide +kernel
theorem dL_refuses_533 : decode cL_refuses 533 = .ok (.ldc 26, 2) := by decide +kernel
theorem dL_refuses_535 : decode cL_refuses 535 = .ok (.if_icmp .ne 39, 3) := by decide +kernel
theorem dL_refuses_538 : decode cL_refuses 538 = .ok (.aload_n 0, 1) := by decide +kernel
theorem dL_refuses_539 : decode cL_refuses 539 = .ok (.iconst 0, 1) := by decide +kernel
theorem dL_refuses_540 : decode cL_refuses 540 = .ok (.sipush 256, 3) := by decide +kernel
theorem dL_refuses_543 : decode cL_refuses 543 = .ok (.iload_n 1, 1) := by decide +kernel
theorem dL_refuses_544 : decode cL_refuses 544 = .ok (.bipush 9, 2) := by decide +kernel
theorem dL_refuses_546 : decode cL_refuses 546 = .ok (.irem, 1) := by decide +kernel
theorem dL_refuses_547 : decode cL_refuses 547 = .ok (.iadd, 1) := by decide +kernel
theorem dL_refuses_548 : decode cL_refuses 548 = .ok (.iconst 0, 1) := by decide +kernel
theorem dL_refuses_549 : decode cL_refuses 549 = .ok (.iconst 0, 1) := by decide +kernel
theorem dL_refuses_550 : decode cL_refuses 550 = .ok (.invokestatic 156, 3) := by decide +kernel
theorem dL_refuses_553 : decode cL_refuses 553 = .ok (.ldc 15, 2) := by decide +kernel
theorem dL_refuses_555 : decode cL_refuses 555 = .ok (.if_icmp .ne 19, 3) := by decide +kernel
theorem dL_refuses_558 : decode cL_refuses 558 = .ok (.aload_n 0, 1) := by decide +kernel
theorem dL_refuses_559 : decode cL_refuses 559 = .ok (.iload_n 1, 1) := by decide +kernel
theorem dL_refuses_560 : decode cL_refuses 560 = .ok (.i2l, 1) := by decide +kernel
theorem dL_refuses_561 : decode cL_refuses 561 = .ok (.iconst 0, 1) := by decide +kernel
theorem dL_refuses_562 : decode cL_refuses 562 = .ok (.invokestatic 164, 3) := by decide +kernel
theorem dL_refuses_565 : decode cL_refuses 565 = .ok (.ldc 15, 2) := by decide +kernel
theorem dL_refuses_567 : decode cL_refuses 567 = .ok (.if_icmp .ne 7, 3) := by decide +kernel
theorem dL_refuses_570 : decode cL_refuses 570 = .ok (.iconst 1, 1) := by decide +kernel
theorem dL_refuses_571 : decode cL_refuses 571 = .ok (.goto 4, 3) := by decide +kernel
theorem dL_refuses_574 : decode cL_refuses 574 = .ok (.iconst 0, 1) := by decide +kernel
theorem dL_refuses_575 : decode cL_refuses 575 = .ok (.istore 4, 2) := by decide +kernel
theorem dL_refuses_577 : decode cL_refuses 577 = .ok (.iload 4, 2) := by decide +kernel
theorem dL_refuses_579 : decode cL_refuses 579 = .ok (.ifCond .eq 50, 3) := by decide +kernel
theorem dL_refuses_582 : decode cL_refuses 582 = .ok (.aload_n 0, 1) := by decide +kernel
theorem dL_refuses_583 : decode cL_refuses 583 = .ok (.iconst 4, 1) := by decide +kernel
theorem dL_refuses_584 : decode cL_refuses 584 = .ok (.lconst 0, 1) := by decide +kernel
theorem dL_refuses_585 : decode cL_refuses 585 = .ok (.invokestatic 168, 3) := by decide +kernel
theorem dL_refuses_588 : decode cL_refuses 588 = .ok (.ldc 15, 2) := by decide +kernel
theorem dL_refuses_590 : decode cL_refuses 590 = .ok (.if_icmp .ne 39, 3) := by decide +kernel
theorem dL_refuses_593 : decode cL_refuses 593 = .ok (.aload_n 0, 1) := by decide +kernel
theorem dL_refuses_594 : decode cL_refuses 594 = .ok (.iconst 1, 1) := by decide +kernel
theorem dL_refuses_595 : decode cL_refuses 595 = .ok (.ldc2_w 172, 3) := by decide +kernel
theorem dL_refuses_598 : decode cL_refuses 598 = .ok (.iload_n 1, 1) := by decide +kernel
theorem dL_refuses_599 : decode cL_refuses 599 = .ok (.i2l, 1) := by decide +kernel
theorem dL_refuses_600 : decode cL_refuses 600 = .ok (.ladd, 1) := by decide +kernel
theorem dL_refuses_601 : decode cL_refuses 601 = .ok (.invokestatic 168, 3) := by decide +kernel
theorem dL_refuses_604 : decode cL_refuses 604 = .ok (.ldc 15, 2) := by decide +kernel
theorem dL_refuses_606 : decode cL_refuses 606 = .ok (.if_icmp .ne 23, 3) := by decide +kernel
theorem dL_refuses_609 : decode cL_refuses 609 = .ok (.aload_n 0, 1) := by decide +kernel
theorem dL_refuses_610 : decode cL_refuses 610 = .ok (.iconst 2, 1) := by decide +kernel
theorem dL_refuses_611 : decode cL_refuses 611 = .ok (.ldc2_w 174, 3) := by decide +kernel
theorem dL_refuses_614 : decode cL_refuses 614 = .ok (.iload_n 1, 1) := by decide +kernel
theorem dL_refuses_615 : decode cL_refuses 615 = .ok (.i2l, 1) := by decide +kernel
theorem dL_refuses_616 : decode cL_refuses 616 = .ok (.lsub, 1) := by decide +kernel
theorem dL_refuses_617 : decode cL_refuses 617 = .ok (.invokestatic 168, 3) := by decide +kernel
theorem dL_refuses_620 : decode cL_refuses 620 = .ok (.ldc 15, 2) := by decide +kernel
theorem dL_refuses_622 : decode cL_refuses 622 = .ok (.if_icmp .ne 7, 3) := by decide +kernel
theorem dL_refuses_625 : decode cL_refuses 625 = .ok (.iconst 1, 1) := by decide +kernel
theorem dL_refuses_626 : decode cL_refuses 626 = .ok (.goto 4, 3) := by decide +kernel
theorem dL_refuses_629 : decode cL_refuses 629 = .ok (.iconst 0, 1) := by decide +kernel
theorem dL_refuses_630 : decode cL_refuses 630 = .ok (.ireturn, 1) := by decide +kernel
set_option maxRecDepth 20000 in
theorem ggL_alike_X5_errorPosition : GoodIn wsL_alike wsX5_errorPosition := goodIn_r _ [5, 6, 7, 8, 9, 10, 11, 12, 13, 14, 15, 16, 17, 18, 19, 20, 21, 22, 23, 24, 25, 26, 27, 28, 29, 30, 31, 32, 33, 34, 35, 36, 37, 38, 39, 40, 415, 416, 417, 418, 419, 420, 421, 422, 423, 424, 425, 426, 427, 428] (by decide +kernel) (by decide +kernel)
set_option maxRecDepth 20000 in
theorem gL_alike_X5_errorPosition : GoodIn wsL_alike (wsV RL 176 RX5 yX5_errorPosition wsX5_errorPosition) := goodIn_app (goodIn_of _ (by decide +kernel)) ggL_alike_X5_errorPosition
set_option maxRecDepth 20000 in
theorem ggL_alike_X5_branches : GoodIn wsL_alike wsX5_branches := goodIn_r _ [44, 6, 45, 46, 7, 8, 9, 10, 11, 12, 13, 14, 15, 16, 17, 18, 19, 20, 21, 22, 23, 24, 25, 26, 27, 28, 29, 30, 31, 32, 33, 34, 35, 36, 37, 38, 39, 40, 415, 416, 417, 418, 419, 420, 421, 422, 423, 424, 425, 426, 427, 428] (by decide +kernel) (by decide +kernel)
set_option maxRecDepth 20000 in
theorem gL_alike_X5_branches : GoodIn wsL_alike (wsV RL 179 RX5 yX5_branches wsX5_branches) := goodIn_app (goodIn_of _ (by decide +kernel)) ggL_alike_X5_branches
set_option maxRecDepth 20000 in
theorem ggL_alike_X5_wouldBring : GoodIn wsL_alike wsX5_wouldBring := goodIn_r _ [50, 6, 45, 51, 52, 53, 54, 55, 56, 10, 57, 17, 12, 58, 8, 9, 11, 13, 14, 15, 16, 18, 19, 20, 21, 22, 23, 24, 25, 26, 27, 28, 29, 30, 31, 32, 33, 34, 35, 36, 37, 38, 39, 40, 59, 60, 61, 62, 63, 64, 65, 66, 67, 68, 69, 70, 71, 72, 73, 74, 75, 76, 77, 78, 79, 80, 81, 82, 83, 84, 85, 86, 87, 88, 89, 90, 91, 92, 93, 94, 95, 96, 97, 98, 99, 100, 101, 102, 103, 104, 105, 106, 107, 108, 109, 110, 111, 112, 113, 114, 115, 116, 117, 118, 119, 120, 121, 122, 123, 124, 125, 126, 127, 128, 129, 130, 131, 132, 133, 134, 135, 136, 137, 138, 139, 140, 141, 142, 143, 144, 415, 416, 417, 418, 419, 420, 429, 430, 431, 432, 433, 434, 435, 436, 437, 438, 439, 421, 422, 423, 424, 425, 426, 427, 428, 440, 441, 442, 443, 444, 445, 446, 447] (by decide +kernel) (by decide +kernel)
set_option maxRecDepth 20000 in
theorem gL_alike_X5_wouldBring : GoodIn wsL_alike (wsV RL 182 RX5 yX5_wouldBring wsX5_wouldBring) := goodIn_app (goodIn_of _ (by decide +kernel)) ggL_alike_X5_wouldBring
set_option maxRecDepth 20000 in
theorem ggL_alike_X5_worst : GoodIn wsL_alike wsX5_worst := goodIn_r _ [148, 45, 52, 149, 150, 415, 416, 417, 418, 419, 420, 429, 430, 431, 432, 433, 434, 435, 436, 437, 438, 439] (by decide +kernel) (by decide +kernel)
set_option maxRecDepth 20000 in
theorem gL_alike_X5_worst : GoodIn wsL_alike (wsV RL 185 RX5 yX5_worst wsX5_worst) := goodIn_app (goodIn_of _ (by decide +kernel)) ggL_alike_X5_worst
set_option maxRecDepth 20000 in
theorem ggL_alike_L_call : GoodIn wsL_alike wsL_call := goodIn_ca (goodIn_ca (goodIn_ca (goodIn_r _ [154, 155, 156, 153, 157, 158, 159, 160, 161, 162, 163, 164, 4, 165, 166, 167, 168, 169, 6, 170, 171, 172, 173, 10, 174, 15, 16, 175, 176, 177, 178, 179, 180, 181, 52, 182, 183, 53, 184, 185, 186, 187, 188, 189, 190, 191, 192, 193, 194, 195, 196, 197, 198, 199, 200, 201, 202, 203, 204, 205, 206, 207, 208, 209, 210, 82, 211, 88, 212, 213, 214, 215, 216, 217, 218, 219, 220, 221, 222, 223, 224, 225, 226, 227, 228, 229, 62, 230, 64, 231, 232, 233, 234, 235, 236, 237, 149, 238, 150, 239, 240, 241, 242, 243, 244, 245, 246, 247, 248, 249, 70, 103, 104, 105, 106, 69, 107, 108, 109, 110, 111, 84, 112, 113, 114, 115, 90, 250, 251, 252, 253, 254, 255, 256, 257, 258, 259, 260, 261, 262, 263, 264, 265, 132, 133, 134, 266, 267, 268, 269, 270, 271, 272, 45, 273, 274, 275, 276, 277, 278, 279, 280, 281, 282, 283, 284, 285, 286, 287, 288, 289, 290, 291, 292, 293, 294, 295, 296, 297, 60, 61, 63, 65, 66, 67, 68, 71, 72, 73, 74, 75, 76, 77, 78, 79, 80, 81, 83, 85, 86, 87, 89, 91, 92, 298, 299, 300, 301, 302, 303, 304, 305, 306, 307, 308, 309, 310, 311, 312, 313, 314, 315, 316, 317, 318, 319, 320, 321, 322, 323, 324, 325, 326, 327, 328, 329, 330, 331, 332, 333, 334, 335, 336, 337, 338, 339, 340, 341, 342, 343, 344, 345, 346, 347, 348, 349, 350, 54, 55, 56, 57, 17, 12, 58, 8, 9, 11, 13, 14, 18, 19, 20, 21, 22, 23, 24, 25, 26, 27, 28, 29, 30, 31, 32, 33, 34, 35, 36, 37, 38, 39, 40, 93, 94, 95, 96, 97, 98, 99, 100, 101, 102, 116, 117, 118, 119, 120, 121, 122, 123, 124, 125, 126, 127, 128, 129, 130, 131, 135, 136, 137, 138, 139, 140, 141, 142, 143, 144, 351, 352, 353, 354, 355, 356, 357, 358, 359, 360, 361, 362, 363, 364, 365, 366, 367, 368, 369, 370, 371, 372, 373, 51, 59, 374, 375, 376, 377, 378, 379, 380, 381, 382, 383, 384, 385, 386, 387, 388, 389, 390, 391, 392, 393, 394, 395, 396, 397, 398, 399, 400, 401, 402, 403, 404, 405, 406, 407, 408, 409, 410, 411, 412, 413, 414, 415, 416, 417, 418, 419, 420, 421, 422, 423, 424, 425, 426, 427, 428, 429, 430, 431, 432, 433, 434, 435, 436, 437, 438, 439, 440, 441, 442, 443, 444, 445, 446, 447, 448, 449, 450] (by decide +kernel) (by decide +kernel)) (goodIn_sub (fun _ h => List.mem_cons_of_mem _ (List.mem_append_left _ (List.mem_append_left _ (List.mem_append_right _ h)))) (by decide +kernel))) (goodIn_sub (fun _ h => List.mem_cons_of_mem _ (List.mem_append_left _ (List.mem_append_right _ h))) (by decide +kernel))) (goodIn_sub (fun _ h => List.mem_cons_of_mem _ (List.mem_append_right _ h)) (by decide +kernel))
set_option maxRecDepth 20000 in
theorem gL_alike_L_call : GoodIn wsL_alike (va_wsS RL 156 yL_call wsL_call) := goodIn_app (goodIn_of _ (by decide +kernel)) ggL_alike_L_call
theorem dL_alike_0 : decode cL_alike 0 = .ok (.aload_n 0, 1) := by decide +kernel
theorem dL_alike_1 : decode cL_alike 1 = .ok (.invokevirtual 176, 3) := by decide +kernel
theorem dL_alike_4 : decode cL_alike 4 = .ok (.aload_n 1, 1) := by decide +kernel
theorem dL_alike_5 : decode cL_alike 5 = .ok (.invokevirtual 176, 3) := by decide +kernel
theorem dL_alike_8 : decode cL_alike 8 = .ok (.if_icmp .ne 90, 3) := by decide +kernel
theorem dL_alike_11 : decode cL_alike 11 = .ok (.aload_n 0, 1) := by decide +kernel
theorem dL_alike_12 : decode cL_alike 12 = .ok (.invokevirtual 179, 3) := by decide +kernel
theorem dL_alike_15 : decode cL_alike 15 = .ok (.aload_n 1, 1) := by decide +kernel
theorem dL_alike_16 : decode cL_alike 16 = .ok (.invokevirtual 179, 3) := by decide +kernel
theorem dL_alike_19 : decode cL_alike 19 = .ok (.if_icmp .ne 79, 3) := by decide +kernel
theorem dL_alike_22 : decode cL_alike 22 = .ok (.aload_n 0, 1) := by decide +kernel
theorem dL_alike_23 : decode cL_alike 23 = .ok (.invokevirtual 182, 3) := by decide +kernel
theorem dL_alike_26 : decode cL_alike 26 = .ok (.aload_n 1, 1) := by decide +kernel
theorem dL_alike_27 : decode cL_alike 27 = .ok (.invokevirtual 182, 3) := by decide +kernel
theorem dL_alike_30 : decode cL_alike 30 = .ok (.if_icmp .ne 68, 3) := by decide +kernel
theorem dL_alike_33 : decode cL_alike 33 = .ok (.aload_n 0, 1) := by decide +kernel
theorem dL_alike_34 : decode cL_alike 34 = .ok (.invokevirtual 185, 3) := by decide +kernel
theorem dL_alike_37 : decode cL_alike 37 = .ok (.aload_n 1, 1) := by decide +kernel
theorem dL_alike_38 : decode cL_alike 38 = .ok (.invokevirtual 185, 3) := by decide +kernel
theorem dL_alike_41 : decode cL_alike 41 = .ok (.if_icmp .ne 57, 3) := by decide +kernel
theorem dL_alike_44 : decode cL_alike 44 = .ok (.aload_n 0, 1) := by decide +kernel
theorem dL_alike_45 : decode cL_alike 45 = .ok (.bipush 13, 2) := by decide +kernel
theorem dL_alike_47 : decode cL_alike 47 = .ok (.iload_n 2, 1) := by decide +kernel
theorem dL_alike_48 : decode cL_alike 48 = .ok (.iconst 2, 1) := by decide +kernel
theorem dL_alike_49 : decode cL_alike 49 = .ok (.irem, 1) := by decide +kernel
theorem dL_alike_50 : decode cL_alike 50 = .ok (.iconst 0, 1) := by decide +kernel
theorem dL_alike_51 : decode cL_alike 51 = .ok (.iconst 0, 1) := by decide +kernel
theorem dL_alike_52 : decode cL_alike 52 = .ok (.invokestatic 156, 3) := by decide +kernel
theorem dL_alike_55 : decode cL_alike 55 = .ok (.aload_n 1, 1) := by decide +kernel
theorem dL_alike_56 : decode cL_alike 56 = .ok (.bipush 13, 2) := by decide +kernel
theorem dL_alike_58 : decode cL_alike 58 = .ok (.iload_n 2, 1) := by decide +kernel
theorem dL_alike_59 : decode cL_alike 59 = .ok (.iconst 2, 1) := by decide +kernel
theorem dL_alike_60 : decode cL_alike 60 = .ok (.irem, 1) := by decide +kernel
theorem dL_alike_61 : decode cL_alike 61 = .ok (.iconst 0, 1) := by decide +kernel
theorem dL_alike_62 : decode cL_alike 62 = .ok (.iconst 0, 1) := by decide +kernel
theorem dL_alike_63 : decode cL_alike 63 = .ok (.invokestatic 156, 3) := by decide +kernel
theorem dL_alike_66 : decode cL_alike 66 = .ok (.if_icmp .ne 32, 3) := by decide +kernel
theorem dL_alike_69 : decode cL_alike 69 = .ok (.aload_n 0, 1) := by decide +kernel
theorem dL_alike_70 : decode cL_alike 70 = .ok (.bipush 14, 2) := by decide +kernel
theorem dL_alike_72 : decode cL_alike 72 = .ok (.iload_n 2, 1) := by decide +kernel
theorem dL_alike_73 : decode cL_alike 73 = .ok (.iconst 2, 1) := by decide +kernel
theorem dL_alike_74 : decode cL_alike 74 = .ok (.irem, 1) := by decide +kernel
theorem dL_alike_75 : decode cL_alike 75 = .ok (.iconst 0, 1) := by decide +kernel
theorem dL_alike_76 : decode cL_alike 76 = .ok (.iconst 0, 1) := by decide +kernel
theorem dL_alike_77 : decode cL_alike 77 = .ok (.invokestatic 156, 3) := by decide +kernel
theorem dL_alike_80 : decode cL_alike 80 = .ok (.aload_n 1, 1) := by decide +kernel
theorem dL_alike_81 : decode cL_alike 81 = .ok (.bipush 14, 2) := by decide +kernel
theorem dL_alike_83 : decode cL_alike 83 = .ok (.iload_n 2, 1) := by decide +kernel
theorem dL_alike_84 : decode cL_alike 84 = .ok (.iconst 2, 1) := by decide +kernel
theorem dL_alike_85 : decode cL_alike 85 = .ok (.irem, 1) := by decide +kernel
theorem dL_alike_86 : decode cL_alike 86 = .ok (.iconst 0, 1) := by decide +kernel
theorem dL_alike_87 : decode cL_alike 87 = .ok (.iconst 0, 1) := by decide +kernel
theorem dL_alike_88 : decode cL_alike 88 = .ok (.invokestatic 156, 3) := by decide +kernel
theorem dL_alike_91 : decode cL_alike 91 = .ok (.if_icmp .ne 7, 3) := by decide +kernel
theorem dL_alike_94 : decode cL_alike 94 = .ok (.iconst 1, 1) := by decide +kernel
theorem dL_alike_95 : decode cL_alike 95 = .ok (.goto 4, 3) := by decide +kernel
theorem dL_alike_98 : decode cL_alike 98 = .ok (.iconst 0, 1) := by decide +kernel
theorem dL_alike_99 : decode cL_alike 99 = .ok (.istore_n 3, 1) := by decide +kernel
theorem dL_alike_100 : decode cL_alike 100 = .ok (.iconst 0, 1) := by decide +kernel
theorem dL_alike_101 : decode cL_alike 101 = .ok (.istore 4, 2) := by decide +kernel
theorem dL_alike_103 : decode cL_alike 103 = .ok (.iload 4, 2) := by decide +kernel
theorem dL_alike_105 : decode cL_alike 105 = .ok (.bipush 10, 2) := by decide +kernel
theorem dL_alike_107 : decode cL_alike 107 = .ok (.if_icmp .ge 69, 3) := by decide +kernel
theorem dL_alike_110 : decode cL_alike 110 = .ok (.iload_n 3, 1) := by decide +kernel
theorem dL_alike_111 : decode cL_alike 111 = .ok (.ifCond .eq 65, 3) := by decide +kernel
theorem dL_alike_114 : decode cL_alike 114 = .ok (.aload_n 0, 1) := by decide +kernel
theorem dL_alike_115 : decode cL_alike 115 = .ok (.iconst 1, 1) := by decide +kernel
theorem dL_alike_116 : decode cL_alike 116 = .ok (.iload 4, 2) := by decide +kernel
theorem dL_alike_118 : decode cL_alike 118 = .ok (.iconst 0, 1) := by decide +kernel
theorem dL_alike_119 : decode cL_alike 119 = .ok (.iconst 0, 1) := by decide +kernel
theorem dL_alike_120 : decode cL_alike 120 = .ok (.invokestatic 156, 3) := by decide +kernel
theorem dL_alike_123 : decode cL_alike 123 = .ok (.aload_n 1, 1) := by decide +kernel
theorem dL_alike_124 : decode cL_alike 124 = .ok (.iconst 1, 1) := by decide +kernel
theorem dL_alike_125 : decode cL_alike 125 = .ok (.iload 4, 2) := by decide +kernel
theorem dL_alike_127 : decode cL_alike 127 = .ok (.iconst 0, 1) := by decide +kernel
theorem dL_alike_128 : decode cL_alike 128 = .ok (.iconst 0, 1) := by decide +kernel
theorem dL_alike_129 : decode cL_alike 129 = .ok (.invokestatic 156, 3) := by decide +kernel
theorem dL_alike_132 : decode cL_alike 132 = .ok (.if_icmp .ne 36, 3) := by decide +kernel
theorem dL_alike_135 : decode cL_alike 135 = .ok (.aload_n 0, 1) := by decide +kernel
theorem dL_alike_136 : decode cL_alike 136 = .ok (.iconst 2, 1) := by decide +kernel
theorem dL_alike_137 : decode cL_alike 137 = .ok (.iload_n 2, 1) := by decide +kernel
theorem dL_alike_138 : decode cL_alike 138 = .ok (.iconst 2, 1) := by decide +kernel
theorem dL_alike_139 : decode cL_alike 139 = .ok (.irem, 1) := by decide +kernel
theorem dL_alike_140 : decode cL_alike 140 = .ok (.iload 4, 2) := by decide +kernel
theorem dL_alike_142 : decode cL_alike 142 = .ok (.iconst 5, 1) := by decide +kernel
theorem dL_alike_143 : decode cL_alike 143 = .ok (.irem, 1) := by decide +kernel
theorem dL_alike_144 : decode cL_alike 144 = .ok (.iconst 0, 1) := by decide +kernel
theorem dL_alike_145 : decode cL_alike 145 = .ok (.invokestatic 156, 3) := by decide +kernel
theorem dL_alike_148 : decode cL_alike 148 = .ok (.aload_n 1, 1) := by decide +kernel
theorem dL_alike_149 : decode cL_alike 149 = .ok (.iconst 2, 1) := by decide +kernel
theorem dL_alike_150 : decode cL_alike 150 = .ok (.iload_n 2, 1) := by decide +kernel
theorem dL_alike_151 : decode cL_alike 151 = .ok (.iconst 2, 1) := by decide +kernel
theorem dL_alike_152 : decode cL_alike 152 = .ok (.irem, 1) := by decide +kernel
theorem dL_alike_153 : decode cL_alike 153 = .ok (.iload 4, 2) := by decide +kernel
theorem dL_alike_155 : decode cL_alike 155 = .ok (.iconst 5, 1) := by decide +kernel
theorem dL_alike_156 : decode cL_alike 156 = .ok (.irem, 1) := by decide +kernel
theorem dL_alike_157 : decode cL_alike 157 = .ok (.iconst 0, 1) := by decide +kernel
theorem dL_alike_158 : decode cL_alike 158 = .ok (.invokestatic 156, 3) := by decide +kernel
theorem dL_alike_161 : decode cL_alike 161 = .ok (.if_icmp .ne 7, 3) := by decide +kernel
theorem dL_alike_164 : decode cL_alike 164 = .ok (.iconst 1, 1) := by decide +kernel
theorem dL_alike_165 : decode cL_alike 165 = .ok (.goto 4, 3) := by decide +kernel
theorem dL_alike_168 : decode cL_alike 168 = .ok (.iconst 0, 1) := by decide +kernel
theorem dL_alike_169 : decode cL_alike 169 = .ok (.istore_n 3, 1) := by decide +kernel
theorem dL_alike_170 : decode cL_alike 170 = .ok (.iinc 4 1, 3) := by decide +kernel
theorem dL_alike_173 : decode cL_alike 173 = .ok (.goto (-70), 3) := by decide +kernel
theorem dL_alike_176 : decode cL_alike 176 = .ok (.iconst 0, 1) := by decide +kernel
theorem dL_alike_177 : decode cL_alike 177 = .ok (.istore 4, 2) := by decide +kernel
theorem dL_alike_179 : decode cL_alike 179 = .ok (.iload 4, 2) := by decide +kernel
theorem dL_alike_181 : decode cL_alike 181 = .ok (.bipush 26, 2) := by decide +kernel
theorem dL_alike_183 : decode cL_alike 183 = .ok (.if_icmp .ge 117, 3) := by decide +kernel
theorem dL_alike_186 : decode cL_alike 186 = .ok (.iload_n 3, 1) := by decide +kernel
theorem dL_alike_187 : decode cL_alike 187 = .ok (.ifCond .eq 113, 3) := by decide +kernel
theorem dL_alike_190 : decode cL_alike 190 = .ok (.aload_n 0, 1) := by decide +kernel
theorem dL_alike_191 : decode cL_alike 191 = .ok (.iconst 4, 1) := by decide +kernel
theorem dL_alike_192 : decode cL_alike 192 = .ok (.iload 4, 2) := by decide +kernel
theorem dL_alike_194 : decode cL_alike 194 = .ok (.iload_n 2, 1) := by decide +kernel
theorem dL_alike_195 : decode cL_alike 195 = .ok (.iconst 5, 1) := by decide +kernel
theorem dL_alike_196 : decode cL_alike 196 = .ok (.irem, 1) := by decide +kernel
theorem dL_alike_197 : decode cL_alike 197 = .ok (.iconst 0, 1) := by decide +kernel
theorem dL_alike_198 : decode cL_alike 198 = .ok (.invokestatic 156, 3) := by decide +kernel
theorem dL_alike_201 : decode cL_alike 201 = .ok (.aload_n 1, 1) := by decide +kernel
theorem dL_alike_202 : decode cL_alike 202 = .ok (.iconst 4, 1) := by decide +kernel
theorem dL_alike_203 : decode cL_alike 203 = .ok (.iload 4, 2) := by decide +kernel
theorem dL_alike_205 : decode cL_alike 205 = .ok (.iload_n 2, 1) := by decide +kernel
theorem dL_alike_206 : decode cL_alike 206 = .ok (.iconst 5, 1) := by decide +kernel
theorem dL_alike_207 : decode cL_alike 207 = .ok (.irem, 1) := by decide +kernel
theorem dL_alike_208 : decode cL_alike 208 = .ok (.iconst 0, 1) := by decide +kernel
theorem dL_alike_209 : decode cL_alike 209 = .ok (.invokestatic 156, 3) := by decide +kernel
theorem dL_alike_212 : decode cL_alike 212 = .ok (.if_icmp .ne 80, 3) := by decide +kernel
theorem dL_alike_215 : decode cL_alike 215 = .ok (.aload_n 0, 1) := by decide +kernel
theorem dL_alike_216 : decode cL_alike 216 = .ok (.bipush 6, 2) := by decide +kernel
theorem dL_alike_218 : decode cL_alike 218 = .ok (.iload_n 2, 1) := by decide +kernel
theorem dL_alike_219 : decode cL_alike 219 = .ok (.iconst 2, 1) := by decide +kernel
theorem dL_alike_220 : decode cL_alike 220 = .ok (.irem, 1) := by decide +kernel
theorem dL_alike_221 : decode cL_alike 221 = .ok (.iload 4, 2) := by decide +kernel
theorem dL_alike_223 : decode cL_alike 223 = .ok (.iconst 0, 1) := by decide +kernel
theorem dL_alike_224 : decode cL_alike 224 = .ok (.invokestatic 156, 3) := by decide +kernel
theorem dL_alike_227 : decode cL_alike 227 = .ok (.aload_n 1, 1) := by decide +kernel
theorem dL_alike_228 : decode cL_alike 228 = .ok (.bipush 6, 2) := by decide +kernel
theorem dL_alike_230 : decode cL_alike 230 = .ok (.iload_n 2, 1) := by decide +kernel
theorem dL_alike_231 : decode cL_alike 231 = .ok (.iconst 2, 1) := by decide +kernel
theorem dL_alike_232 : decode cL_alike 232 = .ok (.irem, 1) := by decide +kernel
theorem dL_alike_233 : decode cL_alike 233 = .ok (.iload 4, 2) := by decide +kernel
theorem dL_alike_235 : decode cL_alike 235 = .ok (.iconst 0, 1) := by decide +kernel
theorem dL_alike_236 : decode cL_alike 236 = .ok (.invokestatic 156, 3) := by decide +kernel
theorem dL_alike_239 : decode cL_alike 239 = .ok (.if_icmp .ne 53, 3) := by decide +kernel
theorem dL_alike_242 : decode cL_alike 242 = .ok (.aload_n 0, 1) := by decide +kernel
theorem dL_alike_243 : decode cL_alike 243 = .ok (.bipush 7, 2) := by decide +kernel
theorem dL_alike_245 : decode cL_alike 245 = .ok (.iload 4, 2) := by decide +kernel
theorem dL_alike_247 : decode cL_alike 247 = .ok (.iconst 0, 1) := by decide +kernel
theorem dL_alike_248 : decode cL_alike 248 = .ok (.iconst 0, 1) := by decide +kernel
theorem dL_alike_249 : decode cL_alike 249 = .ok (.invokestatic 156, 3) := by decide +kernel
theorem dL_alike_252 : decode cL_alike 252 = .ok (.aload_n 1, 1) := by decide +kernel
theorem dL_alike_253 : decode cL_alike 253 = .ok (.bipush 7, 2) := by decide +kernel
theorem dL_alike_255 : decode cL_alike 255 = .ok (.iload 4, 2) := by decide +kernel
theorem dL_alike_257 : decode cL_alike 257 = .ok (.iconst 0, 1) := by decide +kernel
theorem dL_alike_258 : decode cL_alike 258 = .ok (.iconst 0, 1) := by decide +kernel
theorem dL_alike_259 : decode cL_alike 259 = .ok (.invokestatic 156, 3) := by decide +kernel
theorem dL_alike_262 : decode cL_alike 262 = .ok (.if_icmp .ne 30, 3) := by decide +kernel
theorem dL_alike_265 : decode cL_alike 265 = .ok (.aload_n 0, 1) := by decide +kernel
theorem dL_alike_266 : decode cL_alike 266 = .ok (.bipush 16, 2) := by decide +kernel
theorem dL_alike_268 : decode cL_alike 268 = .ok (.iload 4, 2) := by decide +kernel
theorem dL_alike_270 : decode cL_alike 270 = .ok (.iconst 0, 1) := by decide +kernel
theorem dL_alike_271 : decode cL_alike 271 = .ok (.iconst 0, 1) := by decide +kernel
theorem dL_alike_272 : decode cL_alike 272 = .ok (.invokestatic 156, 3) := by decide +kernel
theorem dL_alike_275 : decode cL_alike 275 = .ok (.aload_n 1, 1) := by decide +kernel
theorem dL_alike_276 : decode cL_alike 276 = .ok (.bipush 16, 2) := by decide +kernel
theorem dL_alike_278 : decode cL_alike 278 = .ok (.iload 4, 2) := by decide +kernel
theorem dL_alike_280 : decode cL_alike 280 = .ok (.iconst 0, 1) := by decide +kernel
theorem dL_alike_281 : decode cL_alike 281 = .ok (.iconst 0, 1) := by decide +kernel
theorem dL_alike_282 : decode cL_alike 282 = .ok (.invokestatic 156, 3) := by decide +kernel
theorem dL_alike_285 : decode cL_alike 285 = .ok (.if_icmp .ne 7, 3) := by decide +kernel
theorem dL_alike_288 : decode cL_alike 288 = .ok (.iconst 1, 1) := by decide +kernel
theorem dL_alike_289 : decode cL_alike 289 = .ok (.goto 4, 3) := by decide +kernel
theorem dL_alike_292 : decode cL_alike 292 = .ok (.iconst 0, 1) := by decide +kernel
theorem dL_alike_293 : decode cL_alike 293 = .ok (.istore_n 3, 1) := by decide +kernel
theorem dL_alike_294 : decode cL_alike 294 = .ok (.iinc 4 1, 3) := by decide +kernel
theorem dL_alike_297 : decode cL_alike 297 = .ok (.goto (-118), 3) := by decide +kernel
theorem dL_alike_300 : decode cL_alike 300 = .ok (.iconst 0, 1) := by decide +kernel
theorem dL_alike_301 : decode cL_alike 301 = .ok (.istore 4, 2) := by decide +kernel
theorem dL_alike_303 : decode cL_alike 303 = .ok (.iload 4, 2) := by decide +kernel
theorem dL_alike_305 : decode cL_alike 305 = .ok (.iconst 4, 1) := by decide +kernel
theorem dL_alike_306 : decode cL_alike 306 = .ok (.if_icmp .ge 52, 3) := by decide +kernel
theorem dL_alike_309 : decode cL_alike 309 = .ok (.iload_n 3, 1) := by decide +kernel
theorem dL_alike_310 : decode cL_alike 310 = .ok (.ifCond .eq 48, 3) := by decide +kernel
theorem dL_alike_313 : decode cL_alike 313 = .ok (.aload_n 0, 1) := by decide +kernel
theorem dL_alike_314 : decode cL_alike 314 = .ok (.iconst 3, 1) := by decide +kernel
theorem dL_alike_315 : decode cL_alike 315 = .ok (.iload_n 2, 1) := by decide +kernel
theorem dL_alike_316 : decode cL_alike 316 = .ok (.iconst 2, 1) := by decide +kernel
theorem dL_alike_317 : decode cL_alike 317 = .ok (.irem, 1) := by decide +kernel
theorem dL_alike_318 : decode cL_alike 318 = .ok (.iload 4, 2) := by decide +kernel
theorem dL_alike_320 : decode cL_alike 320 = .ok (.iload_n 2, 1) := by decide +kernel
theorem dL_alike_321 : decode cL_alike 321 = .ok (.iconst 2, 1) := by decide +kernel
theorem dL_alike_322 : decode cL_alike 322 = .ok (.idiv, 1) := by decide +kernel
theorem dL_alike_323 : decode cL_alike 323 = .ok (.iconst 4, 1) := by decide +kernel
theorem dL_alike_324 : decode cL_alike 324 = .ok (.irem, 1) := by decide +kernel
theorem dL_alike_325 : decode cL_alike 325 = .ok (.invokestatic 156, 3) := by decide +kernel
theorem dL_alike_328 : decode cL_alike 328 = .ok (.aload_n 1, 1) := by decide +kernel
theorem dL_alike_329 : decode cL_alike 329 = .ok (.iconst 3, 1) := by decide +kernel
theorem dL_alike_330 : decode cL_alike 330 = .ok (.iload_n 2, 1) := by decide +kernel
theorem dL_alike_331 : decode cL_alike 331 = .ok (.iconst 2, 1) := by decide +kernel
theorem dL_alike_332 : decode cL_alike 332 = .ok (.irem, 1) := by decide +kernel
theorem dL_alike_333 : decode cL_alike 333 = .ok (.iload 4, 2) := by decide +kernel
theorem dL_alike_335 : decode cL_alike 335 = .ok (.iload_n 2, 1) := by decide +kernel
theorem dL_alike_336 : decode cL_alike 336 = .ok (.iconst 2, 1) := by decide +kernel
theorem dL_alike_337 : decode cL_alike 337 = .ok (.idiv, 1) := by decide +kernel
theorem dL_alike_338 : decode cL_alike 338 = .ok (.iconst 4, 1) := by decide +kernel
theorem dL_alike_339 : decode cL_alike 339 = .ok (.irem, 1) := by decide +kernel
theorem dL_alike_340 : decode cL_alike 340 = .ok (.invokestatic 156, 3) := by decide +kernel
theorem dL_alike_343 : decode cL_alike 343 = .ok (.if_icmp .ne 7, 3) := by decide +kernel
theorem dL_alike_346 : decode cL_alike 346 = .ok (.iconst 1, 1) := by decide +kernel
theorem dL_alike_347 : decode cL_alike 347 = .ok (.goto 4, 3) := by decide +kernel
theorem dL_alike_350 : decode cL_alike 350 = .ok (.iconst 0, 1) := by decide +kernel
theorem dL_alike_351 : decode cL_alike 351 = .ok (.istore_n 3, 1) := by decide +kernel
theorem dL_alike_352 : decode cL_alike 352 = .ok (.iinc 4 1, 3) := by decide +kernel
theorem dL_alike_355 : decode cL_alike 355 = .ok (.goto (-52), 3) := by decide +kernel
theorem dL_alike_358 : decode cL_alike 358 = .ok (.iload_n 3, 1) := by decide +kernel
theorem dL_alike_359 : decode cL_alike 359 = .ok (.ireturn, 1) := by decide +kernel
set_option maxRecDepth 20000 in
theorem ggL_holds_L_call : GoodIn wsL_holds wsL_call := goodIn_ca (goodIn_ca (goodIn_ca (goodIn_r _ [7, 8, 9, 6, 10, 11, 12, 13, 3, 14, 15, 16, 17, 18, 19, 20, 21, 22, 23, 24, 25, 26, 27, 28, 29, 30, 31, 32, 33, 34, 35, 36, 37, 38, 39, 40, 41, 42, 43, 44, 45, 46, 47, 48, 49, 50, 51, 52, 53, 54, 55, 56, 57, 58, 59, 60, 61, 62, 63, 64, 65, 66, 67, 68, 69, 70, 71, 72, 73, 74, 75, 76, 77, 78, 79, 80, 81, 82, 83, 84, 85, 86, 87, 88, 89, 90, 91, 92, 93, 94, 95, 96, 97, 98, 99, 100, 101, 102, 103, 104, 105, 106, 107, 108, 109, 110, 111, 112, 113, 114, 115, 116, 117, 118, 119, 120, 121, 122, 123, 124, 125, 126, 127, 128, 129, 130, 131, 132, 133, 134, 135, 136, 137, 138, 139, 140, 141, 142, 143, 144, 145, 146, 147, 148, 149, 150, 151, 152, 153, 154, 155, 156, 157, 158, 159, 160, 161, 162, 163, 164, 165, 166, 167, 168, 169, 170, 171, 172, 173, 174, 175, 176, 177, 178, 179, 180, 181, 182, 183, 184, 185, 186, 187, 188, 189, 190, 191, 192, 193, 194, 195, 196, 197, 198, 199, 200, 201, 202, 203, 204, 205, 206, 207, 208, 209, 210, 211, 212, 213, 214, 215, 216, 217, 218, 219, 220, 221, 222, 223, 224, 225, 226, 227, 228, 229, 230, 231, 232, 233, 234, 235, 236, 237, 238, 239, 240, 241, 242, 243, 244, 245, 246, 247, 248, 249, 250, 251, 252, 253, 254, 255, 256, 257, 258, 259, 260, 261, 262, 263, 264, 265, 266, 267, 268, 269, 270, 271, 272, 273, 274, 275, 276, 277, 278, 279, 280, 281, 282, 283, 284, 285, 286, 287, 288, 289, 290, 291, 292, 293, 294, 295, 296, 297, 298, 299, 300, 301, 302, 303, 304, 305, 306, 307, 308, 309, 310, 311, 312, 313, 314, 315, 316, 317, 318, 319, 320, 321, 322, 323, 324, 325, 326, 327, 328, 329, 330, 331, 332, 333, 334, 335, 336, 337, 338, 339, 340, 341, 342, 343, 344, 345, 346, 347, 348, 349, 350, 351, 352, 353, 354, 355, 356, 357, 358, 359, 360, 361, 362, 363, 364, 365, 366, 367, 368, 369, 370, 371, 372, 373, 374, 375, 376, 377, 378, 379, 380, 381, 382, 383, 384, 385, 386, 387, 388, 389, 390, 391, 392, 393, 394, 395, 396, 397, 398, 416, 417, 418, 419, 420, 421, 422, 423, 424, 425, 426, 427, 428, 429, 430, 431, 432, 433, 434, 435, 436, 437, 438, 439, 440, 441, 442, 443, 444, 445, 446, 447, 448, 449, 450, 451] (by decide +kernel) (by decide +kernel)) (goodIn_sub (fun _ h => List.mem_cons_of_mem _ (List.mem_append_left _ (List.mem_append_left _ (List.mem_append_right _ h)))) (by decide +kernel))) (goodIn_sub (fun _ h => List.mem_cons_of_mem _ (List.mem_append_left _ (List.mem_append_right _ h))) (by decide +kernel))) (goodIn_sub (fun _ h => List.mem_cons_of_mem _ (List.mem_append_right _ h)) (by decide +kernel))
set_option maxRecDepth 20000 in
theorem gL_holds_L_call : GoodIn wsL_holds (va_wsS RL 156 yL_call wsL_call) := goodIn_app (goodIn_of _ (by decide +kernel)) ggL_holds_L_call
set_option maxRecDepth 20000 in
theorem ggL_holds_L_tryGo : GoodIn wsL_holds wsL_tryGo := goodIn_ca (goodIn_r _ [401, 51, 52, 402, 403, 404, 17, 405, 170, 39, 105, 106, 107, 62, 63, 108, 109, 110, 175, 176, 177, 178, 179, 180, 181, 182, 183, 184, 185, 91, 186, 93, 187, 188, 189, 190, 120, 115, 191, 192, 193, 194, 195, 196, 197, 198, 199, 200, 201, 70, 202, 126, 203, 204, 205, 72, 206, 131, 207, 208, 379, 304, 305, 306, 116, 117, 118, 119, 121, 122, 123, 124, 125, 127, 128, 129, 130, 307, 308, 309, 310, 311, 312, 313, 314, 315, 316, 317, 318, 319, 320, 321, 322, 148, 149, 150, 323, 324, 325, 326, 327, 328, 329, 330, 331, 332, 416, 417, 418, 419, 420, 421, 449, 450, 451, 430, 431, 432, 433, 434, 435, 436, 437, 438, 439, 440, 441, 442, 443, 444, 445, 446, 447, 448] (by decide +kernel) (by decide +kernel)) (goodIn_sub (fun _ h => List.mem_cons_of_mem _ (List.mem_append_right _ h)) (by decide +kernel))
set_option maxRecDepth 20000 in
theorem gL_holds_L_tryGo : GoodIn wsL_holds (va_wsS RL 160 yL_tryGo wsL_tryGo) := goodIn_app (goodIn_of _ (by decide +kernel)) ggL_holds_L_tryGo
set_option maxRecDepth 20000 in
theorem ggL_holds_X5_wouldBring : GoodIn wsL_holds wsX5_wouldBring := goodIn_r _ [409, 23, 158, 356, 39, 42, 262, 263, 264, 28, 265, 266, 267, 268, 269, 270, 271, 272, 273, 30, 31, 274, 275, 276, 277, 278, 279, 280, 281, 282, 283, 284, 285, 286, 287, 288, 289, 290, 291, 292, 293, 294, 295, 296, 357, 184, 185, 91, 186, 93, 187, 188, 189, 190, 120, 115, 191, 192, 193, 194, 195, 196, 197, 198, 199, 200, 201, 70, 202, 126, 203, 204, 205, 72, 206, 131, 207, 208, 297, 298, 299, 300, 301, 302, 303, 304, 305, 306, 116, 117, 118, 119, 121, 122, 123, 124, 125, 127, 128, 129, 130, 307, 308, 309, 310, 311, 312, 313, 314, 315, 316, 317, 318, 319, 320, 321, 322, 148, 149, 150, 323, 324, 325, 326, 327, 328, 329, 330, 331, 332, 416, 417, 418, 419, 420, 421, 430, 431, 432, 433, 434, 435, 436, 437, 438, 439, 440, 422, 423, 424, 425, 426, 427, 428, 429, 441, 442, 443, 444, 445, 446, 447, 448] (by decide +kernel) (by decide +kernel)
set_option maxRecDepth 20000 in
theorem gL_holds_X5_wouldBring : GoodIn wsL_holds (wsV RL 182 RX5 yX5_wouldBring wsX5_wouldBring) := goodIn_app (goodIn_of _ (by decide +kernel)) ggL_holds_X5_wouldBring
set_option maxRecDepth 20000 in
theorem ggL_holds_X5_branches : GoodIn wsL_holds wsX5_branches := goodIn_r _ [413, 23, 158, 414, 415, 269, 270, 28, 271, 267, 272, 273, 30, 31, 266, 274, 275, 276, 277, 278, 279, 280, 281, 282, 283, 284, 285, 286, 287, 288, 289, 290, 291, 292, 293, 294, 295, 296, 416, 417, 418, 419, 420, 421, 422, 423, 424, 425, 426, 427, 428, 429] (by decide +kernel) (by decide +kernel)
set_option maxRecDepth 20000 in
theorem gL_holds_X5_branches : GoodIn wsL_holds (wsV RL 179 RX5 yX5_branches wsX5_branches) := goodIn_app (goodIn_of _ (by decide +kernel)) ggL_holds_X5_branches
theorem dL_holds_0 : decode cL_holds 0 = .ok (.iconst 0, 1) := by decide +kernel
theorem dL_holds_1 : decode cL_holds 1 = .ok (.istore_n 2, 1) := by decide +kernel
theorem dL_holds_2 : decode cL_holds 2 = .ok (.iconst 0, 1) := by decide +kernel
theorem dL_holds_3 : decode cL_holds 3 = .ok (.istore_n 3, 1) := by decide +kernel
theorem dL_holds_4 : decode cL_holds 4 = .ok (.iconst 1, 1) := by decide +kernel
theorem dL_holds_5 : decode cL_holds 5 = .ok (.istore 4, 2) := by decide +kernel
theorem dL_holds_7 : decode cL_holds 7 = .ok (.iconst 0, 1) := by decide +kernel
theorem dL_holds_8 : decode cL_holds 8 = .ok (.istore 5, 2) := by decide +kernel
theorem dL_holds_10 : decode cL_holds 10 = .ok (.iload 5, 2) := by decide +kernel
theorem dL_holds_12 : decode cL_holds 12 = .ok (.bipush 26, 2) := by decide +kernel
theorem dL_holds_14 : decode cL_holds 14 = .ok (.if_icmp .ge 172, 3) := by decide +kernel
theorem dL_holds_17 : decode cL_holds 17 = .ok (.iload 4, 2) := by decide +kernel
theorem dL_holds_19 : decode cL_holds 19 = .ok (.ifCond .eq 167, 3) := by decide +kernel
theorem dL_holds_22 : decode cL_holds 22 = .ok (.aload_n 0, 1) := by decide +kernel
theorem dL_holds_23 : decode cL_holds 23 = .ok (.iconst 4, 1) := by decide +kernel
theorem dL_holds_24 : decode cL_holds 24 = .ok (.iload 5, 2) := by decide +kernel
theorem dL_holds_26 : decode cL_holds 26 = .ok (.iconst 0, 1) := by decide +kernel
theorem dL_holds_27 : decode cL_holds 27 = .ok (.iconst 0, 1) := by decide +kernel
theorem dL_holds_28 : decode cL_holds 28 = .ok (.invokestatic 156, 3) := by decide +kernel
theorem dL_holds_31 : decode cL_holds 31 = .ok (.istore 6, 2) := by decide +kernel
theorem dL_holds_33 : decode cL_holds 33 = .ok (.aload_n 0, 1) := by decide +kernel
theorem dL_holds_34 : decode cL_holds 34 = .ok (.iconst 4, 1) := by decide +kernel
theorem dL_holds_35 : decode cL_holds 35 = .ok (.iload 5, 2) := by decide +kernel
theorem dL_holds_37 : decode cL_holds 37 = .ok (.iconst 1, 1) := by decide +kernel
theorem dL_holds_38 : decode cL_holds 38 = .ok (.iconst 0, 1) := by decide +kernel
theorem dL_holds_39 : decode cL_holds 39 = .ok (.invokestatic 156, 3) := by decide +kernel
theorem dL_holds_42 : decode cL_holds 42 = .ok (.istore 7, 2) := by decide +kernel
theorem dL_holds_44 : decode cL_holds 44 = .ok (.aload_n 0, 1) := by decide +kernel
theorem dL_holds_45 : decode cL_holds 45 = .ok (.iconst 4, 1) := by decide +kernel
theorem dL_holds_46 : decode cL_holds 46 = .ok (.iload 5, 2) := by decide +kernel
theorem dL_holds_48 : decode cL_holds 48 = .ok (.iconst 2, 1) := by decide +kernel
theorem dL_holds_49 : decode cL_holds 49 = .ok (.iconst 0, 1) := by decide +kernel
theorem dL_holds_50 : decode cL_holds 50 = .ok (.invokestatic 156, 3) := by decide +kernel
theorem dL_holds_53 : decode cL_holds 53 = .ok (.istore 8, 2) := by decide +kernel
theorem dL_holds_55 : decode cL_holds 55 = .ok (.iload_n 2, 1) := by decide +kernel
theorem dL_holds_56 : decode cL_holds 56 = .ok (.iload 6, 2) := by decide +kernel
theorem dL_holds_58 : decode cL_holds 58 = .ok (.iadd, 1) := by decide +kernel
theorem dL_holds_59 : decode cL_holds 59 = .ok (.istore_n 2, 1) := by decide +kernel
theorem dL_holds_60 : decode cL_holds 60 = .ok (.iload_n 3, 1) := by decide +kernel
theorem dL_holds_61 : decode cL_holds 61 = .ok (.iload 8, 2) := by decide +kernel
theorem dL_holds_63 : decode cL_holds 63 = .ok (.iadd, 1) := by decide +kernel
theorem dL_holds_64 : decode cL_holds 64 = .ok (.istore_n 3, 1) := by decide +kernel
theorem dL_holds_65 : decode cL_holds 65 = .ok (.iload 7, 2) := by decide +kernel
theorem dL_holds_67 : decode cL_holds 67 = .ok (.ifCond .lt 110, 3) := by decide +kernel
theorem dL_holds_70 : decode cL_holds 70 = .ok (.iload 7, 2) := by decide +kernel
theorem dL_holds_72 : decode cL_holds 72 = .ok (.iload 6, 2) := by decide +kernel
theorem dL_holds_74 : decode cL_holds 74 = .ok (.if_icmp .gt 103, 3) := by decide +kernel
theorem dL_holds_77 : decode cL_holds 77 = .ok (.iload 8, 2) := by decide +kernel
theorem dL_holds_79 : decode cL_holds 79 = .ok (.iload 6, 2) := by decide +kernel
theorem dL_holds_81 : decode cL_holds 81 = .ok (.if_icmp .gt 96, 3) := by decide +kernel
theorem dL_holds_84 : decode cL_holds 84 = .ok (.iload 6, 2) := by decide +kernel
theorem dL_holds_86 : decode cL_holds 86 = .ok (.ifCond .ne 21, 3) := by decide +kernel
theorem dL_holds_89 : decode cL_holds 89 = .ok (.aload_n 0, 1) := by decide +kernel
theorem dL_holds_90 : decode cL_holds 90 = .ok (.bipush 7, 2) := by decide +kernel
theorem dL_holds_92 : decode cL_holds 92 = .ok (.iload 5, 2) := by decide +kernel
theorem dL_holds_94 : decode cL_holds 94 = .ok (.iconst 0, 1) := by decide +kernel
theorem dL_holds_95 : decode cL_holds 95 = .ok (.iconst 0, 1) := by decide +kernel
theorem dL_holds_96 : decode cL_holds 96 = .ok (.invokestatic 156, 3) := by decide +kernel
theorem dL_holds_99 : decode cL_holds 99 = .ok (.ldc 188, 2) := by decide +kernel
theorem dL_holds_101 : decode cL_holds 101 = .ok (.if_icmp .ne 76, 3) := by decide +kernel
theorem dL_holds_104 : decode cL_holds 104 = .ok (.goto 69, 3) := by decide +kernel
theorem dL_holds_107 : decode cL_holds 107 = .ok (.aload_n 0, 1) := by decide +kernel
theorem dL_holds_108 : decode cL_holds 108 = .ok (.bipush 7, 2) := by decide +kernel
theorem dL_holds_110 : decode cL_holds 110 = .ok (.iload 5, 2) := by decide +kernel
theorem dL_holds_112 : decode cL_holds 112 = .ok (.iconst 0, 1) := by decide +kernel
theorem dL_holds_113 : decode cL_holds 113 = .ok (.iconst 0, 1) := by decide +kernel
theorem dL_holds_114 : decode cL_holds 114 = .ok (.invokestatic 156, 3) := by decide +kernel
theorem dL_holds_117 : decode cL_holds 117 = .ok (.ifCond .ne 7, 3) := by decide +kernel
theorem dL_holds_120 : decode cL_holds 120 = .ok (.iconst 1, 1) := by decide +kernel
theorem dL_holds_121 : decode cL_holds 121 = .ok (.goto 4, 3) := by decide +kernel
theorem dL_holds_124 : decode cL_holds 124 = .ok (.iconst 0, 1) := by decide +kernel
theorem dL_holds_125 : decode cL_holds 125 = .ok (.iload 7, 2) := by decide +kernel
theorem dL_holds_127 : decode cL_holds 127 = .ok (.ifCond .ne 7, 3) := by decide +kernel
theorem dL_holds_130 : decode cL_holds 130 = .ok (.iconst 1, 1) := by decide +kernel
theorem dL_holds_131 : decode cL_holds 131 = .ok (.goto 4, 3) := by decide +kernel
theorem dL_holds_134 : decode cL_holds 134 = .ok (.iconst 0, 1) := by decide +kernel
theorem dL_holds_135 : decode cL_holds 135 = .ok (.if_icmp .ne 42, 3) := by decide +kernel
theorem dL_holds_138 : decode cL_holds 138 = .ok (.aload_n 0, 1) := by decide +kernel
theorem dL_holds_139 : decode cL_holds 139 = .ok (.bipush 7, 2) := by decide +kernel
theorem dL_holds_141 : decode cL_holds 141 = .ok (.iload 5, 2) := by decide +kernel
theorem dL_holds_143 : decode cL_holds 143 = .ok (.iconst 0, 1) := by decide +kernel
theorem dL_holds_144 : decode cL_holds 144 = .ok (.iconst 0, 1) := by decide +kernel
theorem dL_holds_145 : decode cL_holds 145 = .ok (.invokestatic 156, 3) := by decide +kernel
theorem dL_holds_148 : decode cL_holds 148 = .ok (.ldc 189, 2) := by decide +kernel
theorem dL_holds_150 : decode cL_holds 150 = .ok (.if_icmp .ne 7, 3) := by decide +kernel
theorem dL_holds_153 : decode cL_holds 153 = .ok (.iconst 1, 1) := by decide +kernel
theorem dL_holds_154 : decode cL_holds 154 = .ok (.goto 4, 3) := by decide +kernel
theorem dL_holds_157 : decode cL_holds 157 = .ok (.iconst 0, 1) := by decide +kernel
theorem dL_holds_158 : decode cL_holds 158 = .ok (.iload 7, 2) := by decide +kernel
theorem dL_holds_160 : decode cL_holds 160 = .ok (.iload 6, 2) := by decide +kernel
theorem dL_holds_162 : decode cL_holds 162 = .ok (.if_icmp .ne 7, 3) := by decide +kernel
theorem dL_holds_165 : decode cL_holds 165 = .ok (.iconst 1, 1) := by decide +kernel
theorem dL_holds_166 : decode cL_holds 166 = .ok (.goto 4, 3) := by decide +kernel
theorem dL_holds_169 : decode cL_holds 169 = .ok (.iconst 0, 1) := by decide +kernel
theorem dL_holds_170 : decode cL_holds 170 = .ok (.if_icmp .ne 7, 3) := by decide +kernel
theorem dL_holds_173 : decode cL_holds 173 = .ok (.iconst 1, 1) := by decide +kernel
theorem dL_holds_174 : decode cL_holds 174 = .ok (.goto 4, 3) := by decide +kernel
theorem dL_holds_177 : decode cL_holds 177 = .ok (.iconst 0, 1) := by decide +kernel
theorem dL_holds_178 : decode cL_holds 178 = .ok (.istore 4, 2) := by decide +kernel
theorem dL_holds_180 : decode cL_holds 180 = .ok (.iinc 5 1, 3) := by decide +kernel
theorem dL_holds_183 : decode cL_holds 183 = .ok (.goto (-173), 3) := by decide +kernel
theorem dL_holds_186 : decode cL_holds 186 = .ok (.iload 4, 2) := by decide +kernel
theorem dL_holds_188 : decode cL_holds 188 = .ok (.ifCond .eq 90, 3) := by decide +kernel
theorem dL_holds_191 : decode cL_holds 191 = .ok (.aload_n 0, 1) := by decide +kernel
theorem dL_holds_192 : decode cL_holds 192 = .ok (.iconst 1, 1) := by decide +kernel
theorem dL_holds_193 : decode cL_holds 193 = .ok (.iconst 0, 1) := by decide +kernel
theorem dL_holds_194 : decode cL_holds 194 = .ok (.iconst 0, 1) := by decide +kernel
theorem dL_holds_195 : decode cL_holds 195 = .ok (.iconst 0, 1) := by decide +kernel
theorem dL_holds_196 : decode cL_holds 196 = .ok (.invokestatic 156, 3) := by decide +kernel
theorem dL_holds_199 : decode cL_holds 199 = .ok (.iload_n 2, 1) := by decide +kernel
theorem dL_holds_200 : decode cL_holds 200 = .ok (.if_icmp .ne 78, 3) := by decide +kernel
theorem dL_holds_203 : decode cL_holds 203 = .ok (.aload_n 0, 1) := by decide +kernel
theorem dL_holds_204 : decode cL_holds 204 = .ok (.iconst 1, 1) := by decide +kernel
theorem dL_holds_205 : decode cL_holds 205 = .ok (.iconst 1, 1) := by decide +kernel
theorem dL_holds_206 : decode cL_holds 206 = .ok (.iconst 0, 1) := by decide +kernel
theorem dL_holds_207 : decode cL_holds 207 = .ok (.iconst 0, 1) := by decide +kernel
theorem dL_holds_208 : decode cL_holds 208 = .ok (.invokestatic 156, 3) := by decide +kernel
theorem dL_holds_211 : decode cL_holds 211 = .ok (.iload_n 3, 1) := by decide +kernel
theorem dL_holds_212 : decode cL_holds 212 = .ok (.if_icmp .ne 66, 3) := by decide +kernel
theorem dL_holds_215 : decode cL_holds 215 = .ok (.aload_n 0, 1) := by decide +kernel
theorem dL_holds_216 : decode cL_holds 216 = .ok (.iconst 1, 1) := by decide +kernel
theorem dL_holds_217 : decode cL_holds 217 = .ok (.iconst 2, 1) := by decide +kernel
theorem dL_holds_218 : decode cL_holds 218 = .ok (.iconst 0, 1) := by decide +kernel
theorem dL_holds_219 : decode cL_holds 219 = .ok (.iconst 0, 1) := by decide +kernel
theorem dL_holds_220 : decode cL_holds 220 = .ok (.invokestatic 156, 3) := by decide +kernel
theorem dL_holds_223 : decode cL_holds 223 = .ok (.iload_n 3, 1) := by decide +kernel
theorem dL_holds_224 : decode cL_holds 224 = .ok (.aload_n 0, 1) := by decide +kernel
theorem dL_holds_225 : decode cL_holds 225 = .ok (.iconst 1, 1) := by decide +kernel
theorem dL_holds_226 : decode cL_holds 226 = .ok (.bipush 9, 2) := by decide +kernel
theorem dL_holds_228 : decode cL_holds 228 = .ok (.iconst 0, 1) := by decide +kernel
theorem dL_holds_229 : decode cL_holds 229 = .ok (.iconst 0, 1) := by decide +kernel
theorem dL_holds_230 : decode cL_holds 230 = .ok (.invokestatic 156, 3) := by decide +kernel
theorem dL_holds_233 : decode cL_holds 233 = .ok (.iload_n 2, 1) := by decide +kernel
theorem dL_holds_234 : decode cL_holds 234 = .ok (.iload_n 3, 1) := by decide +kernel
theorem dL_holds_235 : decode cL_holds 235 = .ok (.isub, 1) := by decide +kernel
theorem dL_holds_236 : decode cL_holds 236 = .ok (.imul, 1) := by decide +kernel
theorem dL_holds_237 : decode cL_holds 237 = .ok (.isub, 1) := by decide +kernel
theorem dL_holds_238 : decode cL_holds 238 = .ok (.if_icmp .ne 40, 3) := by decide +kernel
theorem dL_holds_241 : decode cL_holds 241 = .ok (.aload_n 0, 1) := by decide +kernel
theorem dL_holds_242 : decode cL_holds 242 = .ok (.iconst 1, 1) := by decide +kernel
theorem dL_holds_243 : decode cL_holds 243 = .ok (.iconst 5, 1) := by decide +kernel
theorem dL_holds_244 : decode cL_holds 244 = .ok (.iconst 0, 1) := by decide +kernel
theorem dL_holds_245 : decode cL_holds 245 = .ok (.iconst 0, 1) := by decide +kernel
theorem dL_holds_246 : decode cL_holds 246 = .ok (.invokestatic 156, 3) := by decide +kernel
theorem dL_holds_249 : decode cL_holds 249 = .ok (.aload_n 0, 1) := by decide +kernel
theorem dL_holds_250 : decode cL_holds 250 = .ok (.iconst 1, 1) := by decide +kernel
theorem dL_holds_251 : decode cL_holds 251 = .ok (.bipush 6, 2) := by decide +kernel
theorem dL_holds_253 : decode cL_holds 253 = .ok (.iconst 0, 1) := by decide +kernel
theorem dL_holds_254 : decode cL_holds 254 = .ok (.iconst 0, 1) := by decide +kernel
theorem dL_holds_255 : decode cL_holds 255 = .ok (.invokestatic 156, 3) := by decide +kernel
theorem dL_holds_258 : decode cL_holds 258 = .ok (.if_icmp .gt 20, 3) := by decide +kernel
theorem dL_holds_261 : decode cL_holds 261 = .ok (.aload_n 0, 1) := by decide +kernel
theorem dL_holds_262 : decode cL_holds 262 = .ok (.iconst 1, 1) := by decide +kernel
theorem dL_holds_263 : decode cL_holds 263 = .ok (.bipush 6, 2) := by decide +kernel
theorem dL_holds_265 : decode cL_holds 265 = .ok (.iconst 0, 1) := by decide +kernel
theorem dL_holds_266 : decode cL_holds 266 = .ok (.iconst 0, 1) := by decide +kernel
theorem dL_holds_267 : decode cL_holds 267 = .ok (.invokestatic 156, 3) := by decide +kernel
theorem dL_holds_270 : decode cL_holds 270 = .ok (.iload_n 3, 1) := by decide +kernel
theorem dL_holds_271 : decode cL_holds 271 = .ok (.if_icmp .gt 7, 3) := by decide +kernel
theorem dL_holds_274 : decode cL_holds 274 = .ok (.iconst 1, 1) := by decide +kernel
theorem dL_holds_275 : decode cL_holds 275 = .ok (.goto 4, 3) := by decide +kernel
theorem dL_holds_278 : decode cL_holds 278 = .ok (.iconst 0, 1) := by decide +kernel
theorem dL_holds_279 : decode cL_holds 279 = .ok (.istore 4, 2) := by decide +kernel
theorem dL_holds_281 : decode cL_holds 281 = .ok (.iconst 0, 1) := by decide +kernel
theorem dL_holds_282 : decode cL_holds 282 = .ok (.istore 5, 2) := by decide +kernel
theorem dL_holds_284 : decode cL_holds 284 = .ok (.iload 5, 2) := by decide +kernel
theorem dL_holds_286 : decode cL_holds 286 = .ok (.iconst 2, 1) := by decide +kernel
theorem dL_holds_287 : decode cL_holds 287 = .ok (.if_icmp .ge 166, 3) := by decide +kernel
theorem dL_holds_290 : decode cL_holds 290 = .ok (.iload 4, 2) := by decide +kernel
theorem dL_holds_292 : decode cL_holds 292 = .ok (.ifCond .eq 161, 3) := by decide +kernel
theorem dL_holds_295 : decode cL_holds 295 = .ok (.iconst 0, 1) := by decide +kernel
theorem dL_holds_296 : decode cL_holds 296 = .ok (.istore 6, 2) := by decide +kernel
theorem dL_holds_298 : decode cL_holds 298 = .ok (.iconst 0, 1) := by decide +kernel
theorem dL_holds_299 : decode cL_holds 299 = .ok (.istore 7, 2) := by decide +kernel
theorem dL_holds_301 : decode cL_holds 301 = .ok (.iconst 0, 1) := by decide +kernel
theorem dL_holds_302 : decode cL_holds 302 = .ok (.istore 8, 2) := by decide +kernel
theorem dL_holds_304 : decode cL_holds 304 = .ok (.iconst 0, 1) := by decide +kernel
theorem dL_holds_305 : decode cL_holds 305 = .ok (.istore 9, 2) := by decide +kernel
theorem dL_holds_307 : decode cL_holds 307 = .ok (.iload 9, 2) := by decide +kernel
theorem dL_holds_309 : decode cL_holds 309 = .ok (.iconst 1, 1) := by decide +kernel
theorem dL_holds_310 : decode cL_holds 310 = .ok (.aload_n 0, 1) := by decide +kernel
theorem dL_holds_311 : decode cL_holds 311 = .ok (.iconst 1, 1) := by decide +kernel
theorem dL_holds_312 : decode cL_holds 312 = .ok (.bipush 7, 2) := by decide +kernel
theorem dL_holds_314 : decode cL_holds 314 = .ok (.iconst 0, 1) := by decide +kernel
theorem dL_holds_315 : decode cL_holds 315 = .ok (.iconst 0, 1) := by decide +kernel
theorem dL_holds_316 : decode cL_holds 316 = .ok (.invokestatic 156, 3) := by decide +kernel
theorem dL_holds_319 : decode cL_holds 319 = .ok (.ishl, 1) := by decide +kernel
theorem dL_holds_320 : decode cL_holds 320 = .ok (.if_icmp .ge 58, 3) := by decide +kernel
theorem dL_holds_323 : decode cL_holds 323 = .ok (.aload_n 0, 1) := by decide +kernel
theorem dL_holds_324 : decode cL_holds 324 = .ok (.iconst 3, 1) := by decide +kernel
theorem dL_holds_325 : decode cL_holds 325 = .ok (.iload 5, 2) := by decide +kernel
theorem dL_holds_327 : decode cL_holds 327 = .ok (.iload 9, 2) := by decide +kernel
theorem dL_holds_329 : decode cL_holds 329 = .ok (.iconst 2, 1) := by decide +kernel
theorem dL_holds_330 : decode cL_holds 330 = .ok (.invokestatic 156, 3) := by decide +kernel
theorem dL_holds_333 : decode cL_holds 333 = .ok (.istore 10, 2) := by decide +kernel
theorem dL_holds_335 : decode cL_holds 335 = .ok (.iload 6, 2) := by decide +kernel
theorem dL_holds_337 : decode cL_holds 337 = .ok (.iload 10, 2) := by decide +kernel
theorem dL_holds_339 : decode cL_holds 339 = .ok (.iadd, 1) := by decide +kernel
theorem dL_holds_340 : decode cL_holds 340 = .ok (.istore 6, 2) := by decide +kernel
theorem dL_holds_342 : decode cL_holds 342 = .ok (.iload 8, 2) := by decide +kernel
theorem dL_holds_344 : decode cL_holds 344 = .ok (.iload 10, 2) := by decide +kernel
theorem dL_holds_346 : decode cL_holds 346 = .ok (.ifCond .le 7, 3) := by decide +kernel
theorem dL_holds_349 : decode cL_holds 349 = .ok (.iconst 1, 1) := by decide +kernel
theorem dL_holds_350 : decode cL_holds 350 = .ok (.goto 4, 3) := by decide +kernel
theorem dL_holds_353 : decode cL_holds 353 = .ok (.iconst 0, 1) := by decide +kernel
theorem dL_holds_354 : decode cL_holds 354 = .ok (.iadd, 1) := by decide +kernel
theorem dL_holds_355 : decode cL_holds 355 = .ok (.istore 8, 2) := by decide +kernel
theorem dL_holds_357 : decode cL_holds 357 = .ok (.iload 7, 2) := by decide +kernel
theorem dL_holds_359 : decode cL_holds 359 = .ok (.aload_n 0, 1) := by decide +kernel
theorem dL_holds_360 : decode cL_holds 360 = .ok (.iconst 3, 1) := by decide +kernel
theorem dL_holds_361 : decode cL_holds 361 = .ok (.iload 5, 2) := by decide +kernel
theorem dL_holds_363 : decode cL_holds 363 = .ok (.iload 9, 2) := by decide +kernel
theorem dL_holds_365 : decode cL_holds 365 = .ok (.iconst 3, 1) := by decide +kernel
theorem dL_holds_366 : decode cL_holds 366 = .ok (.invokestatic 156, 3) := by decide +kernel
theorem dL_holds_369 : decode cL_holds 369 = .ok (.iadd, 1) := by decide +kernel
theorem dL_holds_370 : decode cL_holds 370 = .ok (.istore 7, 2) := by decide +kernel
theorem dL_holds_372 : decode cL_holds 372 = .ok (.iinc 9 1, 3) := by decide +kernel
theorem dL_holds_375 : decode cL_holds 375 = .ok (.goto (-68), 3) := by decide +kernel
theorem dL_holds_378 : decode cL_holds 378 = .ok (.iload 6, 2) := by decide +kernel
theorem dL_holds_380 : decode cL_holds 380 = .ok (.iload_n 2, 1) := by decide +kernel
theorem dL_holds_381 : decode cL_holds 381 = .ok (.if_icmp .ne 63, 3) := by decide +kernel
theorem dL_holds_384 : decode cL_holds 384 = .ok (.iload 7, 2) := by decide +kernel
theorem dL_holds_386 : decode cL_holds 386 = .ok (.aload_n 0, 1) := by decide +kernel
theorem dL_holds_387 : decode cL_holds 387 = .ok (.iconst 2, 1) := by decide +kernel
theorem dL_holds_388 : decode cL_holds 388 = .ok (.iload 5, 2) := by decide +kernel
theorem dL_holds_390 : decode cL_holds 390 = .ok (.iconst 3, 1) := by decide +kernel
theorem dL_holds_391 : decode cL_holds 391 = .ok (.iconst 0, 1) := by decide +kernel
theorem dL_holds_392 : decode cL_holds 392 = .ok (.invokestatic 156, 3) := by decide +kernel
theorem dL_holds_395 : decode cL_holds 395 = .ok (.if_icmp .ne 49, 3) := by decide +kernel
theorem dL_holds_398 : decode cL_holds 398 = .ok (.iload 8, 2) := by decide +kernel
theorem dL_holds_400 : decode cL_holds 400 = .ok (.aload_n 0, 1) := by decide +kernel
theorem dL_holds_401 : decode cL_holds 401 = .ok (.iconst 2, 1) := by decide +kernel
theorem dL_holds_402 : decode cL_holds 402 = .ok (.iload 5, 2) := by decide +kernel
theorem dL_holds_404 : decode cL_holds 404 = .ok (.iconst 4, 1) := by decide +kernel
theorem dL_holds_405 : decode cL_holds 405 = .ok (.iconst 0, 1) := by decide +kernel
theorem dL_holds_406 : decode cL_holds 406 = .ok (.invokestatic 156, 3) := by decide +kernel
theorem dL_holds_409 : decode cL_holds 409 = .ok (.if_icmp .ne 35, 3) := by decide +kernel
theorem dL_holds_412 : decode cL_holds 412 = .ok (.aload_n 0, 1) := by decide +kernel
theorem dL_holds_413 : decode cL_holds 413 = .ok (.iconst 1, 1) := by decide +kernel
theorem dL_holds_414 : decode cL_holds 414 = .ok (.iconst 3, 1) := by decide +kernel
theorem dL_holds_415 : decode cL_holds 415 = .ok (.iload 5, 2) := by decide +kernel
theorem dL_holds_417 : decode cL_holds 417 = .ok (.iadd, 1) := by decide +kernel
theorem dL_holds_418 : decode cL_holds 418 = .ok (.iconst 0, 1) := by decide +kernel
theorem dL_holds_419 : decode cL_holds 419 = .ok (.iconst 0, 1) := by decide +kernel
theorem dL_holds_420 : decode cL_holds 420 = .ok (.invokestatic 156, 3) := by decide +kernel
theorem dL_holds_423 : decode cL_holds 423 = .ok (.iload_n 2, 1) := by decide +kernel
theorem dL_holds_424 : decode cL_holds 424 = .ok (.iload 8, 2) := by decide +kernel
theorem dL_holds_426 : decode cL_holds 426 = .ok (.if_icmp .le 10, 3) := by decide +kernel
theorem dL_holds_429 : decode cL_holds 429 = .ok (.iload_n 2, 1) := by decide +kernel
theorem dL_holds_430 : decode cL_holds 430 = .ok (.iload 8, 2) := by decide +kernel
theorem dL_holds_432 : decode cL_holds 432 = .ok (.isub, 1) := by decide +kernel
theorem dL_holds_433 : decode cL_holds 433 = .ok (.goto 4, 3) := by decide +kernel
theorem dL_holds_436 : decode cL_holds 436 = .ok (.iconst 0, 1) := by decide +kernel
theorem dL_holds_437 : decode cL_holds 437 = .ok (.if_icmp .gt 7, 3) := by decide +kernel
theorem dL_holds_440 : decode cL_holds 440 = .ok (.iconst 1, 1) := by decide +kernel
theorem dL_holds_441 : decode cL_holds 441 = .ok (.goto 4, 3) := by decide +kernel
theorem dL_holds_444 : decode cL_holds 444 = .ok (.iconst 0, 1) := by decide +kernel
theorem dL_holds_445 : decode cL_holds 445 = .ok (.istore 4, 2) := by decide +kernel
theorem dL_holds_447 : decode cL_holds 447 = .ok (.iinc 5 1, 3) := by decide +kernel
theorem dL_holds_450 : decode cL_holds 450 = .ok (.goto (-166), 3) := by decide +kernel
theorem dL_holds_453 : decode cL_holds 453 = .ok (.iload_n 1, 1) := by decide +kernel
theorem dL_holds_454 : decode cL_holds 454 = .ok (.bipush 26, 2) := by decide +kernel
theorem dL_holds_456 : decode cL_holds 456 = .ok (.irem, 1) := by decide +kernel
theorem dL_holds_457 : decode cL_holds 457 = .ok (.istore 5, 2) := by decide +kernel
theorem dL_holds_459 : decode cL_holds 459 = .ok (.aload_n 0, 1) := by decide +kernel
theorem dL_holds_460 : decode cL_holds 460 = .ok (.iconst 4, 1) := by decide +kernel
theorem dL_holds_461 : decode cL_holds 461 = .ok (.iload 5, 2) := by decide +kernel
theorem dL_holds_463 : decode cL_holds 463 = .ok (.iconst 4, 1) := by decide +kernel
theorem dL_holds_464 : decode cL_holds 464 = .ok (.iconst 0, 1) := by decide +kernel
theorem dL_holds_465 : decode cL_holds 465 = .ok (.invokestatic 156, 3) := by decide +kernel
theorem dL_holds_468 : decode cL_holds 468 = .ok (.istore 6, 2) := by decide +kernel
theorem dL_holds_470 : decode cL_holds 470 = .ok (.aload_n 0, 1) := by decide +kernel
theorem dL_holds_471 : decode cL_holds 471 = .ok (.bipush 16, 2) := by decide +kernel
theorem dL_holds_473 : decode cL_holds 473 = .ok (.iload 5, 2) := by decide +kernel
theorem dL_holds_475 : decode cL_holds 475 = .ok (.iconst 0, 1) := by decide +kernel
theorem dL_holds_476 : decode cL_holds 476 = .ok (.iconst 0, 1) := by decide +kernel
theorem dL_holds_477 : decode cL_holds 477 = .ok (.invokestatic 156, 3) := by decide +kernel
theorem dL_holds_480 : decode cL_holds 480 = .ok (.istore 7, 2) := by decide +kernel
theorem dL_holds_482 : decode cL_holds 482 = .ok (.iload 7, 2) := by decide +kernel
theorem dL_holds_484 : decode cL_holds 484 = .ok (.bipush 6, 2) := by decide +kernel
theorem dL_holds_486 : decode cL_holds 486 = .ok (.if_icmp .ge 135, 3) := by decide +kernel
theorem dL_holds_489 : decode cL_holds 489 = .ok (.iload 4, 2) := by decide +kernel
theorem dL_holds_491 : decode cL_holds 491 = .ok (.ifCond .eq 130, 3) := by decide +kernel
theorem dL_holds_494 : decode cL_holds 494 = .ok (.iconst 0, 1) := by decide +kernel
theorem dL_holds_495 : decode cL_holds 495 = .ok (.istore 8, 2) := by decide +kernel
theorem dL_holds_497 : decode cL_holds 497 = .ok (.iload 8, 2) := by decide +kernel
theorem dL_holds_499 : decode cL_holds 499 = .ok (.iload 7, 2) := by decide +kernel
theorem dL_holds_501 : decode cL_holds 501 = .ok (.if_icmp .ge 54, 3) := by decide +kernel
theorem dL_holds_504 : decode cL_holds 504 = .ok (.iload 4, 2) := by decide +kernel
theorem dL_holds_506 : decode cL_holds 506 = .ok (.ifCond .eq 49, 3) := by decide +kernel
theorem dL_holds_509 : decode cL_holds 509 = .ok (.aload_n 0, 1) := by decide +kernel
theorem dL_holds_510 : decode cL_holds 510 = .ok (.iconst 4, 1) := by decide +kernel
theorem dL_holds_511 : decode cL_holds 511 = .ok (.iload 5, 2) := by decide +kernel
theorem dL_holds_513 : decode cL_holds 513 = .ok (.iconst 4, 1) := by decide +kernel
theorem dL_holds_514 : decode cL_holds 514 = .ok (.iconst 0, 1) := by decide +kernel
theorem dL_holds_515 : decode cL_holds 515 = .ok (.invokestatic 156, 3) := by decide +kernel
theorem dL_holds_518 : decode cL_holds 518 = .ok (.iload 6, 2) := by decide +kernel
theorem dL_holds_520 : decode cL_holds 520 = .ok (.if_icmp .ne 26, 3) := by decide +kernel
theorem dL_holds_523 : decode cL_holds 523 = .ok (.aload_n 0, 1) := by decide +kernel
theorem dL_holds_524 : decode cL_holds 524 = .ok (.iload 5, 2) := by decide +kernel
theorem dL_holds_526 : decode cL_holds 526 = .ok (.iload 6, 2) := by decide +kernel
theorem dL_holds_528 : decode cL_holds 528 = .ok (.ifCond .ne 7, 3) := by decide +kernel
theorem dL_holds_531 : decode cL_holds 531 = .ok (.iconst 1, 1) := by decide +kernel
theorem dL_holds_532 : decode cL_holds 532 = .ok (.goto 4, 3) := by decide +kernel
theorem dL_holds_535 : decode cL_holds 535 = .ok (.iconst 0, 1) := by decide +kernel
theorem dL_holds_536 : decode cL_holds 536 = .ok (.invokestatic 160, 3) := by decide +kernel
theorem dL_holds_539 : decode cL_holds 539 = .ok (.ifCond .ne 7, 3) := by decide +kernel
theorem dL_holds_542 : decode cL_holds 542 = .ok (.iconst 1, 1) := by decide +kernel
theorem dL_holds_543 : decode cL_holds 543 = .ok (.goto 4, 3) := by decide +kernel
theorem dL_holds_546 : decode cL_holds 546 = .ok (.iconst 0, 1) := by decide +kernel
theorem dL_holds_547 : decode cL_holds 547 = .ok (.istore 4, 2) := by decide +kernel
theorem dL_holds_549 : decode cL_holds 549 = .ok (.iinc 8 1, 3) := by decide +kernel
theorem dL_holds_552 : decode cL_holds 552 = .ok (.goto (-55), 3) := by decide +kernel
theorem dL_holds_555 : decode cL_holds 555 = .ok (.iload 4, 2) := by decide +kernel
theorem dL_holds_557 : decode cL_holds 557 = .ok (.ifCond .eq 21, 3) := by decide +kernel
theorem dL_holds_560 : decode cL_holds 560 = .ok (.aload_n 0, 1) := by decide +kernel
theorem dL_holds_561 : decode cL_holds 561 = .ok (.iconst 4, 1) := by decide +kernel
theorem dL_holds_562 : decode cL_holds 562 = .ok (.iload 5, 2) := by decide +kernel
theorem dL_holds_564 : decode cL_holds 564 = .ok (.iconst 4, 1) := by decide +kernel
theorem dL_holds_565 : decode cL_holds 565 = .ok (.iconst 0, 1) := by decide +kernel
theorem dL_holds_566 : decode cL_holds 566 = .ok (.invokestatic 156, 3) := by decide +kernel
theorem dL_holds_569 : decode cL_holds 569 = .ok (.iload 6, 2) := by decide +kernel
theorem dL_holds_571 : decode cL_holds 571 = .ok (.if_icmp .eq 7, 3) := by decide +kernel
theorem dL_holds_574 : decode cL_holds 574 = .ok (.iconst 1, 1) := by decide +kernel
theorem dL_holds_575 : decode cL_holds 575 = .ok (.goto 4, 3) := by decide +kernel
theorem dL_holds_578 : decode cL_holds 578 = .ok (.iconst 0, 1) := by decide +kernel
theorem dL_holds_579 : decode cL_holds 579 = .ok (.istore 4, 2) := by decide +kernel
theorem dL_holds_581 : decode cL_holds 581 = .ok (.iconst 0, 1) := by decide +kernel
theorem dL_holds_582 : decode cL_holds 582 = .ok (.istore 8, 2) := by decide +kernel
theorem dL_holds_584 : decode cL_holds 584 = .ok (.iload 8, 2) := by decide +kernel
theorem dL_holds_586 : decode cL_holds 586 = .ok (.iload 7, 2) := by decide +kernel
theorem dL_holds_588 : decode cL_holds 588 = .ok (.if_icmp .ge 33, 3) := by decide +kernel
theorem dL_holds_591 : decode cL_holds 591 = .ok (.iload 4, 2) := by decide +kernel
theorem dL_holds_593 : decode cL_holds 593 = .ok (.ifCond .eq 28, 3) := by decide +kernel
theorem dL_holds_596 : decode cL_holds 596 = .ok (.aload_n 0, 1) := by decide +kernel
theorem dL_holds_597 : decode cL_holds 597 = .ok (.bipush 12, 2) := by decide +kernel
theorem dL_holds_599 : decode cL_holds 599 = .ok (.iconst 0, 1) := by decide +kernel
theorem dL_holds_600 : decode cL_holds 600 = .ok (.iconst 0, 1) := by decide +kernel
theorem dL_holds_601 : decode cL_holds 601 = .ok (.iconst 0, 1) := by decide +kernel
theorem dL_holds_602 : decode cL_holds 602 = .ok (.invokestatic 156, 3) := by decide +kernel
theorem dL_holds_605 : decode cL_holds 605 = .ok (.ifCond .lt 7, 3) := by decide +kernel
theorem dL_holds_608 : decode cL_holds 608 = .ok (.iconst 1, 1) := by decide +kernel
theorem dL_holds_609 : decode cL_holds 609 = .ok (.goto 4, 3) := by decide +kernel
theorem dL_holds_612 : decode cL_holds 612 = .ok (.iconst 0, 1) := by decide +kernel
theorem dL_holds_613 : decode cL_holds 613 = .ok (.istore 4, 2) := by decide +kernel
theorem dL_holds_615 : decode cL_holds 615 = .ok (.iinc 8 1, 3) := by decide +kernel
theorem dL_holds_618 : decode cL_holds 618 = .ok (.goto (-34), 3) := by decide +kernel
theorem dL_holds_621 : decode cL_holds 621 = .ok (.aload_n 0, 1) := by decide +kernel
theorem dL_holds_622 : decode cL_holds 622 = .ok (.invokevirtual 182, 3) := by decide +kernel
theorem dL_holds_625 : decode cL_holds 625 = .ok (.istore 8, 2) := by decide +kernel
theorem dL_holds_627 : decode cL_holds 627 = .ok (.aload_n 0, 1) := by decide +kernel
theorem dL_holds_628 : decode cL_holds 628 = .ok (.iconst 1, 1) := by decide +kernel
theorem dL_holds_629 : decode cL_holds 629 = .ok (.iconst 2, 1) := by decide +kernel
theorem dL_holds_630 : decode cL_holds 630 = .ok (.iconst 0, 1) := by decide +kernel
theorem dL_holds_631 : decode cL_holds 631 = .ok (.iconst 0, 1) := by decide +kernel
theorem dL_holds_632 : decode cL_holds 632 = .ok (.invokestatic 156, 3) := by decide +kernel
theorem dL_holds_635 : decode cL_holds 635 = .ok (.istore 9, 2) := by decide +kernel
theorem dL_holds_637 : decode cL_holds 637 = .ok (.aload_n 0, 1) := by decide +kernel
theorem dL_holds_638 : decode cL_holds 638 = .ok (.bipush 11, 2) := by decide +kernel
theorem dL_holds_640 : decode cL_holds 640 = .ok (.iconst 0, 1) := by decide +kernel
theorem dL_holds_641 : decode cL_holds 641 = .ok (.iconst 0, 1) := by decide +kernel
theorem dL_holds_642 : decode cL_holds 642 = .ok (.iconst 0, 1) := by decide +kernel
theorem dL_holds_643 : decode cL_holds 643 = .ok (.invokestatic 156, 3) := by decide +kernel
theorem dL_holds_646 : decode cL_holds 646 = .ok (.istore 10, 2) := by decide +kernel
theorem dL_holds_648 : decode cL_holds 648 = .ok (.iload 4, 2) := by decide +kernel
theorem dL_holds_650 : decode cL_holds 650 = .ok (.ifCond .eq 101, 3) := by decide +kernel
theorem dL_holds_653 : decode cL_holds 653 = .ok (.iload 8, 2) := by decide +kernel
theorem dL_holds_655 : decode cL_holds 655 = .ok (.ldc 188, 2) := by decide +kernel
theorem dL_holds_657 : decode cL_holds 657 = .ok (.if_icmp .ne 13, 3) := by decide +kernel
theorem dL_holds_660 : decode cL_holds 660 = .ok (.iload 10, 2) := by decide +kernel
theorem dL_holds_662 : decode cL_holds 662 = .ok (.ldc 33, 2) := by decide +kernel
theorem dL_holds_664 : decode cL_holds 664 = .ok (.if_icmp .ne 87, 3) := by decide +kernel
theorem dL_holds_667 : decode cL_holds 667 = .ok (.goto 68, 3) := by decide +kernel
theorem dL_holds_670 : decode cL_holds 670 = .ok (.iload 10, 2) := by decide +kernel
theorem dL_holds_672 : decode cL_holds 672 = .ok (.ifCond .lt 79, 3) := by decide +kernel
theorem dL_holds_675 : decode cL_holds 675 = .ok (.aload_n 0, 1) := by decide +kernel
theorem dL_holds_676 : decode cL_holds 676 = .ok (.iconst 1, 1) := by decide +kernel
theorem dL_holds_677 : decode cL_holds 677 = .ok (.iconst 2, 1) := by decide +kernel
theorem dL_holds_678 : decode cL_holds 678 = .ok (.iconst 0, 1) := by decide +kernel
theorem dL_holds_679 : decode cL_holds 679 = .ok (.iconst 0, 1) := by decide +kernel
theorem dL_holds_680 : decode cL_holds 680 = .ok (.invokestatic 156, 3) := by decide +kernel
theorem dL_holds_683 : decode cL_holds 683 = .ok (.iload 9, 2) := by decide +kernel
theorem dL_holds_685 : decode cL_holds 685 = .ok (.iload 8, 2) := by decide +kernel
theorem dL_holds_687 : decode cL_holds 687 = .ok (.iadd, 1) := by decide +kernel
theorem dL_holds_688 : decode cL_holds 688 = .ok (.if_icmp .ne 63, 3) := by decide +kernel
theorem dL_holds_691 : decode cL_holds 691 = .ok (.aload_n 0, 1) := by decide +kernel
theorem dL_holds_692 : decode cL_holds 692 = .ok (.iconst 1, 1) := by decide +kernel
theorem dL_holds_693 : decode cL_holds 693 = .ok (.iconst 0, 1) := by decide +kernel
theorem dL_holds_694 : decode cL_holds 694 = .ok (.iconst 0, 1) := by decide +kernel
theorem dL_holds_695 : decode cL_holds 695 = .ok (.iconst 0, 1) := by decide +kernel
theorem dL_holds_696 : decode cL_holds 696 = .ok (.invokestatic 156, 3) := by decide +kernel
theorem dL_holds_699 : decode cL_holds 699 = .ok (.iload_n 2, 1) := by decide +kernel
theorem dL_holds_700 : decode cL_holds 700 = .ok (.aload_n 0, 1) := by decide +kernel
theorem dL_holds_701 : decode cL_holds 701 = .ok (.invokevirtual 179, 3) := by decide +kernel
theorem dL_holds_704 : decode cL_holds 704 = .ok (.iadd, 1) := by decide +kernel
theorem dL_holds_705 : decode cL_holds 705 = .ok (.if_icmp .ne 46, 3) := by decide +kernel
theorem dL_holds_708 : decode cL_holds 708 = .ok (.aload_n 0, 1) := by decide +kernel
theorem dL_holds_709 : decode cL_holds 709 = .ok (.iconst 1, 1) := by decide +kernel
theorem dL_holds_710 : decode cL_holds 710 = .ok (.iconst 1, 1) := by decide +kernel
theorem dL_holds_711 : decode cL_holds 711 = .ok (.iconst 0, 1) := by decide +kernel
theorem dL_holds_712 : decode cL_holds 712 = .ok (.iconst 0, 1) := by decide +kernel
theorem dL_holds_713 : decode cL_holds 713 = .ok (.invokestatic 156, 3) := by decide +kernel
theorem dL_holds_716 : decode cL_holds 716 = .ok (.iload_n 3, 1) := by decide +kernel
theorem dL_holds_717 : decode cL_holds 717 = .ok (.iload 10, 2) := by decide +kernel
theorem dL_holds_719 : decode cL_holds 719 = .ok (.iadd, 1) := by decide +kernel
theorem dL_holds_720 : decode cL_holds 720 = .ok (.if_icmp .ne 31, 3) := by decide +kernel
theorem dL_holds_723 : decode cL_holds 723 = .ok (.aload_n 0, 1) := by decide +kernel
theorem dL_holds_724 : decode cL_holds 724 = .ok (.bipush 12, 2) := by decide +kernel
theorem dL_holds_726 : decode cL_holds 726 = .ok (.iconst 0, 1) := by decide +kernel
theorem dL_holds_727 : decode cL_holds 727 = .ok (.iconst 0, 1) := by decide +kernel
theorem dL_holds_728 : decode cL_holds 728 = .ok (.iconst 0, 1) := by decide +kernel
theorem dL_holds_729 : decode cL_holds 729 = .ok (.invokestatic 156, 3) := by decide +kernel
theorem dL_holds_732 : decode cL_holds 732 = .ok (.ifCond .lt 19, 3) := by decide +kernel
theorem dL_holds_735 : decode cL_holds 735 = .ok (.aload_n 0, 1) := by decide +kernel
theorem dL_holds_736 : decode cL_holds 736 = .ok (.iconst 1, 1) := by decide +kernel
theorem dL_holds_737 : decode cL_holds 737 = .ok (.iconst 0, 1) := by decide +kernel
theorem dL_holds_738 : decode cL_holds 738 = .ok (.iconst 0, 1) := by decide +kernel
theorem dL_holds_739 : decode cL_holds 739 = .ok (.iconst 0, 1) := by decide +kernel
theorem dL_holds_740 : decode cL_holds 740 = .ok (.invokestatic 156, 3) := by decide +kernel
theorem dL_holds_743 : decode cL_holds 743 = .ok (.iload_n 2, 1) := by decide +kernel
theorem dL_holds_744 : decode cL_holds 744 = .ok (.if_icmp .ne 7, 3) := by decide +kernel
theorem dL_holds_747 : decode cL_holds 747 = .ok (.iconst 1, 1) := by decide +kernel
theorem dL_holds_748 : decode cL_holds 748 = .ok (.goto 4, 3) := by decide +kernel
theorem dL_holds_751 : decode cL_holds 751 = .ok (.iconst 0, 1) := by decide +kernel
theorem dL_holds_752 : decode cL_holds 752 = .ok (.ireturn, 1) := by decide +kernel
set_option maxRecDepth 20000 in
theorem ggL_act_L_call : GoodIn wsL_act wsL_call := goodIn_ca (goodIn_ca (goodIn_ca (goodIn_r _ [4, 5, 6, 3, 7, 8, 9, 10, 11, 12, 13, 14, 15, 16, 17, 18, 19, 20, 21, 22, 23, 24, 25, 26, 27, 28, 29, 30, 31, 32, 33, 34, 35, 36, 37, 38, 39, 40, 41, 42, 43, 44, 45, 46, 47, 48, 49, 50, 51, 52, 53, 54, 55, 56, 57, 58, 59, 60, 61, 62, 63, 64, 65, 66, 67, 68, 69, 70, 71, 72, 73, 74, 75, 76, 77, 78, 79, 80, 81, 82, 83, 84, 85, 86, 87, 88, 89, 90, 91, 92, 93, 94, 95, 96, 97, 98, 99, 100, 101, 102, 103, 104, 105, 106, 107, 108, 109, 110, 111, 112, 113, 114, 115, 116, 117, 118, 119, 120, 121, 122, 123, 124, 125, 126, 127, 128, 129, 130, 131, 132, 133, 134, 135, 136, 137, 138, 139, 140, 141, 142, 143, 144, 145, 146, 147, 148, 149, 150, 151, 152, 153, 154, 155, 156, 157, 158, 159, 160, 161, 162, 163, 164, 165, 166, 167, 168, 169, 170, 171, 172, 173, 174, 175, 176, 177, 178, 179, 180, 181, 182, 183, 184, 185, 186, 187, 188, 189, 190, 191, 192, 193, 194, 195, 196, 197, 198, 199, 200, 201, 202, 203, 204, 205, 206, 207, 208, 209, 210, 211, 212, 213, 214, 215, 216, 217, 218, 219, 220, 221, 222, 223, 224, 225, 226, 227, 228, 229, 230, 231, 232, 233, 234, 235, 236, 237, 238, 239, 240, 241, 242, 243, 244, 245, 246, 247, 248, 249, 250, 251, 252, 253, 254, 255, 256, 257, 258, 259, 260, 261, 262, 263, 264, 265, 266, 267, 268, 269, 270, 271, 272, 273, 274, 275, 276, 277, 278, 279, 280, 281, 282, 283, 284, 285, 286, 287, 288, 289, 290, 291, 292, 293, 294, 295, 296, 297, 298, 299, 300, 301, 302, 303, 304, 305, 306, 307, 308, 309, 310, 311, 312, 313, 314, 315, 316, 317, 318, 319, 320, 321, 322, 323, 324, 325, 326, 327, 328, 329, 330, 331, 332, 333, 334, 335, 336, 337, 338, 339, 340, 341, 342, 343, 344, 345, 346, 347, 348, 349, 350, 351, 352, 353, 354, 355, 356, 357, 358, 359, 360, 361, 362, 363, 364, 365, 366, 367, 368, 369, 370, 371, 372, 373, 374, 375, 376, 377, 378, 379, 380, 381, 382, 383, 384, 385, 386, 387, 388, 389, 390, 391, 392, 393, 394, 395, 396, 408, 409, 410, 411, 412, 413, 414, 415, 416, 417, 418, 419, 420, 421, 422, 423, 424, 425, 426, 427, 428, 429, 430, 431, 432, 433, 434, 435, 436, 437, 438, 439, 440, 441, 442, 443] (by decide +kernel) (by decide +kernel)) (goodIn_sub (fun _ h => List.mem_cons_of_mem _ (List.mem_append_left _ (List.mem_append_left _ (List.mem_append_right _ h)))) (by decide +kernel))) (goodIn_sub (fun _ h => List.mem_cons_of_mem _ (List.mem_append_left _ (List.mem_append_right _ h))) (by decide +kernel))) (goodIn_sub (fun _ h => List.mem_cons_of_mem _ (List.mem_append_right _ h)) (by decide +kernel))
set_option maxRecDepth 20000 in
theorem gL_act_L_call : GoodIn wsL_act (va_wsS RL 156 yL_call wsL_call) := goodIn_app (goodIn_of _ (by decide +kernel)) ggL_act_L_call
set_option maxRecDepth 20000 in
theorem ggL_act_X5_clearText : GoodIn wsL_act wsX5_clearText := goodIn_r _ [400, 21, 22, 408, 409, 410, 411, 412, 413, 414, 415, 416, 417, 418, 419, 420, 421] (by decide +kernel) (by decide +kernel)
set_option maxRecDepth 20000 in
theorem gL_act_X5_clearText : GoodIn wsL_act (wsV RL 190 RX5 yX5_clearText wsX5_clearText) := goodIn_app (goodIn_of _ (by decide +kernel)) ggL_act_X5_clearText
set_option maxRecDepth 20000 in
theorem ggL_act_L_tryGo : GoodIn wsL_act wsL_tryGo := goodIn_ca (goodIn_r _ [403, 49, 50, 404, 405, 406, 15, 407, 168, 37, 103, 104, 105, 60, 61, 106, 107, 108, 173, 174, 175, 176, 177, 178, 179, 180, 181, 182, 183, 89, 184, 91, 185, 186, 187, 188, 118, 113, 189, 190, 191, 192, 193, 194, 195, 196, 197, 198, 199, 68, 200, 124, 201, 202, 203, 70, 204, 129, 205, 206, 377, 302, 303, 304, 114, 115, 116, 117, 119, 120, 121, 122, 123, 125, 126, 127, 128, 305, 306, 307, 308, 309, 310, 311, 312, 313, 314, 315, 316, 317, 318, 319, 320, 146, 147, 148, 321, 322, 323, 324, 325, 326, 327, 328, 329, 330, 408, 409, 410, 411, 412, 413, 441, 442, 443, 422, 423, 424, 425, 426, 427, 428, 429, 430, 431, 432, 433, 434, 435, 436, 437, 438, 439, 440] (by decide +kernel) (by decide +kernel)) (goodIn_sub (fun _ h => List.mem_cons_of_mem _ (List.mem_append_right _ h)) (by decide +kernel))
set_option maxRecDepth 20000 in
theorem gL_act_L_tryGo : GoodIn wsL_act (va_wsS RL 160 yL_tryGo wsL_tryGo) := goodIn_app (goodIn_of _ (by decide +kernel)) ggL_act_L_tryGo
theorem dL_act_0 : decode cL_act 0 = .ok (.iload_n 1, 1) := by decide +kernel
theorem dL_act_1 : decode cL_act 1 = .ok (.bipush 16, 2) := by decide +kernel
theorem dL_act_3 : decode cL_act 3 = .ok (.irem, 1) := by decide +kernel
theorem dL_act_4 : decode cL_act 4 = .ok (.tableswitch 267 0 9 #[56, 78, 96, 117, 127, 139, 151, 151, 161, 161], 56) := by decide +kernel
theorem dL_act_60 : decode cL_act 60 = .ok (.aload_n 0, 1) := by decide +kernel
theorem dL_act_61 : decode cL_act 61 = .ok (.bipush 8, 2) := by decide +kernel
theorem dL_act_63 : decode cL_act 63 = .ok (.iload_n 2, 1) := by decide +kernel
theorem dL_act_64 : decode cL_act 64 = .ok (.iconst 2, 1) := by decide +kernel
theorem dL_act_65 : decode cL_act 65 = .ok (.irem, 1) := by decide +kernel
theorem dL_act_66 : decode cL_act 66 = .ok (.iload_n 2, 1) := by decide +kernel
theorem dL_act_67 : decode cL_act 67 = .ok (.iconst 2, 1) := by decide +kernel
theorem dL_act_68 : decode cL_act 68 = .ok (.idiv, 1) := by decide +kernel
theorem dL_act_69 : decode cL_act 69 = .ok (.iconst 3, 1) := by decide +kernel
theorem dL_act_70 : decode cL_act 70 = .ok (.irem, 1) := by decide +kernel
theorem dL_act_71 : decode cL_act 71 = .ok (.iload_n 2, 1) := by decide +kernel
theorem dL_act_72 : decode cL_act 72 = .ok (.bipush 8, 2) := by decide +kernel
theorem dL_act_74 : decode cL_act 74 = .ok (.idiv, 1) := by decide +kernel
theorem dL_act_75 : decode cL_act 75 = .ok (.bipush 7, 2) := by decide +kernel
theorem dL_act_77 : decode cL_act 77 = .ok (.irem, 1) := by decide +kernel
theorem dL_act_78 : decode cL_act 78 = .ok (.invokestatic 156, 3) := by decide +kernel
theorem dL_act_81 : decode cL_act 81 = .ok (.ireturn, 1) := by decide +kernel
theorem dL_act_82 : decode cL_act 82 = .ok (.aload_n 0, 1) := by decide +kernel
theorem dL_act_83 : decode cL_act 83 = .ok (.bipush 9, 2) := by decide +kernel
theorem dL_act_85 : decode cL_act 85 = .ok (.iload_n 2, 1) := by decide +kernel
theorem dL_act_86 : decode cL_act 86 = .ok (.iconst 3, 1) := by decide +kernel
theorem dL_act_87 : decode cL_act 87 = .ok (.irem, 1) := by decide +kernel
theorem dL_act_88 : decode cL_act 88 = .ok (.iconst 2, 1) := by decide +kernel
theorem dL_act_89 : decode cL_act 89 = .ok (.iload_n 2, 1) := by decide +kernel
theorem dL_act_90 : decode cL_act 90 = .ok (.iconst 4, 1) := by decide +kernel
theorem dL_act_91 : decode cL_act 91 = .ok (.idiv, 1) := by decide +kernel
theorem dL_act_92 : decode cL_act 92 = .ok (.iconst 4, 1) := by decide +kernel
theorem dL_act_93 : decode cL_act 93 = .ok (.irem, 1) := by decide +kernel
theorem dL_act_94 : decode cL_act 94 = .ok (.iadd, 1) := by decide +kernel
theorem dL_act_95 : decode cL_act 95 = .ok (.iconst 0, 1) := by decide +kernel
theorem dL_act_96 : decode cL_act 96 = .ok (.invokestatic 156, 3) := by decide +kernel
theorem dL_act_99 : decode cL_act 99 = .ok (.ireturn, 1) := by decide +kernel
theorem dL_act_100 : decode cL_act 100 = .ok (.aload_n 0, 1) := by decide +kernel
theorem dL_act_101 : decode cL_act 101 = .ok (.bipush 10, 2) := by decide +kernel
theorem dL_act_103 : decode cL_act 103 = .ok (.iload_n 2, 1) := by decide +kernel
theorem dL_act_104 : decode cL_act 104 = .ok (.iconst 2, 1) := by decide +kernel
theorem dL_act_105 : decode cL_act 105 = .ok (.irem, 1) := by decide +kernel
theorem dL_act_106 : decode cL_act 106 = .ok (.iload_n 2, 1) := by decide +kernel
theorem dL_act_107 : decode cL_act 107 = .ok (.iconst 2, 1) := by decide +kernel
theorem dL_act_108 : decode cL_act 108 = .ok (.idiv, 1) := by decide +kernel
theorem dL_act_109 : decode cL_act 109 = .ok (.iconst 4, 1) := by decide +kernel
theorem dL_act_110 : decode cL_act 110 = .ok (.irem, 1) := by decide +kernel
theorem dL_act_111 : decode cL_act 111 = .ok (.iload_n 2, 1) := by decide +kernel
theorem dL_act_112 : decode cL_act 112 = .ok (.bipush 8, 2) := by decide +kernel
theorem dL_act_114 : decode cL_act 114 = .ok (.idiv, 1) := by decide +kernel
theorem dL_act_115 : decode cL_act 115 = .ok (.iconst 4, 1) := by decide +kernel
theorem dL_act_116 : decode cL_act 116 = .ok (.irem, 1) := by decide +kernel
theorem dL_act_117 : decode cL_act 117 = .ok (.invokestatic 156, 3) := by decide +kernel
theorem dL_act_120 : decode cL_act 120 = .ok (.ireturn, 1) := by decide +kernel
theorem dL_act_121 : decode cL_act 121 = .ok (.aload_n 0, 1) := by decide +kernel
theorem dL_act_122 : decode cL_act 122 = .ok (.bipush 12, 2) := by decide +kernel
theorem dL_act_124 : decode cL_act 124 = .ok (.iconst 0, 1) := by decide +kernel
theorem dL_act_125 : decode cL_act 125 = .ok (.iconst 0, 1) := by decide +kernel
theorem dL_act_126 : decode cL_act 126 = .ok (.iconst 0, 1) := by decide +kernel
theorem dL_act_127 : decode cL_act 127 = .ok (.invokestatic 156, 3) := by decide +kernel
theorem dL_act_130 : decode cL_act 130 = .ok (.ireturn, 1) := by decide +kernel
theorem dL_act_131 : decode cL_act 131 = .ok (.aload_n 0, 1) := by decide +kernel
theorem dL_act_132 : decode cL_act 132 = .ok (.bipush 17, 2) := by decide +kernel
theorem dL_act_134 : decode cL_act 134 = .ok (.iload_n 2, 1) := by decide +kernel
theorem dL_act_135 : decode cL_act 135 = .ok (.iconst 2, 1) := by decide +kernel
theorem dL_act_136 : decode cL_act 136 = .ok (.irem, 1) := by decide +kernel
theorem dL_act_137 : decode cL_act 137 = .ok (.iconst 0, 1) := by decide +kernel
theorem dL_act_138 : decode cL_act 138 = .ok (.iconst 0, 1) := by decide +kernel
theorem dL_act_139 : decode cL_act 139 = .ok (.invokestatic 156, 3) := by decide +kernel
theorem dL_act_142 : decode cL_act 142 = .ok (.ireturn, 1) := by decide +kernel
theorem dL_act_143 : decode cL_act 143 = .ok (.aload_n 0, 1) := by decide +kernel
theorem dL_act_144 : decode cL_act 144 = .ok (.bipush 18, 2) := by decide +kernel
theorem dL_act_146 : decode cL_act 146 = .ok (.iload_n 2, 1) := by decide +kernel
theorem dL_act_147 : decode cL_act 147 = .ok (.iconst 2, 1) := by decide +kernel
theorem dL_act_148 : decode cL_act 148 = .ok (.irem, 1) := by decide +kernel
theorem dL_act_149 : decode cL_act 149 = .ok (.iconst 0, 1) := by decide +kernel
theorem dL_act_150 : decode cL_act 150 = .ok (.iconst 0, 1) := by decide +kernel
theorem dL_act_151 : decode cL_act 151 = .ok (.invokestatic 156, 3) := by decide +kernel
theorem dL_act_154 : decode cL_act 154 = .ok (.ireturn, 1) := by decide +kernel
theorem dL_act_155 : decode cL_act 155 = .ok (.aload_n 0, 1) := by decide +kernel
theorem dL_act_156 : decode cL_act 156 = .ok (.bipush 11, 2) := by decide +kernel
theorem dL_act_158 : decode cL_act 158 = .ok (.iconst 0, 1) := by decide +kernel
theorem dL_act_159 : decode cL_act 159 = .ok (.iconst 0, 1) := by decide +kernel
theorem dL_act_160 : decode cL_act 160 = .ok (.iconst 0, 1) := by decide +kernel
theorem dL_act_161 : decode cL_act 161 = .ok (.invokestatic 156, 3) := by decide +kernel
theorem dL_act_164 : decode cL_act 164 = .ok (.ireturn, 1) := by decide +kernel
theorem dL_act_165 : decode cL_act 165 = .ok (.iload_n 2, 1) := by decide +kernel
theorem dL_act_166 : decode cL_act 166 = .ok (.iconst 3, 1) := by decide +kernel
theorem dL_act_167 : decode cL_act 167 = .ok (.irem, 1) := by decide +kernel
theorem dL_act_168 : decode cL_act 168 = .ok (.ifCond .ne 8, 3) := by decide +kernel
theorem dL_act_171 : decode cL_act 171 = .ok (.aload_n 0, 1) := by decide +kernel
theorem dL_act_172 : decode cL_act 172 = .ok (.invokevirtual 190, 3) := by decide +kernel
theorem dL_act_175 : decode cL_act 175 = .ok (.pop, 1) := by decide +kernel
theorem dL_act_176 : decode cL_act 176 = .ok (.aload_n 0, 1) := by decide +kernel
theorem dL_act_177 : decode cL_act 177 = .ok (.iconst 0, 1) := by decide +kernel
theorem dL_act_178 : decode cL_act 178 = .ok (.bipush 40, 2) := by decide +kernel
theorem dL_act_180 : decode cL_act 180 = .ok (.iconst 0, 1) := by decide +kernel
theorem dL_act_181 : decode cL_act 181 = .ok (.iconst 0, 1) := by decide +kernel
theorem dL_act_182 : decode cL_act 182 = .ok (.invokestatic 156, 3) := by decide +kernel
theorem dL_act_185 : decode cL_act 185 = .ok (.istore_n 3, 1) := by decide +kernel
theorem dL_act_186 : decode cL_act 186 = .ok (.aload_n 0, 1) := by decide +kernel
theorem dL_act_187 : decode cL_act 187 = .ok (.iconst 0, 1) := by decide +kernel
theorem dL_act_188 : decode cL_act 188 = .ok (.bipush 97, 2) := by decide +kernel
theorem dL_act_190 : decode cL_act 190 = .ok (.iload_n 2, 1) := by decide +kernel
theorem dL_act_191 : decode cL_act 191 = .ok (.iconst 4, 1) := by decide +kernel
theorem dL_act_192 : decode cL_act 192 = .ok (.idiv, 1) := by decide +kernel
theorem dL_act_193 : decode cL_act 193 = .ok (.bipush 26, 2) := by decide +kernel
theorem dL_act_195 : decode cL_act 195 = .ok (.irem, 1) := by decide +kernel
theorem dL_act_196 : decode cL_act 196 = .ok (.iadd, 1) := by decide +kernel
theorem dL_act_197 : decode cL_act 197 = .ok (.iconst 0, 1) := by decide +kernel
theorem dL_act_198 : decode cL_act 198 = .ok (.iconst 0, 1) := by decide +kernel
theorem dL_act_199 : decode cL_act 199 = .ok (.invokestatic 156, 3) := by decide +kernel
theorem dL_act_202 : decode cL_act 202 = .ok (.istore 4, 2) := by decide +kernel
theorem dL_act_204 : decode cL_act 204 = .ok (.aload_n 0, 1) := by decide +kernel
theorem dL_act_205 : decode cL_act 205 = .ok (.iconst 0, 1) := by decide +kernel
theorem dL_act_206 : decode cL_act 206 = .ok (.iload_n 2, 1) := by decide +kernel
theorem dL_act_207 : decode cL_act 207 = .ok (.sipush 128, 3) := by decide +kernel
theorem dL_act_210 : decode cL_act 210 = .ok (.idiv, 1) := by decide +kernel
theorem dL_act_211 : decode cL_act 211 = .ok (.iconst 2, 1) := by decide +kernel
theorem dL_act_212 : decode cL_act 212 = .ok (.irem, 1) := by decide +kernel
theorem dL_act_213 : decode cL_act 213 = .ok (.ifCond .ne 8, 3) := by decide +kernel
theorem dL_act_216 : decode cL_act 216 = .ok (.bipush 43, 2) := by decide +kernel
theorem dL_act_218 : decode cL_act 218 = .ok (.goto 5, 3) := by decide +kernel
theorem dL_act_221 : decode cL_act 221 = .ok (.bipush 45, 2) := by decide +kernel
theorem dL_act_223 : decode cL_act 223 = .ok (.iconst 0, 1) := by decide +kernel
theorem dL_act_224 : decode cL_act 224 = .ok (.iconst 0, 1) := by decide +kernel
theorem dL_act_225 : decode cL_act 225 = .ok (.invokestatic 156, 3) := by decide +kernel
theorem dL_act_228 : decode cL_act 228 = .ok (.istore 5, 2) := by decide +kernel
theorem dL_act_230 : decode cL_act 230 = .ok (.aload_n 0, 1) := by decide +kernel
theorem dL_act_231 : decode cL_act 231 = .ok (.iconst 0, 1) := by decide +kernel
theorem dL_act_232 : decode cL_act 232 = .ok (.bipush 41, 2) := by decide +kernel
theorem dL_act_234 : decode cL_act 234 = .ok (.iconst 0, 1) := by decide +kernel
theorem dL_act_235 : decode cL_act 235 = .ok (.iconst 0, 1) := by decide +kernel
theorem dL_act_236 : decode cL_act 236 = .ok (.invokestatic 156, 3) := by decide +kernel
theorem dL_act_239 : decode cL_act 239 = .ok (.istore 6, 2) := by decide +kernel
theorem dL_act_241 : decode cL_act 241 = .ok (.iload_n 3, 1) := by decide +kernel
theorem dL_act_242 : decode cL_act 242 = .ok (.iload 4, 2) := by decide +kernel
theorem dL_act_244 : decode cL_act 244 = .ok (.iadd, 1) := by decide +kernel
theorem dL_act_245 : decode cL_act 245 = .ok (.iload 5, 2) := by decide +kernel
theorem dL_act_247 : decode cL_act 247 = .ok (.iadd, 1) := by decide +kernel
theorem dL_act_248 : decode cL_act 248 = .ok (.iload 6, 2) := by decide +kernel
theorem dL_act_250 : decode cL_act 250 = .ok (.iadd, 1) := by decide +kernel
theorem dL_act_251 : decode cL_act 251 = .ok (.aload_n 0, 1) := by decide +kernel
theorem dL_act_252 : decode cL_act 252 = .ok (.iconst 0, 1) := by decide +kernel
theorem dL_act_253 : decode cL_act 253 = .ok (.bipush 50, 2) := by decide +kernel
theorem dL_act_255 : decode cL_act 255 = .ok (.iload_n 2, 1) := by decide +kernel
theorem dL_act_256 : decode cL_act 256 = .ok (.sipush 256, 3) := by decide +kernel
theorem dL_act_259 : decode cL_act 259 = .ok (.idiv, 1) := by decide +kernel
theorem dL_act_260 : decode cL_act 260 = .ok (.bipush 8, 2) := by decide +kernel
theorem dL_act_262 : decode cL_act 262 = .ok (.irem, 1) := by decide +kernel
theorem dL_act_263 : decode cL_act 263 = .ok (.iadd, 1) := by decide +kernel
theorem dL_act_264 : decode cL_act 264 = .ok (.iconst 0, 1) := by decide +kernel
theorem dL_act_265 : decode cL_act 265 = .ok (.iconst 0, 1) := by decide +kernel
theorem dL_act_266 : decode cL_act 266 = .ok (.invokestatic 156, 3) := by decide +kernel
theorem dL_act_269 : decode cL_act 269 = .ok (.iadd, 1) := by decide +kernel
theorem dL_act_270 : decode cL_act 270 = .ok (.ireturn, 1) := by decide +kernel
theorem dL_act_271 : decode cL_act 271 = .ok (.aload_n 0, 1) := by decide +kernel
theorem dL_act_272 : decode cL_act 272 = .ok (.iload_n 2, 1) := by decide +kernel
theorem dL_act_273 : decode cL_act 273 = .ok (.bipush 26, 2) := by decide +kernel
theorem dL_act_275 : decode cL_act 275 = .ok (.irem, 1) := by decide +kernel
theorem dL_act_276 : decode cL_act 276 = .ok (.iload_n 2, 1) := by decide +kernel
theorem dL_act_277 : decode cL_act 277 = .ok (.bipush 32, 2) := by decide +kernel
theorem dL_act_279 : decode cL_act 279 = .ok (.idiv, 1) := by decide +kernel
theorem dL_act_280 : decode cL_act 280 = .ok (.iconst 3, 1) := by decide +kernel
theorem dL_act_281 : decode cL_act 281 = .ok (.irem, 1) := by decide +kernel
theorem dL_act_282 : decode cL_act 282 = .ok (.ifCond .le 7, 3) := by decide +kernel
theorem dL_act_285 : decode cL_act 285 = .ok (.iconst 1, 1) := by decide +kernel
theorem dL_act_286 : decode cL_act 286 = .ok (.goto 4, 3) := by decide +kernel
theorem dL_act_289 : decode cL_act 289 = .ok (.iconst 0, 1) := by decide +kernel
theorem dL_act_290 : decode cL_act 290 = .ok (.invokestatic 160, 3) := by decide +kernel
theorem dL_act_293 : decode cL_act 293 = .ok (.ireturn, 1) := by decide +kernel
set_option maxRecDepth 20000 in
theorem ggL_law_X5_init : GoodIn wsL_law wsX5_init := goodIn_r _ [8, 9, 10, 11, 12, 13, 14, 15, 16, 17, 18, 19, 20, 21, 22, 23, 24, 25, 26, 27, 28, 29, 30, 31, 32, 33, 34, 35, 36, 37, 38, 39, 40, 41, 42, 43, 44, 45, 46, 47, 48, 49, 50, 51, 52, 53, 54, 55, 56, 57, 58, 59, 60, 61, 62, 63, 64, 65, 66, 67, 68, 69, 70, 71, 72, 73, 74, 75, 76, 77, 78, 79, 80, 81, 82, 83, 84, 85, 548, 549, 550, 551, 552, 553, 554, 555, 542, 543, 544, 545, 546, 547, 556, 557, 558, 559, 560, 561, 562, 563, 564, 565, 566, 567, 568, 569, 570, 571, 572, 573, 574, 575, 576, 577] (by decide +kernel) (by decide +kernel)
set_option maxRecDepth 20000 in
theorem gL_law_X5_init : GoodIn wsL_law (wsX5_init) := ggL_law_X5_init
set_option maxRecDepth 20000 in
theorem ggL_law_L_cell : GoodIn wsL_law wsL_cell := goodIn_r _ [89, 90, 91] (by decide +kernel) (by decide +kernel)
set_option maxRecDepth 20000 in
theorem gL_law_L_cell : GoodIn wsL_law (va_wsS RL 194 yL_cell wsL_cell) := goodIn_app (goodIn_of _ (by decide +kernel)) ggL_law_L_cell
set_option maxRecDepth 20000 in
theorem ggL_law_L_refuses : GoodIn wsL_law wsL_refuses := goodIn_ca (goodIn_ca (goodIn_ca (goodIn_r _ [94, 95, 96, 97, 98, 99, 100, 88, 101, 102, 103, 104, 105, 106, 107, 108, 109, 110, 2, 111, 112, 113, 114, 115, 15, 116, 117, 118, 119, 14, 120, 121, 32, 122, 123, 124, 125, 126, 127, 128, 19, 129, 130, 131, 132, 133, 134, 135, 136, 137, 138, 139, 140, 141, 142, 143, 144, 145, 146, 147, 148, 149, 150, 151, 152, 153, 154, 155, 156, 157, 47, 158, 55, 159, 160, 161, 162, 163, 164, 165, 166, 167, 168, 169, 170, 171, 172, 173, 174, 175, 176, 18, 177, 39, 178, 179, 180, 181, 182, 183, 184, 185, 186, 187, 188, 189, 190, 191, 192, 193, 194, 195, 196, 197, 198, 42, 199, 200, 201, 202, 41, 203, 204, 205, 206, 207, 52, 208, 209, 210, 211, 57, 212, 213, 214, 215, 216, 217, 218, 219, 220, 221, 222, 223, 224, 225, 226, 227, 228, 229, 230, 231, 232, 233, 234, 235, 236, 237, 238, 239, 240, 241, 242, 243, 244, 245, 246, 247, 248, 249, 24, 250, 251, 252, 253, 254, 255, 256, 23, 257, 258, 259, 84, 260, 261, 262, 263, 264, 265, 266, 267, 43, 44, 45, 62, 63, 64, 65, 66, 268, 269, 270, 271, 272, 53, 54, 56, 72, 73, 273, 274, 275, 276, 48, 58, 59, 60, 61, 67, 68, 69, 70, 71, 74, 75, 76, 77, 78, 277, 278, 279, 280, 281, 282, 283, 284, 285, 286, 287, 288, 289, 290, 291, 292, 293, 294, 295, 296, 297, 298, 299, 300, 301, 302, 303, 304, 305, 306, 307, 308, 309, 310, 311, 312, 313, 314, 315, 316, 317, 318, 319, 320, 321, 322, 323, 324, 325, 326, 327, 328, 329, 330, 33, 331, 332, 333, 334, 335, 34, 336, 337, 338, 339, 340, 341, 342, 343, 344, 345, 346, 347, 348, 349, 350, 351, 352, 353, 354, 355, 356, 357, 358, 359, 360, 361, 362, 363, 364, 365, 366, 367, 368, 369, 370, 371, 372, 373, 374, 375, 376, 377, 378, 379, 380, 381, 382, 383, 384, 385, 386, 387, 388, 389, 390, 391, 392, 393, 394, 395, 396, 397, 398, 399, 400, 401, 402, 20, 403, 404, 405, 406, 407, 408, 409, 410, 411, 412, 413, 414, 415, 416, 417, 418, 419, 420, 421, 422, 423, 424, 425, 426, 427, 428, 429, 430, 431, 432, 25, 27, 433, 434, 435, 436, 437, 438, 439, 440, 441, 442, 443, 444, 445, 446, 447, 448, 449, 450, 451, 452, 453, 454, 455, 456, 457, 458, 459, 460, 461, 462, 463, 464, 465, 466, 467, 468, 469, 470, 471, 472, 473, 474, 475, 476, 477, 478, 479, 480, 481, 482, 483, 484, 485, 486, 487, 488, 489, 490, 491, 492, 493, 494, 495, 496, 497, 498, 499, 500, 501, 502, 503, 504, 505, 506, 507, 508, 542, 543, 544, 545, 546, 547, 548, 549, 550, 551, 552, 553, 554, 555, 556, 557, 558, 559, 560, 561, 562, 563, 564, 565, 566, 570, 571, 572, 573, 574, 575, 576, 577, 567, 568, 569] (by decide +kernel) (by decide +kernel)) (goodIn_sub (fun _ h => List.mem_append_left _ (List.mem_append_left _ (List.mem_append_right _ h))) (by decide +kernel))) (goodIn_sub (fun _ h => List.mem_append_left _ (List.mem_append_right _ h)) (by decide +kernel))) (goodIn_sub (fun _ h => List.mem_append_right _ h) (by decide +kernel))
set_option maxRecDepth 20000 in
theorem gL_law_L_refuses : GoodIn wsL_law (va_wsS RL 198 yL_refuses wsL_refuses) := goodIn_app (goodIn_of _ (by decide +kernel)) ggL_law_L_refuses
set_option maxRecDepth 20000 in
theorem ggL_law_L_act : GoodIn wsL_law wsL_act := goodIn_ca (goodIn_ca (goodIn_ca (goodIn_r _ [511, 99, 100, 88, 101, 102, 103, 104, 105, 106, 95, 107, 108, 109, 110, 2, 111, 112, 113, 114, 115, 15, 116, 117, 118, 119, 14, 120, 121, 32, 122, 123, 124, 125, 126, 127, 128, 19, 129, 130, 131, 132, 133, 134, 135, 136, 137, 138, 139, 140, 96, 141, 142, 143, 144, 145, 146, 147, 148, 149, 150, 151, 152, 153, 154, 155, 156, 157, 47, 158, 55, 159, 160, 161, 162, 163, 164, 165, 166, 167, 168, 169, 170, 171, 172, 173, 174, 175, 176, 18, 177, 39, 178, 179, 180, 181, 182, 183, 184, 185, 186, 187, 188, 189, 190, 191, 192, 193, 194, 195, 196, 197, 198, 42, 199, 200, 201, 202, 41, 203, 204, 205, 206, 207, 52, 208, 209, 210, 211, 57, 212, 213, 214, 215, 216, 217, 218, 219, 220, 221, 222, 223, 224, 225, 226, 227, 228, 229, 230, 231, 232, 233, 234, 235, 236, 237, 238, 239, 240, 241, 242, 243, 244, 245, 246, 247, 248, 249, 24, 250, 251, 252, 253, 254, 255, 256, 23, 257, 258, 259, 84, 260, 261, 262, 263, 264, 265, 266, 267, 43, 44, 45, 62, 63, 64, 65, 66, 268, 269, 270, 271, 272, 53, 54, 56, 72, 73, 273, 274, 275, 276, 48, 58, 59, 60, 61, 67, 68, 69, 70, 71, 74, 75, 76, 77, 78, 277, 278, 279, 280, 281, 282, 283, 284, 285, 286, 287, 288, 289, 290, 291, 292, 293, 294, 295, 296, 297, 298, 299, 300, 301, 302, 303, 304, 305, 306, 307, 308, 309, 310, 311, 312, 313, 314, 315, 316, 317, 318, 319, 320, 321, 322, 323, 324, 325, 326, 327, 328, 329, 330, 33, 331, 332, 333, 334, 335, 34, 336, 337, 338, 339, 340, 341, 342, 343, 344, 345, 346, 347, 348, 349, 350, 351, 352, 353, 354, 355, 356, 357, 358, 359, 360, 361, 362, 363, 364, 365, 366, 367, 368, 369, 370, 371, 372, 373, 374, 375, 376, 377, 378, 379, 380, 381, 382, 383, 384, 385, 386, 387, 388, 389, 390, 391, 392, 393, 394, 395, 396, 397, 398, 399, 400, 401, 402, 20, 403, 404, 405, 406, 407, 408, 409, 410, 411, 412, 413, 414, 415, 416, 417, 418, 419, 420, 421, 422, 423, 424, 425, 426, 427, 428, 429, 430, 431, 432, 25, 27, 433, 434, 435, 436, 437, 438, 439, 440, 441, 442, 512, 513, 514, 515, 443, 444, 445, 446, 447, 448, 449, 542, 543, 544, 545, 546, 547, 548, 549, 550, 551, 552, 553, 554, 555, 556, 557, 558, 559, 560, 561, 562, 563, 564, 565, 566, 570, 571, 572, 573, 574, 575, 576, 577, 567, 568, 569] (by decide +kernel) (by decide +kernel)) (goodIn_sub (fun _ h => List.mem_append_left _ (List.mem_append_left _ (List.mem_append_right _ h))) (by decide +kernel))) (goodIn_sub (fun _ h => List.mem_append_left _ (List.mem_append_right _ h)) (by decide +kernel))) (goodIn_sub (fun _ h => List.mem_append_right _ h) (by decide +kernel))
set_option maxRecDepth 20000 in
theorem gL_law_L_act : GoodIn wsL_law (va_wsS RL 202 yL_act wsL_act) := goodIn_app (goodIn_of _ (by decide +kernel)) ggL_law_L_act
set_option maxRecDepth 20000 in
theorem ggL_law_L_alike : GoodIn wsL_law wsL_alike := goodIn_ca (goodIn_ca (goodIn_ca (goodIn_r _ [518, 519, 520, 521, 2, 522, 15, 523, 318, 319, 14, 320, 316, 321, 322, 121, 32, 315, 323, 324, 325, 326, 327, 328, 329, 330, 33, 331, 332, 333, 334, 335, 34, 336, 337, 338, 339, 340, 341, 342, 343, 524, 525, 526, 527, 238, 528, 529, 530, 531, 532, 20, 19, 131, 311, 312, 313, 314, 317, 403, 261, 262, 18, 263, 39, 264, 265, 266, 267, 41, 42, 43, 44, 45, 62, 63, 64, 65, 66, 268, 269, 270, 47, 271, 52, 272, 53, 54, 55, 56, 57, 72, 73, 344, 345, 346, 347, 348, 349, 350, 351, 352, 353, 199, 200, 201, 202, 203, 204, 205, 206, 207, 208, 209, 210, 211, 354, 355, 356, 357, 358, 359, 360, 361, 362, 363, 364, 365, 366, 367, 368, 369, 228, 229, 230, 370, 371, 372, 373, 374, 375, 376, 377, 378, 379, 533, 534, 535, 536, 185, 187, 99, 100, 88, 101, 102, 103, 104, 105, 106, 95, 107, 108, 109, 110, 111, 112, 113, 114, 115, 116, 117, 118, 119, 120, 122, 123, 124, 125, 126, 127, 128, 129, 130, 132, 133, 134, 135, 136, 137, 138, 139, 140, 96, 141, 142, 143, 144, 145, 146, 147, 148, 149, 150, 151, 152, 153, 154, 155, 156, 157, 158, 159, 160, 161, 162, 163, 164, 165, 166, 167, 168, 169, 170, 171, 172, 173, 174, 175, 176, 177, 178, 179, 180, 181, 182, 183, 184, 186, 188, 189, 190, 191, 192, 193, 194, 195, 196, 197, 198, 212, 213, 214, 215, 216, 217, 218, 219, 220, 221, 222, 223, 224, 225, 226, 227, 231, 232, 233, 234, 235, 236, 237, 239, 240, 241, 242, 243, 244, 245, 246, 247, 248, 249, 24, 250, 251, 252, 253, 254, 255, 256, 23, 257, 258, 259, 84, 260, 273, 274, 275, 276, 48, 58, 59, 60, 61, 67, 68, 69, 70, 71, 74, 75, 76, 77, 78, 277, 278, 279, 280, 281, 282, 283, 284, 285, 286, 287, 288, 289, 290, 291, 292, 293, 294, 295, 296, 297, 298, 299, 300, 301, 302, 303, 304, 305, 306, 307, 308, 309, 310, 380, 381, 382, 383, 384, 385, 386, 387, 388, 389, 390, 391, 392, 393, 394, 395, 396, 397, 398, 399, 400, 401, 402, 404, 405, 406, 407, 408, 409, 410, 411, 412, 413, 414, 415, 416, 417, 418, 419, 420, 421, 422, 423, 424, 425, 426, 427, 428, 429, 430, 431, 432, 25, 27, 433, 434, 435, 436, 437, 438, 439, 440, 441, 442, 542, 543, 544, 545, 546, 547, 548, 549, 550, 551, 552, 553, 554, 555, 556, 557, 558, 559, 560, 561, 562, 563, 564, 565, 566, 570, 571, 572, 573, 574, 575, 576, 577, 567, 568, 569] (by decide +kernel) (by decide +kernel)) (goodIn_sub (fun _ h => List.mem_append_left _ (List.mem_append_left _ (List.mem_append_right _ h))) (by decide +kernel))) (goodIn_sub (fun _ h => List.mem_append_left _ (List.mem_append_right _ h)) (by decide +kernel))) (goodIn_sub (fun _ h => List.mem_append_right _ h) (by decide +kernel))
set_option maxRecDepth 20000 in
theorem gL_law_L_alike : GoodIn wsL_law (va_wsS RL 205 yL_alike wsL_alike) := goodIn_app (goodIn_of _ (by decide +kernel)) ggL_law_L_alike
set_option maxRecDepth 20000 in
theorem ggL_law_L_holds : GoodIn wsL_law wsL_holds := goodIn_ca (goodIn_ca (goodIn_ca (goodIn_r _ [539, 540, 541, 107, 99, 100, 88, 101, 102, 103, 104, 105, 106, 95, 108, 109, 110, 2, 111, 112, 113, 114, 115, 15, 116, 117, 118, 119, 14, 120, 121, 32, 122, 123, 124, 125, 126, 127, 128, 19, 129, 130, 131, 132, 133, 134, 135, 136, 137, 138, 139, 140, 96, 141, 142, 143, 144, 145, 146, 147, 148, 149, 150, 151, 152, 153, 154, 155, 156, 157, 47, 158, 55, 159, 160, 161, 162, 163, 164, 165, 166, 167, 168, 169, 170, 171, 172, 173, 174, 175, 176, 18, 177, 39, 178, 179, 180, 181, 182, 183, 184, 185, 186, 187, 188, 189, 190, 191, 192, 193, 194, 195, 196, 197, 198, 42, 199, 200, 201, 202, 41, 203, 204, 205, 206, 207, 52, 208, 209, 210, 211, 57, 212, 213, 214, 215, 216, 217, 218, 219, 220, 221, 222, 223, 224, 225, 226, 227, 228, 229, 230, 231, 232, 233, 234, 235, 236, 237, 238, 239, 240, 241, 242, 243, 244, 245, 246, 247, 248, 249, 24, 250, 251, 252, 253, 254, 255, 256, 23, 257, 258, 259, 84, 260, 261, 262, 263, 264, 265, 266, 267, 43, 44, 45, 62, 63, 64, 65, 66, 268, 269, 270, 271, 272, 53, 54, 56, 72, 73, 273, 274, 275, 276, 48, 58, 59, 60, 61, 67, 68, 69, 70, 71, 74, 75, 76, 77, 78, 277, 278, 279, 280, 281, 282, 283, 284, 285, 286, 287, 288, 289, 290, 291, 292, 293, 294, 295, 296, 297, 298, 299, 300, 301, 302, 303, 304, 305, 306, 307, 308, 309, 310, 311, 312, 313, 314, 315, 316, 317, 318, 319, 320, 321, 322, 323, 324, 325, 326, 327, 328, 329, 330, 33, 331, 332, 333, 334, 335, 34, 336, 337, 338, 339, 340, 341, 342, 343, 344, 345, 346, 347, 348, 349, 350, 351, 352, 353, 354, 355, 356, 357, 358, 359, 360, 361, 362, 363, 364, 365, 366, 367, 368, 369, 370, 371, 372, 373, 374, 375, 376, 377, 378, 379, 380, 381, 382, 383, 384, 385, 386, 387, 388, 389, 390, 391, 392, 393, 394, 395, 396, 397, 398, 399, 400, 401, 402, 20, 403, 404, 405, 406, 407, 408, 409, 410, 411, 412, 413, 414, 415, 416, 417, 418, 419, 420, 421, 422, 423, 424, 425, 426, 427, 428, 429, 430, 431, 432, 25, 27, 433, 434, 435, 436, 437, 438, 439, 440, 441, 442, 443, 444, 445, 446, 447, 448, 449, 529, 530, 531, 532, 524, 525, 526, 527, 528, 523, 542, 543, 544, 545, 546, 547, 548, 549, 550, 551, 552, 553, 554, 555, 556, 557, 558, 559, 560, 561, 562, 563, 564, 565, 566, 570, 571, 572, 573, 574, 575, 576, 577, 567, 568, 569] (by decide +kernel) (by decide +kernel)) (goodIn_sub (fun _ h => List.mem_append_left _ (List.mem_append_left _ (List.mem_append_right _ h))) (by decide +kernel))) (goodIn_sub (fun _ h => List.mem_append_left _ (List.mem_append_right _ h)) (by decide +kernel))) (goodIn_sub (fun _ h => List.mem_append_right _ h) (by decide +kernel))
set_option maxRecDepth 20000 in
theorem gL_law_L_holds : GoodIn wsL_law (va_wsS RL 209 yL_holds wsL_holds) := goodIn_app (goodIn_of _ (by decide +kernel)) ggL_law_L_holds
set_option maxRecDepth 20000 in
theorem ggL_law_L_trySimulate : GoodIn wsL_law wsL_trySimulate := goodIn_ca (goodIn_r _ [452, 105, 95, 453, 454, 455, 2, 456, 112, 113, 20, 19, 457, 458, 130, 459, 367, 360, 368, 403, 261, 262, 18, 263, 39, 264, 265, 266, 267, 41, 42, 43, 44, 45, 62, 63, 64, 65, 66, 268, 269, 270, 47, 271, 52, 272, 53, 54, 55, 56, 57, 72, 73, 425, 351, 352, 353, 199, 200, 201, 202, 203, 204, 205, 206, 207, 208, 209, 210, 211, 354, 355, 356, 357, 358, 359, 361, 362, 363, 364, 365, 366, 369, 228, 229, 230, 370, 371, 372, 373, 374, 375, 376, 377, 378, 379, 460, 461, 462, 463, 464, 542, 543, 544, 545, 546, 547, 556, 557, 558, 559, 560, 561, 562, 563, 564, 565, 566, 570, 571, 572, 573, 574, 575, 576, 577] (by decide +kernel) (by decide +kernel)) (goodIn_sub (fun _ h => List.mem_append_left _ (List.mem_append_left _ (List.mem_append_right _ h))) (by decide +kernel))
set_option maxRecDepth 20000 in
theorem gL_law_L_trySimulate : GoodIn wsL_law (va_wsS RL 164 yL_trySimulate wsL_trySimulate) := goodIn_app (goodIn_of _ (by decide +kernel)) ggL_law_L_trySimulate
set_option maxRecDepth 20000 in
theorem ggL_law_L_tryScript : GoodIn wsL_law wsL_tryScript := goodIn_ca (goodIn_r _ [467, 105, 95, 468, 469, 470, 2, 471, 112, 113, 20, 19, 472, 238, 473, 474, 475, 403, 261, 262, 18, 263, 39, 264, 265, 266, 267, 41, 42, 43, 44, 45, 62, 63, 64, 65, 66, 268, 269, 270, 47, 271, 52, 272, 53, 54, 55, 56, 57, 72, 73, 476, 477, 478, 479, 480, 481, 482, 483, 484, 485, 486, 193, 194, 487, 351, 352, 353, 199, 200, 201, 202, 203, 204, 205, 206, 207, 208, 209, 210, 211, 354, 355, 356, 357, 358, 359, 360, 361, 362, 363, 364, 365, 366, 367, 368, 369, 228, 229, 230, 370, 371, 372, 373, 374, 375, 376, 377, 378, 379, 488, 489, 490, 153, 154, 251, 252, 253, 491, 274, 275, 276, 48, 58, 59, 60, 61, 67, 68, 69, 70, 71, 74, 75, 76, 77, 78, 492, 493, 494, 285, 286, 287, 288, 495, 290, 291, 292, 496, 497, 498, 499, 500, 501, 502, 503, 175, 176, 177, 504, 301, 302, 303, 505, 506, 507, 508, 196, 197, 198, 542, 543, 544, 545, 546, 547, 556, 557, 558, 559, 560, 561, 562, 563, 564, 565, 566, 570, 571, 572, 573, 574, 575, 576, 577] (by decide +kernel) (by decide +kernel)) (goodIn_sub (fun _ h => List.mem_append_left _ (List.mem_append_left _ (List.mem_append_right _ h))) (by decide +kernel))
set_option maxRecDepth 20000 in
theorem gL_law_L_tryScript : GoodIn wsL_law (va_wsS RL 168 yL_tryScript wsL_tryScript) := goodIn_app (goodIn_of _ (by decide +kernel)) ggL_law_L_tryScript
theorem dL_law_0 : decode cL_law 0 = .ok (.new 8, 3) := by decide +kernel
theorem dL_law_3 : decode cL_law 3 = .ok (.dup, 1) := by decide +kernel
theorem dL_law_4 : decode cL_law 4 = .ok (.invokespecial 193, 3) := by decide +kernel
theorem dL_law_7 : decode cL_law 7 = .ok (.astore_n 1, 1) := by decide +kernel
theorem dL_law_8 : decode cL_law 8 = .ok (.new 8, 3) := by decide +kernel
theorem dL_law_11 : decode cL_law 11 = .ok (.dup, 1) := by decide +kernel
theorem dL_law_12 : decode cL_law 12 = .ok (.invokespecial 193, 3) := by decide +kernel
theorem dL_law_15 : decode cL_law 15 = .ok (.astore_n 2, 1) := by decide +kernel
theorem dL_law_16 : decode cL_law 16 = .ok (.iconst 1, 1) := by decide +kernel
theorem dL_law_17 : decode cL_law 17 = .ok (.istore_n 3, 1) := by decide +kernel
theorem dL_law_18 : decode cL_law 18 = .ok (.iconst 0, 1) := by decide +kernel
theorem dL_law_19 : decode cL_law 19 = .ok (.istore 4, 2) := by decide +kernel
theorem dL_law_21 : decode cL_law 21 = .ok (.iload 4, 2) := by decide +kernel
theorem dL_law_23 : decode cL_law 23 = .ok (.bipush 28, 2) := by decide +kernel
theorem dL_law_25 : decode cL_law 25 = .ok (.if_icmp .ge 219, 3) := by decide +kernel
theorem dL_law_28 : decode cL_law 28 = .ok (.iload_n 3, 1) := by decide +kernel
theorem dL_law_29 : decode cL_law 29 = .ok (.ifCond .eq 215, 3) := by decide +kernel
theorem dL_law_32 : decode cL_law 32 = .ok (.aload_n 0, 1) := by decide +kernel
theorem dL_law_33 : decode cL_law 33 = .ok (.iconst 2, 1) := by decide +kernel
theorem dL_law_34 : decode cL_law 34 = .ok (.iload 4, 2) := by decide +kernel
theorem dL_law_36 : decode cL_law 36 = .ok (.imul, 1) := by decide +kernel
theorem dL_law_37 : decode cL_law 37 = .ok (.invokestatic 194, 3) := by decide +kernel
theorem dL_law_40 : decode cL_law 40 = .ok (.istore 5, 2) := by decide +kernel
theorem dL_law_42 : decode cL_law 42 = .ok (.aload_n 0, 1) := by decide +kernel
theorem dL_law_43 : decode cL_law 43 = .ok (.iconst 2, 1) := by decide +kernel
theorem dL_law_44 : decode cL_law 44 = .ok (.iload 4, 2) := by decide +kernel
theorem dL_law_46 : decode cL_law 46 = .ok (.imul, 1) := by decide +kernel
theorem dL_law_47 : decode cL_law 47 = .ok (.iconst 1, 1) := by decide +kernel
theorem dL_law_48 : decode cL_law 48 = .ok (.iadd, 1) := by decide +kernel
theorem dL_law_49 : decode cL_law 49 = .ok (.invokestatic 194, 3) := by decide +kernel
theorem dL_law_52 : decode cL_law 52 = .ok (.istore 6, 2) := by decide +kernel
theorem dL_law_54 : decode cL_law 54 = .ok (.aload_n 1, 1) := by decide +kernel
theorem dL_law_55 : decode cL_law 55 = .ok (.iload 5, 2) := by decide +kernel
theorem dL_law_57 : decode cL_law 57 = .ok (.invokestatic 198, 3) := by decide +kernel
theorem dL_law_60 : decode cL_law 60 = .ok (.ifCond .eq 45, 3) := by decide +kernel
theorem dL_law_63 : decode cL_law 63 = .ok (.aload_n 1, 1) := by decide +kernel
theorem dL_law_64 : decode cL_law 64 = .ok (.iload 5, 2) := by decide +kernel
theorem dL_law_66 : decode cL_law 66 = .ok (.iload 6, 2) := by decide +kernel
theorem dL_law_68 : decode cL_law 68 = .ok (.invokestatic 202, 3) := by decide +kernel
theorem dL_law_71 : decode cL_law 71 = .ok (.aload_n 2, 1) := by decide +kernel
theorem dL_law_72 : decode cL_law 72 = .ok (.iload 5, 2) := by decide +kernel
theorem dL_law_74 : decode cL_law 74 = .ok (.iload 6, 2) := by decide +kernel
theorem dL_law_76 : decode cL_law 76 = .ok (.invokestatic 202, 3) := by decide +kernel
theorem dL_law_79 : decode cL_law 79 = .ok (.if_icmp .ne 26, 3) := by decide +kernel
theorem dL_law_82 : decode cL_law 82 = .ok (.aload_n 1, 1) := by decide +kernel
theorem dL_law_83 : decode cL_law 83 = .ok (.iload 6, 2) := by decide +kernel
theorem dL_law_85 : decode cL_law 85 = .ok (.invokestatic 198, 3) := by decide +kernel
theorem dL_law_88 : decode cL_law 88 = .ok (.ifCond .eq 17, 3) := by decide +kernel
theorem dL_law_91 : decode cL_law 91 = .ok (.aload_n 1, 1) := by decide +kernel
theorem dL_law_92 : decode cL_law 92 = .ok (.aload_n 2, 1) := by decide +kernel
theorem dL_law_93 : decode cL_law 93 = .ok (.iload 5, 2) := by decide +kernel
theorem dL_law_95 : decode cL_law 95 = .ok (.invokestatic 205, 3) := by decide +kernel
theorem dL_law_98 : decode cL_law 98 = .ok (.ifCond .eq 7, 3) := by decide +kernel
theorem dL_law_101 : decode cL_law 101 = .ok (.iconst 1, 1) := by decide +kernel
theorem dL_law_102 : decode cL_law 102 = .ok (.goto 4, 3) := by decide +kernel
theorem dL_law_105 : decode cL_law 105 = .ok (.iconst 0, 1) := by decide +kernel
theorem dL_law_106 : decode cL_law 106 = .ok (.istore_n 3, 1) := by decide +kernel
theorem dL_law_107 : decode cL_law 107 = .ok (.iload 4, 2) := by decide +kernel
theorem dL_law_109 : decode cL_law 109 = .ok (.iconst 3, 1) := by decide +kernel
theorem dL_law_110 : decode cL_law 110 = .ok (.irem, 1) := by decide +kernel
theorem dL_law_111 : decode cL_law 111 = .ok (.iconst 2, 1) := by decide +kernel
theorem dL_law_112 : decode cL_law 112 = .ok (.if_icmp .ne 126, 3) := by decide +kernel
theorem dL_law_115 : decode cL_law 115 = .ok (.iload_n 3, 1) := by decide +kernel
theorem dL_law_116 : decode cL_law 116 = .ok (.ifCond .eq 122, 3) := by decide +kernel
theorem dL_law_119 : decode cL_law 119 = .ok (.aload_n 1, 1) := by decide +kernel
theorem dL_law_120 : decode cL_law 120 = .ok (.iload 6, 2) := by decide +kernel
theorem dL_law_122 : decode cL_law 122 = .ok (.invokestatic 209, 3) := by decide +kernel
theorem dL_law_125 : decode cL_law 125 = .ok (.ifCond .eq 16, 3) := by decide +kernel
theorem dL_law_128 : decode cL_law 128 = .ok (.aload_n 2, 1) := by decide +kernel
theorem dL_law_129 : decode cL_law 129 = .ok (.iload 6, 2) := by decide +kernel
theorem dL_law_131 : decode cL_law 131 = .ok (.invokestatic 209, 3) := by decide +kernel
theorem dL_law_134 : decode cL_law 134 = .ok (.ifCond .eq 7, 3) := by decide +kernel
theorem dL_law_137 : decode cL_law 137 = .ok (.iconst 1, 1) := by decide +kernel
theorem dL_law_138 : decode cL_law 138 = .ok (.goto 4, 3) := by decide +kernel
theorem dL_law_141 : decode cL_law 141 = .ok (.iconst 0, 1) := by decide +kernel
theorem dL_law_142 : decode cL_law 142 = .ok (.istore_n 3, 1) := by decide +kernel
theorem dL_law_143 : decode cL_law 143 = .ok (.iload 5, 2) := by decide +kernel
theorem dL_law_145 : decode cL_law 145 = .ok (.i2l, 1) := by decide +kernel
theorem dL_law_146 : decode cL_law 146 = .ok (.ldc2_w 211, 3) := by decide +kernel
theorem dL_law_149 : decode cL_law 149 = .ok (.lmul, 1) := by decide +kernel
theorem dL_law_150 : decode cL_law 150 = .ok (.ldc2_w 213, 3) := by decide +kernel
theorem dL_law_153 : decode cL_law 153 = .ok (.lsub, 1) := by decide +kernel
theorem dL_law_154 : decode cL_law 154 = .ok (.lstore 7, 2) := by decide +kernel
theorem dL_law_156 : decode cL_law 156 = .ok (.aload_n 1, 1) := by decide +kernel
theorem dL_law_157 : decode cL_law 157 = .ok (.lload 7, 2) := by decide +kernel
theorem dL_law_159 : decode cL_law 159 = .ok (.iconst 1, 1) := by decide +kernel
theorem dL_law_160 : decode cL_law 160 = .ok (.iload 6, 2) := by decide +kernel
theorem dL_law_162 : decode cL_law 162 = .ok (.sipush 300, 3) := by decide +kernel
theorem dL_law_165 : decode cL_law 165 = .ok (.irem, 1) := by decide +kernel
theorem dL_law_166 : decode cL_law 166 = .ok (.iadd, 1) := by decide +kernel
theorem dL_law_167 : decode cL_law 167 = .ok (.invokestatic 164, 3) := by decide +kernel
theorem dL_law_170 : decode cL_law 170 = .ok (.istore 9, 2) := by decide +kernel
theorem dL_law_172 : decode cL_law 172 = .ok (.iload_n 3, 1) := by decide +kernel
theorem dL_law_173 : decode cL_law 173 = .ok (.ifCond .eq 63, 3) := by decide +kernel
theorem dL_law_176 : decode cL_law 176 = .ok (.iload 9, 2) := by decide +kernel
theorem dL_law_178 : decode cL_law 178 = .ok (.aload_n 2, 1) := by decide +kernel
theorem dL_law_179 : decode cL_law 179 = .ok (.lload 7, 2) := by decide +kernel
theorem dL_law_181 : decode cL_law 181 = .ok (.iconst 1, 1) := by decide +kernel
theorem dL_law_182 : decode cL_law 182 = .ok (.iload 6, 2) := by decide +kernel
theorem dL_law_184 : decode cL_law 184 = .ok (.sipush 300, 3) := by decide +kernel
theorem dL_law_187 : decode cL_law 187 = .ok (.irem, 1) := by decide +kernel
theorem dL_law_188 : decode cL_law 188 = .ok (.iadd, 1) := by decide +kernel
theorem dL_law_189 : decode cL_law 189 = .ok (.invokestatic 164, 3) := by decide +kernel
theorem dL_law_192 : decode cL_law 192 = .ok (.if_icmp .ne 44, 3) := by decide +kernel
theorem dL_law_195 : decode cL_law 195 = .ok (.aload_n 1, 1) := by decide +kernel
theorem dL_law_196 : decode cL_law 196 = .ok (.iconst 2, 1) := by decide +kernel
theorem dL_law_197 : decode cL_law 197 = .ok (.iload 6, 2) := by decide +kernel
theorem dL_law_199 : decode cL_law 199 = .ok (.i2l, 1) := by decide +kernel
theorem dL_law_200 : decode cL_law 200 = .ok (.ldc2_w 215, 3) := by decide +kernel
theorem dL_law_203 : decode cL_law 203 = .ok (.lmul, 1) := by decide +kernel
theorem dL_law_204 : decode cL_law 204 = .ok (.invokestatic 168, 3) := by decide +kernel
theorem dL_law_207 : decode cL_law 207 = .ok (.aload_n 2, 1) := by decide +kernel
theorem dL_law_208 : decode cL_law 208 = .ok (.iconst 2, 1) := by decide +kernel
theorem dL_law_209 : decode cL_law 209 = .ok (.iload 6, 2) := by decide +kernel
theorem dL_law_211 : decode cL_law 211 = .ok (.i2l, 1) := by decide +kernel
theorem dL_law_212 : decode cL_law 212 = .ok (.ldc2_w 215, 3) := by decide +kernel
theorem dL_law_215 : decode cL_law 215 = .ok (.lmul, 1) := by decide +kernel
theorem dL_law_216 : decode cL_law 216 = .ok (.invokestatic 168, 3) := by decide +kernel
theorem dL_law_219 : decode cL_law 219 = .ok (.if_icmp .ne 17, 3) := by decide +kernel
theorem dL_law_222 : decode cL_law 222 = .ok (.aload_n 1, 1) := by decide +kernel
theorem dL_law_223 : decode cL_law 223 = .ok (.aload_n 2, 1) := by decide +kernel
theorem dL_law_224 : decode cL_law 224 = .ok (.iload 6, 2) := by decide +kernel
theorem dL_law_226 : decode cL_law 226 = .ok (.invokestatic 205, 3) := by decide +kernel
theorem dL_law_229 : decode cL_law 229 = .ok (.ifCond .eq 7, 3) := by decide +kernel
theorem dL_law_232 : decode cL_law 232 = .ok (.iconst 1, 1) := by decide +kernel
theorem dL_law_233 : decode cL_law 233 = .ok (.goto 4, 3) := by decide +kernel
theorem dL_law_236 : decode cL_law 236 = .ok (.iconst 0, 1) := by decide +kernel
theorem dL_law_237 : decode cL_law 237 = .ok (.istore_n 3, 1) := by decide +kernel
theorem dL_law_238 : decode cL_law 238 = .ok (.iinc 4 1, 3) := by decide +kernel
theorem dL_law_241 : decode cL_law 241 = .ok (.goto (-220), 3) := by decide +kernel
theorem dL_law_244 : decode cL_law 244 = .ok (.iload_n 3, 1) := by decide +kernel
theorem dL_law_245 : decode cL_law 245 = .ok (.ireturn, 1) := by decide +kernel
abbrev vwCl : List vw_C := [(RX0, TX0, 8), (RX1, TX1, 3), (RX3, TX3, 11), (RX4, TX4, 8), (RX5, TX5, 6)]
