set_option maxRecDepth 20000 in
theorem ggL_refuses_L_call : GoodIn wsL_refuses wsL_call := goodIn_ca (goodIn_ca (goodIn_ca (goodIn_r _ [8, 9, 10, 7, 11, 12, 13, 1, 14, 15, 16, 17, 18, 19, 20, 21, 22, 23, 24, 25, 26, 27, 28, 29, 30, 31, 32, 33, 34, 35, 36, 37, 38, 39, 40, 41, 42, 43, 44, 45, 46, 47, 48, 49, 50, 51, 52, 2, 53, 54, 55, 56, 57, 58, 59, 60, 61, 62, 63, 64, 65, 66, 67, 68, 69, 70, 71, 72, 73, 74, 75, 76, 77, 78, 79, 80, 81, 82, 83, 84, 85, 86, 87, 88, 89, 90, 91, 92, 93, 94, 95, 96, 97, 98, 99, 100, 101, 102, 103, 104, 105, 106, 107, 108, 109, 110, 111, 112, 113, 114, 115, 116, 117, 118, 119, 120, 121, 122, 123, 124, 125, 126, 127, 128, 129, 130, 131, 132, 133, 134, 135, 136, 137, 138, 139, 140, 141, 142, 143, 144, 145, 146, 147, 148, 149, 150, 151, 152, 153, 154, 155, 156, 157, 158, 159, 160, 161, 162, 163, 164, 165, 166, 167, 168, 169, 170, 171, 172, 173, 174, 175, 176, 177, 178, 179, 180, 181, 182, 183, 184, 185, 186, 187, 188, 189, 190, 191, 192, 193, 194, 195, 196, 197, 198, 199, 200, 201, 202, 203, 204, 205, 206, 207, 208, 209, 210, 211, 212, 213, 214, 215, 216, 217, 218, 219, 220, 221, 222, 223, 224, 225, 226, 227, 228, 229, 230, 231, 232, 233, 234, 235, 236, 237, 238, 239, 240, 241, 242, 243, 244, 245, 246, 247, 248, 249, 250, 251, 252, 253, 254, 255, 256, 257, 258, 259, 260, 261, 262, 263, 264, 265, 266, 267, 268, 269, 270, 271, 272, 273, 274, 275, 276, 277, 278, 279, 280, 281, 282, 283, 284, 285, 286, 287, 288, 289, 290, 291, 292, 293, 294, 295, 296, 297, 298, 299, 300, 301, 302, 303, 304, 305, 306, 307, 308, 309, 310, 311, 312, 313, 314, 315, 316, 317, 318, 319, 320, 321, 322, 323, 324, 325, 326, 327, 328, 329, 330, 331, 332, 333, 334, 335, 336, 337, 338, 339, 340, 341, 342, 343, 344, 345, 346, 347, 348, 349, 350, 351, 352, 353, 354, 355, 356, 357, 358, 359, 360, 361, 362, 363, 364, 365, 366, 367, 368, 369, 370, 371, 372, 373, 374, 375, 376, 377, 378, 379, 380, 381, 382, 383, 384, 385, 386, 387, 388, 389, 390, 391, 392, 393, 394, 395, 396, 397, 398, 465, 466, 467, 468, 469, 470, 471, 472, 473, 474, 475, 476, 477, 478, 479, 480, 481, 482, 483, 484, 485, 486, 487, 488, 489, 490, 491, 492, 493, 494, 495, 496, 497, 498, 499, 500] (by decide +kernel) (by decide +kernel)) (goodIn_sub (fun _ h => List.mem_cons_of_mem _ (List.mem_append_left _ (List.mem_append_left _ (List.mem_append_right _ h)))) (by decide +kernel))) (goodIn_sub (fun _ h => List.mem_cons_of_mem _ (List.mem_append_left _ (List.mem_append_right _ h))) (by decide +kernel))) (goodIn_sub (fun _ h => List.mem_cons_of_mem _ (List.mem_append_right _ h)) (by decide +kernel))
set_option maxRecDepth 20000 in
theorem gL_refuses_L_call : GoodIn wsL_refuses (va_wsS RL 156 yL_call wsL_call) := goodIn_app (goodIn_of _ (by decide +kernel)) ggL_refuses_L_call
set_option maxRecDepth 20000 in
theorem ggL_refuses_L_tryGo : GoodIn wsL_refuses wsL_tryGo := goodIn_ca (goodIn_r _ [401, 52, 2, 402, 403, 404, 18, 405, 170, 40, 105, 106, 107, 62, 63, 108, 109, 110, 175, 176, 177, 178, 179, 180, 181, 182, 183, 184, 185, 91, 186, 93, 187, 188, 189, 190, 120, 115, 191, 192, 193, 194, 195, 196, 197, 198, 199, 200, 201, 70, 202, 126, 203, 204, 205, 72, 206, 131, 207, 208, 379, 304, 305, 306, 116, 117, 118, 119, 121, 122, 123, 124, 125, 127, 128, 129, 130, 307, 308, 309, 310, 311, 312, 313, 314, 315, 316, 317, 318, 319, 320, 321, 322, 148, 149, 150, 323, 324, 325, 326, 327, 328, 329, 330, 331, 332, 465, 466, 467, 468, 469, 470, 498, 499, 500, 479, 480, 481, 482, 483, 484, 485, 486, 487, 488, 489, 490, 491, 492, 493, 494, 495, 496, 497] (by decide +kernel) (by decide +kernel)) (goodIn_sub (fun _ h => List.mem_cons_of_mem _ (List.mem_append_right _ h)) (by decide +kernel))
set_option maxRecDepth 20000 in
theorem gL_refuses_L_tryGo : GoodIn wsL_refuses (va_wsS RL 160 yL_tryGo wsL_tryGo) := goodIn_app (goodIn_of _ (by decide +kernel)) ggL_refuses_L_tryGo
set_option maxRecDepth 20000 in
theorem ggL_refuses_L_trySimulate : GoodIn wsL_refuses wsL_trySimulate := goodIn_ca (goodIn_r _ [408, 12, 1, 409, 410, 411, 18, 412, 20, 21, 356, 40, 413, 414, 42, 415, 320, 313, 321, 357, 184, 185, 91, 186, 93, 187, 188, 189, 190, 120, 115, 191, 192, 193, 194, 195, 196, 197, 198, 199, 200, 201, 70, 202, 126, 203, 204, 205, 72, 206, 131, 207, 208, 379, 304, 305, 306, 116, 117, 118, 119, 121, 122, 123, 124, 125, 127, 128, 129, 130, 307, 308, 309, 310, 311, 312, 314, 315, 316, 317, 318, 319, 322, 148, 149, 150, 323, 324, 325, 326, 327, 328, 329, 330, 331, 332, 416, 417, 418, 419, 420, 465, 466, 467, 468, 469, 470, 479, 480, 481, 482, 483, 484, 485, 486, 487, 488, 489, 490, 491, 492, 493, 494, 495, 496, 497] (by decide +kernel) (by decide +kernel)) (goodIn_sub (fun _ h => List.mem_cons_of_mem _ (List.mem_append_left _ (List.mem_append_left _ (List.mem_append_right _ h)))) (by decide +kernel))
set_option maxRecDepth 20000 in
theorem gL_refuses_L_trySimulate : GoodIn wsL_refuses (va_wsS RL 164 yL_trySimulate wsL_trySimulate) := goodIn_app (goodIn_of _ (by decide +kernel)) ggL_refuses_L_trySimulate
set_option maxRecDepth 20000 in
theorem ggL_refuses_L_tryScript : GoodIn wsL_refuses wsL_tryScript := goodIn_ca (goodIn_r _ [423, 12, 1, 424, 425, 426, 18, 427, 20, 21, 356, 40, 428, 158, 429, 430, 431, 357, 184, 185, 91, 186, 93, 187, 188, 189, 190, 120, 115, 191, 192, 193, 194, 195, 196, 197, 198, 199, 200, 201, 70, 202, 126, 203, 204, 205, 72, 206, 131, 207, 208, 432, 433, 434, 435, 436, 437, 438, 439, 440, 441, 442, 109, 110, 443, 304, 305, 306, 116, 117, 118, 119, 121, 122, 123, 124, 125, 127, 128, 129, 130, 307, 308, 309, 310, 311, 312, 313, 314, 315, 316, 317, 318, 319, 320, 321, 322, 148, 149, 150, 323, 324, 325, 326, 327, 328, 329, 330, 331, 332, 444, 445, 446, 65, 66, 172, 173, 174, 447, 210, 211, 212, 213, 214, 215, 216, 217, 218, 219, 220, 221, 222, 223, 224, 225, 226, 227, 448, 449, 450, 236, 237, 238, 239, 451, 241, 242, 243, 452, 453, 454, 455, 456, 457, 458, 459, 89, 90, 92, 460, 252, 253, 254, 461, 462, 463, 464, 112, 113, 114, 465, 466, 467, 468, 469, 470, 479, 480, 481, 482, 483, 484, 485, 486, 487, 488, 489, 490, 491, 492, 493, 494, 495, 496, 497] (by decide +kernel) (by decide +kernel)) (goodIn_sub (fun _ h => List.mem_cons_of_mem _ (List.mem_append_left _ (List.mem_append_left _ (List.mem_append_right _ h)))) (by decide +kernel))
set_option maxRecDepth 20000 in
theorem gL_refuses_L_tryScript : GoodIn wsL_refuses (va_wsS RL 168 yL_tryScript wsL_tryScript) := goodIn_app (goodIn_of _ (by decide +kernel)) ggL_refuses_L_tryScript
theorem dL_refuses_0 : decode cL_refuses 0 = .ok (.iconst 1, 1) := by decide +kernel
theorem dL_refuses_1 : decode cL_refuses 1 = .ok (.aload_n 0, 1) := by decide +kernel
theorem dL_refuses_2 : decode cL_refuses 2 = .ok (.iconst 1, 1) := by decide +kernel
theorem dL_refuses_3 : decode cL_refuses 3 = .ok (.bipush 7, 2) := by decide +kernel
theorem dL_refuses_5 : decode cL_refuses 5 = .ok (.iconst 0, 1) := by decide +kernel
theorem dL_refuses_6 : decode cL_refuses 6 = .ok (.iconst 0, 1) := by decide +kernel
theorem dL_refuses_7 : decode cL_refuses 7 = .ok (.invokestatic 156, 3) := by decide +kernel
theorem dL_refuses_10 : decode cL_refuses 10 = .ok (.ishl, 1) := by decide +kernel
theorem dL_refuses_11 : decode cL_refuses 11 = .ok (.istore_n 2, 1) := by decide +kernel
theorem dL_refuses_12 : decode cL_refuses 12 = .ok (.aload_n 0, 1) := by decide +kernel
theorem dL_refuses_13 : decode cL_refuses 13 = .ok (.iconst 1, 1) := by decide +kernel
theorem dL_refuses_14 : decode cL_refuses 14 = .ok (.bipush 8, 2) := by decide +kernel
theorem dL_refuses_16 : decode cL_refuses 16 = .ok (.iconst 0, 1) := by decide +kernel
theorem dL_refuses_17 : decode cL_refuses 17 = .ok (.iconst 0, 1) := by decide +kernel
theorem dL_refuses_18 : decode cL_refuses 18 = .ok (.invokestatic 156, 3) := by decide +kernel
theorem dL_refuses_21 : decode cL_refuses 21 = .ok (.istore_n 3, 1) := by decide +kernel
theorem dL_refuses_22 : decode cL_refuses 22 = .ok (.aload_n 0, 1) := by decide +kernel
theorem dL_refuses_23 : decode cL_refuses 23 = .ok (.iconst 1, 1) := by decide +kernel
theorem dL_refuses_24 : decode cL_refuses 24 = .ok (.bipush 10, 2) := by decide +kernel
theorem dL_refuses_26 : decode cL_refuses 26 = .ok (.iload_n 1, 1) := by decide +kernel
theorem dL_refuses_27 : decode cL_refuses 27 = .ok (.bipush 9, 2) := by decide +kernel
theorem dL_refuses_29 : decode cL_refuses 29 = .ok (.irem, 1) := by decide +kernel
theorem dL_refuses_30 : decode cL_refuses 30 = .ok (.iadd, 1) := by decide +kernel
theorem dL_refuses_31 : decode cL_refuses 31 = .ok (.iconst 0, 1) := by decide +kernel
theorem dL_refuses_32 : decode cL_refuses 32 = .ok (.iconst 0, 1) := by decide +kernel
theorem dL_refuses_33 : decode cL_refuses 33 = .ok (.invokestatic 156, 3) := by decide +kernel
theorem dL_refuses_36 : decode cL_refuses 36 = .ok (.ldc 15, 2) := by decide +kernel
theorem dL_refuses_38 : decode cL_refuses 38 = .ok (.if_icmp .ne 87, 3) := by decide +kernel
theorem dL_refuses_41 : decode cL_refuses 41 = .ok (.aload_n 0, 1) := by decide +kernel
theorem dL_refuses_42 : decode cL_refuses 42 = .ok (.iconst 2, 1) := by decide +kernel
theorem dL_refuses_43 : decode cL_refuses 43 = .ok (.iconst 2, 1) := by decide +kernel
theorem dL_refuses_44 : decode cL_refuses 44 = .ok (.iload_n 1, 1) := by decide +kernel
theorem dL_refuses_45 : decode cL_refuses 45 = .ok (.bipush 9, 2) := by decide +kernel
theorem dL_refuses_47 : decode cL_refuses 47 = .ok (.irem, 1) := by decide +kernel
theorem dL_refuses_48 : decode cL_refuses 48 = .ok (.iadd, 1) := by decide +kernel
theorem dL_refuses_49 : decode cL_refuses 49 = .ok (.bipush 9, 2) := by decide +kernel
theorem dL_refuses_51 : decode cL_refuses 51 = .ok (.iconst 0, 1) := by decide +kernel
theorem dL_refuses_52 : decode cL_refuses 52 = .ok (.invokestatic 156, 3) := by decide +kernel
theorem dL_refuses_55 : decode cL_refuses 55 = .ok (.ldc 26, 2) := by decide +kernel
theorem dL_refuses_57 : decode cL_refuses 57 = .ok (.if_icmp .ne 68, 3) := by decide +kernel
theorem dL_refuses_60 : decode cL_refuses 60 = .ok (.aload_n 0, 1) := by decide +kernel
theorem dL_refuses_61 : decode cL_refuses 61 = .ok (.iconst 2, 1) := by decide +kernel
theorem dL_refuses_62 : decode cL_refuses 62 = .ok (.iload_n 1, 1) := by decide +kernel
theorem dL_refuses_63 : decode cL_refuses 63 = .ok (.iconst 2, 1) := by decide +kernel
theorem dL_refuses_64 : decode cL_refuses 64 = .ok (.irem, 1) := by decide +kernel
theorem dL_refuses_65 : decode cL_refuses 65 = .ok (.iconst 5, 1) := by decide +kernel
theorem dL_refuses_66 : decode cL_refuses 66 = .ok (.iconst 0, 1) := by decide +kernel
theorem dL_refuses_67 : decode cL_refuses 67 = .ok (.invokestatic 156, 3) := by decide +kernel
theorem dL_refuses_70 : decode cL_refuses 70 = .ok (.ldc 15, 2) := by decide +kernel
theorem dL_refuses_72 : decode cL_refuses 72 = .ok (.if_icmp .ne 53, 3) := by decide +kernel
theorem dL_refuses_75 : decode cL_refuses 75 = .ok (.aload_n 0, 1) := by decide +kernel
theorem dL_refuses_76 : decode cL_refuses 76 = .ok (.iconst 3, 1) := by decide +kernel
theorem dL_refuses_77 : decode cL_refuses 77 = .ok (.iload_n 1, 1) := by decide +kernel
theorem dL_refuses_78 : decode cL_refuses 78 = .ok (.iconst 2, 1) := by decide +kernel
theorem dL_refuses_79 : decode cL_refuses 79 = .ok (.irem, 1) := by decide +kernel
theorem dL_refuses_80 : decode cL_refuses 80 = .ok (.iload_n 2, 1) := by decide +kernel
theorem dL_refuses_81 : decode cL_refuses 81 = .ok (.bipush 9, 2) := by decide +kernel
theorem dL_refuses_83 : decode cL_refuses 83 = .ok (.invokestatic 156, 3) := by decide +kernel
theorem dL_refuses_86 : decode cL_refuses 86 = .ok (.ldc 26, 2) := by decide +kernel
theorem dL_refuses_88 : decode cL_refuses 88 = .ok (.if_icmp .ne 37, 3) := by decide +kernel
theorem dL_refuses_91 : decode cL_refuses 91 = .ok (.aload_n 0, 1) := by decide +kernel
theorem dL_refuses_92 : decode cL_refuses 92 = .ok (.iconst 3, 1) := by decide +kernel
theorem dL_refuses_93 : decode cL_refuses 93 = .ok (.iload_n 1, 1) := by decide +kernel
theorem dL_refuses_94 : decode cL_refuses 94 = .ok (.iconst 2, 1) := by decide +kernel
theorem dL_refuses_95 : decode cL_refuses 95 = .ok (.irem, 1) := by decide +kernel
theorem dL_refuses_96 : decode cL_refuses 96 = .ok (.iload_n 1, 1) := by decide +kernel
theorem dL_refuses_97 : decode cL_refuses 97 = .ok (.iload_n 2, 1) := by decide +kernel
theorem dL_refuses_98 : decode cL_refuses 98 = .ok (.irem, 1) := by decide +kernel
theorem dL_refuses_99 : decode cL_refuses 99 = .ok (.iconst 4, 1) := by decide +kernel
theorem dL_refuses_100 : decode cL_refuses 100 = .ok (.invokestatic 156, 3) := by decide +kernel
theorem dL_refuses_103 : decode cL_refuses 103 = .ok (.ldc 15, 2) := by decide +kernel
theorem dL_refuses_105 : decode cL_refuses 105 = .ok (.if_icmp .ne 20, 3) := by decide +kernel
theorem dL_refuses_108 : decode cL_refuses 108 = .ok (.aload_n 0, 1) := by decide +kernel
theorem dL_refuses_109 : decode cL_refuses 109 = .ok (.iconst 3, 1) := by decide +kernel
theorem dL_refuses_110 : decode cL_refuses 110 = .ok (.iconst 2, 1) := by decide +kernel
theorem dL_refuses_111 : decode cL_refuses 111 = .ok (.iconst 0, 1) := by decide +kernel
theorem dL_refuses_112 : decode cL_refuses 112 = .ok (.iconst 0, 1) := by decide +kernel
theorem dL_refuses_113 : decode cL_refuses 113 = .ok (.invokestatic 156, 3) := by decide +kernel
theorem dL_refuses_116 : decode cL_refuses 116 = .ok (.ldc 26, 2) := by decide +kernel
theorem dL_refuses_118 : decode cL_refuses 118 = .ok (.if_icmp .ne 7, 3) := by decide +kernel
theorem dL_refuses_121 : decode cL_refuses 121 = .ok (.iconst 1, 1) := by decide +kernel
theorem dL_refuses_122 : decode cL_refuses 122 = .ok (.goto 4, 3) := by decide +kernel
theorem dL_refuses_125 : decode cL_refuses 125 = .ok (.iconst 0, 1) := by decide +kernel
theorem dL_refuses_126 : decode cL_refuses 126 = .ok (.istore 4, 2) := by decide +kernel
theorem dL_refuses_128 : decode cL_refuses 128 = .ok (.iload 4, 2) := by decide +kernel
theorem dL_refuses_130 : decode cL_refuses 130 = .ok (.ifCond .eq 102, 3) := by decide +kernel
theorem dL_refuses_133 : decode cL_refuses 133 = .ok (.aload_n 0, 1) := by decide +kernel
theorem dL_refuses_134 : decode cL_refuses 134 = .ok (.iconst 4, 1) := by decide +kernel
theorem dL_refuses_135 : decode cL_refuses 135 = .ok (.bipush 26, 2) := by decide +kernel
theorem dL_refuses_137 : decode cL_refuses 137 = .ok (.iload_n 1, 1) := by decide +kernel
theorem dL_refuses_138 : decode cL_refuses 138 = .ok (.bipush 9, 2) := by decide +kernel
theorem dL_refuses_140 : decode cL_refuses 140 = .ok (.irem, 1) := by decide +kernel
theorem dL_refuses_141 : decode cL_refuses 141 = .ok (.iadd, 1) := by decide +kernel
theorem dL_refuses_142 : decode cL_refuses 142 = .ok (.iconst 0, 1) := by decide +kernel
theorem dL_refuses_143 : decode cL_refuses 143 = .ok (.iconst 0, 1) := by decide +kernel
theorem dL_refuses_144 : decode cL_refuses 144 = .ok (.invokestatic 156, 3) := by decide +kernel
theorem dL_refuses_147 : decode cL_refuses 147 = .ok (.ldc 26, 2) := by decide +kernel
theorem dL_refuses_149 : decode cL_refuses 149 = .ok (.if_icmp .ne 83, 3) := by decide +kernel
theorem dL_refuses_152 : decode cL_refuses 152 = .ok (.aload_n 0, 1) := by decide +kernel
theorem dL_refuses_153 : decode cL_refuses 153 = .ok (.iconst 4, 1) := by decide +kernel
theorem dL_refuses_154 : decode cL_refuses 154 = .ok (.iload_n 1, 1) := by decide +kernel
theorem dL_refuses_155 : decode cL_refuses 155 = .ok (.bipush 26, 2) := by decide +kernel
theorem dL_refuses_157 : decode cL_refuses 157 = .ok (.irem, 1) := by decide +kernel
theorem dL_refuses_158 : decode cL_refuses 158 = .ok (.iconst 5, 1) := by decide +kernel
theorem dL_refuses_159 : decode cL_refuses 159 = .ok (.iconst 0, 1) := by decide +kernel
theorem dL_refuses_160 : decode cL_refuses 160 = .ok (.invokestatic 156, 3) := by decide +kernel
theorem dL_refuses_163 : decode cL_refuses 163 = .ok (.ldc 15, 2) := by decide +kernel
theorem dL_refuses_165 : decode cL_refuses 165 = .ok (.if_icmp .ne 67, 3) := by decide +kernel
theorem dL_refuses_168 : decode cL_refuses 168 = .ok (.aload_n 0, 1) := by decide +kernel
theorem dL_refuses_169 : decode cL_refuses 169 = .ok (.iconst 5, 1) := by decide +kernel
theorem dL_refuses_170 : decode cL_refuses 170 = .ok (.iconst 2, 1) := by decide +kernel
theorem dL_refuses_171 : decode cL_refuses 171 = .ok (.iconst 0, 1) := by decide +kernel
theorem dL_refuses_172 : decode cL_refuses 172 = .ok (.iconst 0, 1) := by decide +kernel
theorem dL_refuses_173 : decode cL_refuses 173 = .ok (.invokestatic 156, 3) := by decide +kernel
theorem dL_refuses_176 : decode cL_refuses 176 = .ok (.ldc 26, 2) := by decide +kernel
theorem dL_refuses_178 : decode cL_refuses 178 = .ok (.if_icmp .ne 54, 3) := by decide +kernel
theorem dL_refuses_181 : decode cL_refuses 181 = .ok (.aload_n 0, 1) := by decide +kernel
theorem dL_refuses_182 : decode cL_refuses 182 = .ok (.iconst 5, 1) := by decide +kernel
theorem dL_refuses_183 : decode cL_refuses 183 = .ok (.iconst 0, 1) := by decide +kernel
theorem dL_refuses_184 : decode cL_refuses 184 = .ok (.bipush 26, 2) := by decide +kernel
theorem dL_refuses_186 : decode cL_refuses 186 = .ok (.iconst 0, 1) := by decide +kernel
theorem dL_refuses_187 : decode cL_refuses 187 = .ok (.invokestatic 156, 3) := by decide +kernel
theorem dL_refuses_190 : decode cL_refuses 190 = .ok (.ldc 26, 2) := by decide +kernel
theorem dL_refuses_192 : decode cL_refuses 192 = .ok (.if_icmp .ne 40, 3) := by decide +kernel
theorem dL_refuses_195 : decode cL_refuses 195 = .ok (.aload_n 0, 1) := by decide +kernel
theorem dL_refuses_196 : decode cL_refuses 196 = .ok (.bipush 6, 2) := by decide +kernel
theorem dL_refuses_198 : decode cL_refuses 198 = .ok (.iconst (-1), 1) := by decide +kernel
theorem dL_refuses_199 : decode cL_refuses 199 = .ok (.iconst 0, 1) := by decide +kernel
theorem dL_refuses_200 : decode cL_refuses 200 = .ok (.iconst 0, 1) := by decide +kernel
theorem dL_refuses_201 : decode cL_refuses 201 = .ok (.invokestatic 156, 3) := by decide +kernel
theorem dL_refuses_204 : decode cL_refuses 204 = .ok (.ldc 26, 2) := by decide +kernel
theorem dL_refuses_206 : decode cL_refuses 206 = .ok (.if_icmp .ne 26, 3) := by decide +kernel
theorem dL_refuses_209 : decode cL_refuses 209 = .ok (.aload_n 0, 1) := by decide +kernel
theorem dL_refuses_210 : decode cL_refuses 210 = .ok (.bipush 7, 2) := by decide +kernel
theorem dL_refuses_212 : decode cL_refuses 212 = .ok (.iconst (-1), 1) := by decide +kernel
theorem dL_refuses_213 : decode cL_refuses 213 = .ok (.iload_n 1, 1) := by decide +kernel
theorem dL_refuses_214 : decode cL_refuses 214 = .ok (.bipush 9, 2) := by decide +kernel
theorem dL_refuses_216 : decode cL_refuses 216 = .ok (.irem, 1) := by decide +kernel
theorem dL_refuses_217 : decode cL_refuses 217 = .ok (.isub, 1) := by decide +kernel
theorem dL_refuses_218 : decode cL_refuses 218 = .ok (.iconst 0, 1) := by decide +kernel
theorem dL_refuses_219 : decode cL_refuses 219 = .ok (.iconst 0, 1) := by decide +kernel
theorem dL_refuses_220 : decode cL_refuses 220 = .ok (.invokestatic 156, 3) := by decide +kernel
theorem dL_refuses_223 : decode cL_refuses 223 = .ok (.ldc 26, 2) := by decide +kernel
theorem dL_refuses_225 : decode cL_refuses 225 = .ok (.if_icmp .ne 7, 3) := by decide +kernel
theorem dL_refuses_228 : decode cL_refuses 228 = .ok (.iconst 1, 1) := by decide +kernel
theorem dL_refuses_229 : decode cL_refuses 229 = .ok (.goto 4, 3) := by decide +kernel
theorem dL_refuses_232 : decode cL_refuses 232 = .ok (.iconst 0, 1) := by decide +kernel
theorem dL_refuses_233 : decode cL_refuses 233 = .ok (.istore 4, 2) := by decide +kernel
theorem dL_refuses_235 : decode cL_refuses 235 = .ok (.iload 4, 2) := by decide +kernel
theorem dL_refuses_237 : decode cL_refuses 237 = .ok (.ifCond .eq 141, 3) := by decide +kernel
theorem dL_refuses_240 : decode cL_refuses 240 = .ok (.aload_n 0, 1) := by decide +kernel
theorem dL_refuses_241 : decode cL_refuses 241 = .ok (.bipush 8, 2) := by decide +kernel
theorem dL_refuses_243 : decode cL_refuses 243 = .ok (.iconst 2, 1) := by decide +kernel
theorem dL_refuses_244 : decode cL_refuses 244 = .ok (.bipush 9, 2) := by decide +kernel
theorem dL_refuses_246 : decode cL_refuses 246 = .ok (.bipush 9, 2) := by decide +kernel
theorem dL_refuses_248 : decode cL_refuses 248 = .ok (.invokestatic 156, 3) := by decide +kernel
theorem dL_refuses_251 : decode cL_refuses 251 = .ok (.ldc 26, 2) := by decide +kernel
theorem dL_refuses_253 : decode cL_refuses 253 = .ok (.if_icmp .ne 125, 3) := by decide +kernel
theorem dL_refuses_256 : decode cL_refuses 256 = .ok (.aload_n 0, 1) := by decide +kernel
theorem dL_refuses_257 : decode cL_refuses 257 = .ok (.bipush 8, 2) := by decide +kernel
theorem dL_refuses_259 : decode cL_refuses 259 = .ok (.iload_n 1, 1) := by decide +kernel
theorem dL_refuses_260 : decode cL_refuses 260 = .ok (.iconst 2, 1) := by decide +kernel
theorem dL_refuses_261 : decode cL_refuses 261 = .ok (.irem, 1) := by decide +kernel
theorem dL_refuses_262 : decode cL_refuses 262 = .ok (.iconst 0, 1) := by decide +kernel
theorem dL_refuses_263 : decode cL_refuses 263 = .ok (.iconst 5, 1) := by decide +kernel
theorem dL_refuses_264 : decode cL_refuses 264 = .ok (.iload_n 1, 1) := by decide +kernel
theorem dL_refuses_265 : decode cL_refuses 265 = .ok (.bipush 9, 2) := by decide +kernel
theorem dL_refuses_267 : decode cL_refuses 267 = .ok (.irem, 1) := by decide +kernel
theorem dL_refuses_268 : decode cL_refuses 268 = .ok (.iadd, 1) := by decide +kernel
theorem dL_refuses_269 : decode cL_refuses 269 = .ok (.invokestatic 156, 3) := by decide +kernel
theorem dL_refuses_272 : decode cL_refuses 272 = .ok (.ldc 15, 2) := by decide +kernel
theorem dL_refuses_274 : decode cL_refuses 274 = .ok (.if_icmp .ne 104, 3) := by decide +kernel
theorem dL_refuses_277 : decode cL_refuses 277 = .ok (.aload_n 0, 1) := by decide +kernel
theorem dL_refuses_278 : decode cL_refuses 278 = .ok (.bipush 8, 2) := by decide +kernel
theorem dL_refuses_280 : decode cL_refuses 280 = .ok (.iload_n 1, 1) := by decide +kernel
theorem dL_refuses_281 : decode cL_refuses 281 = .ok (.iconst 2, 1) := by decide +kernel
theorem dL_refuses_282 : decode cL_refuses 282 = .ok (.irem, 1) := by decide +kernel
theorem dL_refuses_283 : decode cL_refuses 283 = .ok (.iconst 1, 1) := by decide +kernel
theorem dL_refuses_284 : decode cL_refuses 284 = .ok (.bipush 7, 2) := by decide +kernel
theorem dL_refuses_286 : decode cL_refuses 286 = .ok (.invokestatic 156, 3) := by decide +kernel
theorem dL_refuses_289 : decode cL_refuses 289 = .ok (.ldc 15, 2) := by decide +kernel
theorem dL_refuses_291 : decode cL_refuses 291 = .ok (.if_icmp .ne 87, 3) := by decide +kernel
theorem dL_refuses_294 : decode cL_refuses 294 = .ok (.aload_n 0, 1) := by decide +kernel
theorem dL_refuses_295 : decode cL_refuses 295 = .ok (.bipush 8, 2) := by decide +kernel
theorem dL_refuses_297 : decode cL_refuses 297 = .ok (.iload_n 1, 1) := by decide +kernel
theorem dL_refuses_298 : decode cL_refuses 298 = .ok (.iconst 2, 1) := by decide +kernel
theorem dL_refuses_299 : decode cL_refuses 299 = .ok (.irem, 1) := by decide +kernel
theorem dL_refuses_300 : decode cL_refuses 300 = .ok (.iconst 2, 1) := by decide +kernel
theorem dL_refuses_301 : decode cL_refuses 301 = .ok (.iconst (-1), 1) := by decide +kernel
theorem dL_refuses_302 : decode cL_refuses 302 = .ok (.invokestatic 156, 3) := by decide +kernel
theorem dL_refuses_305 : decode cL_refuses 305 = .ok (.ldc 15, 2) := by decide +kernel
theorem dL_refuses_307 : decode cL_refuses 307 = .ok (.if_icmp .ne 71, 3) := by decide +kernel
theorem dL_refuses_310 : decode cL_refuses 310 = .ok (.aload_n 0, 1) := by decide +kernel
theorem dL_refuses_311 : decode cL_refuses 311 = .ok (.bipush 8, 2) := by decide +kernel
theorem dL_refuses_313 : decode cL_refuses 313 = .ok (.iload_n 1, 1) := by decide +kernel
theorem dL_refuses_314 : decode cL_refuses 314 = .ok (.iconst 2, 1) := by decide +kernel
theorem dL_refuses_315 : decode cL_refuses 315 = .ok (.irem, 1) := by decide +kernel
theorem dL_refuses_316 : decode cL_refuses 316 = .ok (.iconst 3, 1) := by decide +kernel
theorem dL_refuses_317 : decode cL_refuses 317 = .ok (.iconst 0, 1) := by decide +kernel
theorem dL_refuses_318 : decode cL_refuses 318 = .ok (.invokestatic 156, 3) := by decide +kernel
theorem dL_refuses_321 : decode cL_refuses 321 = .ok (.ldc 15, 2) := by decide +kernel
theorem dL_refuses_323 : decode cL_refuses 323 = .ok (.if_icmp .ne 55, 3) := by decide +kernel
theorem dL_refuses_326 : decode cL_refuses 326 = .ok (.aload_n 0, 1) := by decide +kernel
theorem dL_refuses_327 : decode cL_refuses 327 = .ok (.bipush 9, 2) := by decide +kernel
theorem dL_refuses_329 : decode cL_refuses 329 = .ok (.iconst 0, 1) := by decide +kernel
theorem dL_refuses_330 : decode cL_refuses 330 = .ok (.iconst 1, 1) := by decide +kernel
theorem dL_refuses_331 : decode cL_refuses 331 = .ok (.iconst 0, 1) := by decide +kernel
theorem dL_refuses_332 : decode cL_refuses 332 = .ok (.invokestatic 156, 3) := by decide +kernel
theorem dL_refuses_335 : decode cL_refuses 335 = .ok (.ldc 15, 2) := by decide +kernel
theorem dL_refuses_337 : decode cL_refuses 337 = .ok (.if_icmp .ne 41, 3) := by decide +kernel
theorem dL_refuses_340 : decode cL_refuses 340 = .ok (.aload_n 0, 1) := by decide +kernel
theorem dL_refuses_341 : decode cL_refuses 341 = .ok (.bipush 9, 2) := by decide +kernel
theorem dL_refuses_343 : decode cL_refuses 343 = .ok (.iconst 1, 1) := by decide +kernel
theorem dL_refuses_344 : decode cL_refuses 344 = .ok (.iconst 5, 1) := by decide +kernel
theorem dL_refuses_345 : decode cL_refuses 345 = .ok (.iconst 0, 1) := by decide +kernel
theorem dL_refuses_346 : decode cL_refuses 346 = .ok (.invokestatic 156, 3) := by decide +kernel
theorem dL_refuses_349 : decode cL_refuses 349 = .ok (.ldc 15, 2) := by decide +kernel
theorem dL_refuses_351 : decode cL_refuses 351 = .ok (.if_icmp .ne 27, 3) := by decide +kernel
theorem dL_refuses_354 : decode cL_refuses 354 = .ok (.aload_n 0, 1) := by decide +kernel
theorem dL_refuses_355 : decode cL_refuses 355 = .ok (.bipush 9, 2) := by decide +kernel
theorem dL_refuses_357 : decode cL_refuses 357 = .ok (.iconst 2, 1) := by decide +kernel
theorem dL_refuses_358 : decode cL_refuses 358 = .ok (.bipush 10, 2) := by decide +kernel
theorem dL_refuses_360 : decode cL_refuses 360 = .ok (.iload_n 1, 1) := by decide +kernel
theorem dL_refuses_361 : decode cL_refuses 361 = .ok (.bipush 9, 2) := by decide +kernel
theorem dL_refuses_363 : decode cL_refuses 363 = .ok (.irem, 1) := by decide +kernel
theorem dL_refuses_364 : decode cL_refuses 364 = .ok (.iadd, 1) := by decide +kernel
theorem dL_refuses_365 : decode cL_refuses 365 = .ok (.iconst 0, 1) := by decide +kernel
theorem dL_refuses_366 : decode cL_refuses 366 = .ok (.invokestatic 156, 3) := by decide +kernel
theorem dL_refuses_369 : decode cL_refuses 369 = .ok (.ldc 15, 2) := by decide +kernel
theorem dL_refuses_371 : decode cL_refuses 371 = .ok (.if_icmp .ne 7, 3) := by decide +kernel
theorem dL_refuses_374 : decode cL_refuses 374 = .ok (.iconst 1, 1) := by decide +kernel
theorem dL_refuses_375 : decode cL_refuses 375 = .ok (.goto 4, 3) := by decide +kernel
theorem dL_refuses_378 : decode cL_refuses 378 = .ok (.iconst 0, 1) := by decide +kernel
theorem dL_refuses_379 : decode cL_refuses 379 = .ok (.istore 4, 2) := by decide +kernel
theorem dL_refuses_381 : decode cL_refuses 381 = .ok (.iload 4, 2) := by decide +kernel
theorem dL_refuses_383 : decode cL_refuses 383 = .ok (.ifCond .eq 119, 3) := by decide +kernel
theorem dL_refuses_386 : decode cL_refuses 386 = .ok (.aload_n 0, 1) := by decide +kernel
theorem dL_refuses_387 : decode cL_refuses 387 = .ok (.bipush 10, 2) := by decide +kernel
theorem dL_refuses_389 : decode cL_refuses 389 = .ok (.iload_n 1, 1) := by decide +kernel
theorem dL_refuses_390 : decode cL_refuses 390 = .ok (.iconst 2, 1) := by decide +kernel
theorem dL_refuses_391 : decode cL_refuses 391 = .ok (.irem, 1) := by decide +kernel
theorem dL_refuses_392 : decode cL_refuses 392 = .ok (.iload_n 2, 1) := by decide +kernel
theorem dL_refuses_393 : decode cL_refuses 393 = .ok (.bipush 99, 2) := by decide +kernel
theorem dL_refuses_395 : decode cL_refuses 395 = .ok (.invokestatic 156, 3) := by decide +kernel
theorem dL_refuses_398 : decode cL_refuses 398 = .ok (.ldc 26, 2) := by decide +kernel
theorem dL_refuses_400 : decode cL_refuses 400 = .ok (.if_icmp .ne 102, 3) := by decide +kernel
theorem dL_refuses_403 : decode cL_refuses 403 = .ok (.aload_n 0, 1) := by decide +kernel
theorem dL_refuses_404 : decode cL_refuses 404 = .ok (.bipush 10, 2) := by decide +kernel
theorem dL_refuses_406 : decode cL_refuses 406 = .ok (.iload_n 1, 1) := by decide +kernel
theorem dL_refuses_407 : decode cL_refuses 407 = .ok (.iconst 2, 1) := by decide +kernel
theorem dL_refuses_408 : decode cL_refuses 408 = .ok (.irem, 1) := by decide +kernel
theorem dL_refuses_409 : decode cL_refuses 409 = .ok (.iload_n 1, 1) := by decide +kernel
theorem dL_refuses_410 : decode cL_refuses 410 = .ok (.iload_n 2, 1) := by decide +kernel
theorem dL_refuses_411 : decode cL_refuses 411 = .ok (.irem, 1) := by decide +kernel
theorem dL_refuses_412 : decode cL_refuses 412 = .ok (.iconst 2, 1) := by decide +kernel
theorem dL_refuses_413 : decode cL_refuses 413 = .ok (.iload_n 3, 1) := by decide +kernel
theorem dL_refuses_414 : decode cL_refuses 414 = .ok (.imul, 1) := by decide +kernel
theorem dL_refuses_415 : decode cL_refuses 415 = .ok (.invokestatic 156, 3) := by decide +kernel
theorem dL_refuses_418 : decode cL_refuses 418 = .ok (.ldc 15, 2) := by decide +kernel
theorem dL_refuses_420 : decode cL_refuses 420 = .ok (.if_icmp .ne 82, 3) := by decide +kernel
theorem dL_refuses_423 : decode cL_refuses 423 = .ok (.aload_n 0, 1) := by decide +kernel
theorem dL_refuses_424 : decode cL_refuses 424 = .ok (.bipush 26, 2) := by decide +kernel
theorem dL_refuses_426 : decode cL_refuses 426 = .ok (.iload_n 1, 1) := by decide +kernel
theorem dL_refuses_427 : decode cL_refuses 427 = .ok (.bipush 9, 2) := by decide +kernel
theorem dL_refuses_429 : decode cL_refuses 429 = .ok (.irem, 1) := by decide +kernel
theorem dL_refuses_430 : decode cL_refuses 430 = .ok (.iadd, 1) := by decide +kernel
theorem dL_refuses_431 : decode cL_refuses 431 = .ok (.iconst 1, 1) := by decide +kernel
theorem dL_refuses_432 : decode cL_refuses 432 = .ok (.invokestatic 160, 3) := by decide +kernel
theorem dL_refuses_435 : decode cL_refuses 435 = .ok (.ldc 26, 2) := by decide +kernel
theorem dL_refuses_437 : decode cL_refuses 437 = .ok (.if_icmp .ne 65, 3) := by decide +kernel
theorem dL_refuses_440 : decode cL_refuses 440 = .ok (.aload_n 0, 1) := by decide +kernel
theorem dL_refuses_441 : decode cL_refuses 441 = .ok (.bipush 13, 2) := by decide +kernel
theorem dL_refuses_443 : decode cL_refuses 443 = .ok (.iconst 2, 1) := by decide +kernel
theorem dL_refuses_444 : decode cL_refuses 444 = .ok (.iconst 0, 1) := by decide +kernel
theorem dL_refuses_445 : decode cL_refuses 445 = .ok (.iconst 0, 1) := by decide +kernel
theorem dL_refuses_446 : decode cL_refuses 446 = .ok (.invokestatic 156, 3) := by decide +kernel
theorem dL_refuses_449 : decode cL_refuses 449 = .ok (.ldc 26, 2) := by decide +kernel
theorem dL_refuses_451 : decode cL_refuses 451 = .ok (.if_icmp .ne 51, 3) := by decide +kernel
theorem dL_refuses_454 : decode cL_refuses 454 = .ok (.aload_n 0, 1) := by decide +kernel
theorem dL_refuses_455 : decode cL_refuses 455 = .ok (.bipush 14, 2) := by decide +kernel
theorem dL_refuses_457 : decode cL_refuses 457 = .ok (.iconst (-1), 1) := by decide +kernel
theorem dL_refuses_458 : decode cL_refuses 458 = .ok (.iconst 0, 1) := by decide +kernel
theorem dL_refuses_459 : decode cL_refuses 459 = .ok (.iconst 0, 1) := by decide +kernel
theorem dL_refuses_460 : decode cL_refuses 460 = .ok (.invokestatic 156, 3) := by decide +kernel
theorem dL_refuses_463 : decode cL_refuses 463 = .ok (.ldc 26, 2) := by decide +kernel
theorem dL_refuses_465 : decode cL_refuses 465 = .ok (.if_icmp .ne 37, 3) := by decide +kernel
theorem dL_refuses_468 : decode cL_refuses 468 = .ok (.aload_n 0, 1) := by decide +kernel
theorem dL_refuses_469 : decode cL_refuses 469 = .ok (.bipush 15, 2) := by decide +kernel
theorem dL_refuses_471 : decode cL_refuses 471 = .ok (.iconst 0, 1) := by decide +kernel
theorem dL_refuses_472 : decode cL_refuses 472 = .ok (.bipush 26, 2) := by decide +kernel
theorem dL_refuses_474 : decode cL_refuses 474 = .ok (.iconst 0, 1) := by decide +kernel
theorem dL_refuses_475 : decode cL_refuses 475 = .ok (.invokestatic 156, 3) := by decide +kernel
theorem dL_refuses_478 : decode cL_refuses 478 = .ok (.ldc 26, 2) := by decide +kernel
theorem dL_refuses_480 : decode cL_refuses 480 = .ok (.if_icmp .ne 22, 3) := by decide +kernel
theorem dL_refuses_483 : decode cL_refuses 483 = .ok (.aload_n 0, 1) := by decide +kernel
theorem dL_refuses_484 : decode cL_refuses 484 = .ok (.bipush 16, 2) := by decide +kernel
theorem dL_refuses_486 : decode cL_refuses 486 = .ok (.bipush 26, 2) := by decide +kernel
theorem dL_refuses_488 : decode cL_refuses 488 = .ok (.iconst 0, 1) := by decide +kernel
theorem dL_refuses_489 : decode cL_refuses 489 = .ok (.iconst 0, 1) := by decide +kernel
theorem dL_refuses_490 : decode cL_refuses 490 = .ok (.invokestatic 156, 3) := by decide +kernel
theorem dL_refuses_493 : decode cL_refuses 493 = .ok (.ldc 26, 2) := by decide +kernel
theorem dL_refuses_495 : decode cL_refuses 495 = .ok (.if_icmp .ne 7, 3) := by decide +kernel
theorem dL_refuses_498 : decode cL_refuses 498 = .ok (.iconst 1, 1) := by decide +kernel
theorem dL_refuses_499 : decode cL_refuses 499 = .ok (.goto 4, 3) := by decide +kernel
theorem dL_refuses_502 : decode cL_refuses 502 = .ok (.iconst 0, 1) := by decide +kernel
theorem dL_refuses_503 : decode cL_refuses 503 = .ok (.istore 4, 2) := by decide +kernel
theorem dL_refuses_505 : decode cL_refuses 505 = .ok (.iload 4, 2) := by decide +kernel
theorem dL_refuses_507 : decode cL_refuses 507 = .ok (.ifCond .eq 67, 3) := by decide +kernel
theorem dL_refuses_510 : decode cL_refuses 510 = .ok (.aload_n 0, 1) := by decide +kernel
theorem dL_refuses_511 : decode cL_refuses 511 = .ok (.bipush 17, 2) := by decide +kernel
theorem dL_refuses_513 : decode cL_refuses 513 = .ok (.iconst 2, 1) := by decide +kernel
theorem dL_refuses_514 : decode cL_refuses 514 = .ok (.iconst 0, 1) := by decide +kernel
theorem dL_refuses_515 : decode cL_refuses 515 = .ok (.iconst 0, 1) := by decide +kernel
theorem dL_refuses_516 : decode cL_refuses 516 = .ok (.invokestatic 156, 3) := by decide +kernel
theorem dL_refuses_519 : decode cL_refuses 519 = .ok (.ldc 26, 2) := by decide +kernel
theorem dL_refuses_521 : decode cL_refuses 521 = .ok (.if_icmp .ne 53, 3) := by decide +kernel
theorem dL_refuses_524 : decode cL_refuses 524 = .ok (.aload_n 0, 1) := by decide +kernel
theorem dL_refuses_525 : decode cL_refuses 525 = .ok (.bipush 18, 2) := by decide +kernel
theorem dL_refuses_527 : decode cL_refuses 527 = .ok (.iconst (-1), 1) := by decide +kernel
theorem dL_refuses_528 : decode cL_refuses 528 = .ok (.iconst 0, 1) := by decide +kernel
theorem dL_refuses_529 : decode cL_refuses 529 = .ok (.iconst 0, 1) := by decide +kernel
theorem dL_refuses_530 : decode cL_refuses 530 = .ok (.invokestatic 156, 3) := by decide +kernel
theorem dL_refuses_533 : decode cL_refuses 533 = .ok (.ldc 26, 2) := by decide +kernel
theorem dL_refuses_535 : decode cL_refuses 535 = .ok (.if_icmp .ne 39, 3) := by decide +kernel
theorem dL_refuses_538 : decode cL_refuses 538 = .ok (.aload_n 0, 1) := by decide +kernel
theorem dL_refuses_539 : decode cL_refuses 539 = .ok (.iconst 0, 1) := by decide +kernel
theorem dL_refuses_540 : decode cL_refuses 540 = .ok (.sipush 256, 3) := by decide +kernel
theorem dL_refuses_543 : decode cL_refuses 543 = .ok (.iload_n 1, 1) := by decide +kernel
theorem dL_refuses_544 : decode cL_refuses 544 = .ok (.bipush 9, 2) := by decide +kernel
theorem dL_refuses_546 : decode cL_refuses 546 = .ok (.irem, 1) := by decide +kernel
theorem dL_refuses_547 : decode cL_refuses 547 = .ok (.iadd, 1) := by decide +kernel
theorem dL_refuses_548 : decode cL_refuses 548 = .ok (.iconst 0, 1) := by decide +kernel
theorem dL_refuses_549 : decode cL_refuses 549 = .ok (.iconst 0, 1) := by decide +kernel
theorem dL_refuses_550 : decode cL_refuses 550 = .ok (.invokestatic 156, 3) := by decide +kernel
theorem dL_refuses_553 : decode cL_refuses 553 = .ok (.ldc 15, 2) := by decide +kernel
theorem dL_refuses_555 : decode cL_refuses 555 = .ok (.if_icmp .ne 19, 3) := by decide +kernel
theorem dL_refuses_558 : decode cL_refuses 558 = .ok (.aload_n 0, 1) := by decide +kernel
theorem dL_refuses_559 : decode cL_refuses 559 = .ok (.iload_n 1, 1) := by decide +kernel
theorem dL_refuses_560 : decode cL_refuses 560 = .ok (.i2l, 1) := by decide +kernel
theorem dL_refuses_561 : decode cL_refuses 561 = .ok (.iconst 0, 1) := by decide +kernel
theorem dL_refuses_562 : decode cL_refuses 562 = .ok (.invokestatic 164, 3) := by decide +kernel
theorem dL_refuses_565 : decode cL_refuses 565 = .ok (.ldc 15, 2) := by decide +kernel
theorem dL_refuses_567 : decode cL_refuses 567 = .ok (.if_icmp .ne 7, 3) := by decide +kernel
theorem dL_refuses_570 : decode cL_refuses 570 = .ok (.iconst 1, 1) := by decide +kernel
theorem dL_refuses_571 : decode cL_refuses 571 = .ok (.goto 4, 3) := by decide +kernel
theorem dL_refuses_574 : decode cL_refuses 574 = .ok (.iconst 0, 1) := by decide +kernel
theorem dL_refuses_575 : decode cL_refuses 575 = .ok (.istore 4, 2) := by decide +kernel
theorem dL_refuses_577 : decode cL_refuses 577 = .ok (.iload 4, 2) := by decide +kernel
theorem dL_refuses_579 : decode cL_refuses 579 = .ok (.ifCond .eq 50, 3) := by decide +kernel
theorem dL_refuses_582 : decode cL_refuses 582 = .ok (.aload_n 0, 1) := by decide +kernel
theorem dL_refuses_583 : decode cL_refuses 583 = .ok (.iconst 4, 1) := by decide +kernel
theorem dL_refuses_584 : decode cL_refuses 584 = .ok (.lconst 0, 1) := by decide +kernel
theorem dL_refuses_585 : decode cL_refuses 585 = .ok (.invokestatic 168, 3) := by decide +kernel
theorem dL_refuses_588 : decode cL_refuses 588 = .ok (.ldc 15, 2) := by decide +kernel
theorem dL_refuses_590 : decode cL_refuses 590 = .ok (.if_icmp .ne 39, 3) := by decide +kernel
theorem dL_refuses_593 : decode cL_refuses 593 = .ok (.aload_n 0, 1) := by decide +kernel
theorem dL_refuses_594 : decode cL_refuses 594 = .ok (.iconst 1, 1) := by decide +kernel
theorem dL_refuses_595 : decode cL_refuses 595 = .ok (.ldc2_w 172, 3) := by decide +kernel
theorem dL_refuses_598 : decode cL_refuses 598 = .ok (.iload_n 1, 1) := by decide +kernel
theorem dL_refuses_599 : decode cL_refuses 599 = .ok (.i2l, 1) := by decide +kernel
theorem dL_refuses_600 : decode cL_refuses 600 = .ok (.ladd, 1) := by decide +kernel
theorem dL_refuses_601 : decode cL_refuses 601 = .ok (.invokestatic 168, 3) := by decide +kernel
theorem dL_refuses_604 : decode cL_refuses 604 = .ok (.ldc 15, 2) := by decide +kernel
theorem dL_refuses_606 : decode cL_refuses 606 = .ok (.if_icmp .ne 23, 3) := by decide +kernel
theorem dL_refuses_609 : decode cL_refuses 609 = .ok (.aload_n 0, 1) := by decide +kernel
theorem dL_refuses_610 : decode cL_refuses 610 = .ok (.iconst 2, 1) := by decide +kernel
theorem dL_refuses_611 : decode cL_refuses 611 = .ok (.ldc2_w 174, 3) := by decide +kernel
theorem dL_refuses_614 : decode cL_refuses 614 = .ok (.iload_n 1, 1) := by decide +kernel
theorem dL_refuses_615 : decode cL_refuses 615 = .ok (.i2l, 1) := by decide +kernel
theorem dL_refuses_616 : decode cL_refuses 616 = .ok (.lsub, 1) := by decide +kernel
theorem dL_refuses_617 : decode cL_refuses 617 = .ok (.invokestatic 168, 3) := by decide +kernel
theorem dL_refuses_620 : decode cL_refuses 620 = .ok (.ldc 15, 2) := by decide +kernel
theorem dL_refuses_622 : decode cL_refuses 622 = .ok (.if_icmp .ne 7, 3) := by decide +kernel
theorem dL_refuses_625 : decode cL_refuses 625 = .ok (.iconst 1, 1) := by decide +kernel
theorem dL_refuses_626 : decode cL_refuses 626 = .ok (.goto 4, 3) := by decide +kernel
theorem dL_refuses_629 : decode cL_refuses 629 = .ok (.iconst 0, 1) := by decide +kernel
theorem dL_refuses_630 : decode cL_refuses 630 = .ok (.ireturn, 1) := by decide +kernel
