theorem gI_one {big : List Cond} {w : Cond} (hm : w ∈ big) (hg : goodWord w = true) : GoodIn big [w] := fun x hx => by
  rw [List.mem_singleton.mp hx]
  exact ⟨hm, good_of_word hg⟩
theorem gI_cons {big a : List Cond} {w : Cond} (h1 : GoodIn big [w]) (h2 : GoodIn big a) : GoodIn big (w :: a) := fun x hx => (List.mem_cons.mp hx).elim (fun e => h1 x (by rw [e]; exact List.mem_singleton.mpr rfl)) (h2 x)
set_option maxRecDepth 20000 in
theorem ggL_alike_X5_errorPosition : GoodIn wsL_alike wsX5_errorPosition := goodIn_r _ [5, 6, 7, 8, 9, 10, 11, 12, 13, 14, 15, 16, 17, 18, 19, 20, 21, 22, 23, 24, 25, 26, 27, 28, 29, 30, 31, 32, 33, 34, 35, 36, 37, 38, 39, 40, 415, 416, 417, 418, 419, 420, 421, 422, 423, 424, 425, 426, 427, 428] (by decide +kernel) (by decide +kernel)
set_option maxRecDepth 20000 in
theorem gL_alike_X5_errorPosition : GoodIn wsL_alike (wsV RL 176 RX5 yX5_errorPosition wsX5_errorPosition) := goodIn_app (goodIn_of _ (by decide +kernel)) ggL_alike_X5_errorPosition
set_option maxRecDepth 20000 in
theorem ggL_alike_X5_branches : GoodIn wsL_alike wsX5_branches := goodIn_r _ [44, 6, 45, 46, 7, 8, 9, 10, 11, 12, 13, 14, 15, 16, 17, 18, 19, 20, 21, 22, 23, 24, 25, 26, 27, 28, 29, 30, 31, 32, 33, 34, 35, 36, 37, 38, 39, 40, 415, 416, 417, 418, 419, 420, 421, 422, 423, 424, 425, 426, 427, 428] (by decide +kernel) (by decide +kernel)
set_option maxRecDepth 20000 in
theorem gL_alike_X5_branches : GoodIn wsL_alike (wsV RL 179 RX5 yX5_branches wsX5_branches) := goodIn_app (goodIn_of _ (by decide +kernel)) ggL_alike_X5_branches
set_option maxRecDepth 20000 in
theorem ggL_alike_X5_wouldBring : GoodIn wsL_alike wsX5_wouldBring := goodIn_r _ [50, 6, 45, 51, 52, 53, 54, 55, 56, 10, 57, 17, 12, 58, 8, 9, 11, 13, 14, 15, 16, 18, 19, 20, 21, 22, 23, 24, 25, 26, 27, 28, 29, 30, 31, 32, 33, 34, 35, 36, 37, 38, 39, 40, 59, 60, 61, 62, 63, 64, 65, 66, 67, 68, 69, 70, 71, 72, 73, 74, 75, 76, 77, 78, 79, 80, 81, 82, 83, 84, 85, 86, 87, 88, 89, 90, 91, 92, 93, 94, 95, 96, 97, 98, 99, 100, 101, 102, 103, 104, 105, 106, 107, 108, 109, 110, 111, 112, 113, 114, 115, 116, 117, 118, 119, 120, 121, 122, 123, 124, 125, 126, 127, 128, 129, 130, 131, 132, 133, 134, 135, 136, 137, 138, 139, 140, 141, 142, 143, 144, 415, 416, 417, 418, 419, 420, 429, 430, 431, 432, 433, 434, 435, 436, 437, 438, 439, 421, 422, 423, 424, 425, 426, 427, 428, 440, 441, 442, 443, 444, 445, 446, 447] (by decide +kernel) (by decide +kernel)
set_option maxRecDepth 20000 in
theorem gL_alike_X5_wouldBring : GoodIn wsL_alike (wsV RL 182 RX5 yX5_wouldBring wsX5_wouldBring) := goodIn_app (goodIn_of _ (by decide +kernel)) ggL_alike_X5_wouldBring
set_option maxRecDepth 20000 in
theorem ggL_alike_X5_worst : GoodIn wsL_alike wsX5_worst := goodIn_r _ [148, 45, 52, 149, 150, 415, 416, 417, 418, 419, 420, 429, 430, 431, 432, 433, 434, 435, 436, 437, 438, 439] (by decide +kernel) (by decide +kernel)
set_option maxRecDepth 20000 in
theorem gL_alike_X5_worst : GoodIn wsL_alike (wsV RL 185 RX5 yX5_worst wsX5_worst) := goodIn_app (goodIn_of _ (by decide +kernel)) ggL_alike_X5_worst
set_option maxRecDepth 20000 in
theorem ggL_alike_L_call : GoodIn wsL_alike wsL_call := goodIn_ca (goodIn_ca (goodIn_ca (gI_cons (gI_one (List.mem_of_getElem? (i := 154) rfl) rfl) (goodIn_app (goodIn_app (goodIn_app (goodIn_app (goodIn_app (goodIn_app (goodIn_r wsL_call_r1 [155, 156, 153, 157, 158, 159, 160, 161, 162, 163, 164, 4, 165, 166, 167, 168, 169, 6, 170, 171, 172, 173, 10, 174] (by decide +kernel) (by decide +kernel)) (goodIn_app (goodIn_r wsL_call_r2 [15, 16, 175, 176, 177, 178, 179, 180, 181, 52, 182, 183, 53, 184, 185, 186, 187, 188, 189, 190, 191, 192, 193, 194] (by decide +kernel) (by decide +kernel)) (goodIn_app (goodIn_r wsL_call_r3 [195, 196, 197, 198, 199, 200, 201, 202, 203, 204, 205, 206, 207, 208, 209, 210, 82, 211, 88, 212, 213, 214, 215, 216] (by decide +kernel) (by decide +kernel)) (goodIn_app (goodIn_r wsL_call_r4 [217, 218, 219, 220, 221, 222, 223, 224, 225, 226, 227, 228, 229, 62, 230, 64, 231, 232, 233, 234, 235, 236, 237, 149] (by decide +kernel) (by decide +kernel)) (goodIn_app (goodIn_r wsL_call_r5 [238, 150, 239, 240, 241, 242, 243, 244, 245, 246, 247, 248, 249, 70, 103, 104, 105, 106, 69, 107, 108, 109, 110, 111] (by decide +kernel) (by decide +kernel)) (goodIn_app (goodIn_r wsL_call_r6 [84, 112, 113, 114, 115, 90, 250, 251, 252, 253, 254, 255, 256, 257, 258, 259, 260, 261, 262, 263, 264, 265, 132, 133] (by decide +kernel) (by decide +kernel)) (goodIn_app (goodIn_r wsL_call_r7 [134, 266, 267, 268, 269, 270, 271, 272, 45, 273, 274, 275, 276, 277, 278, 279, 280, 281, 282, 283, 284, 285, 286, 287] (by decide +kernel) (by decide +kernel)) (goodIn_app (goodIn_r wsL_call_r8 [288, 289, 290, 291, 292, 293, 294, 295, 296, 297, 60, 61, 63, 65, 66, 67, 68, 71, 72, 73, 74, 75, 76, 77] (by decide +kernel) (by decide +kernel)) (goodIn_app (goodIn_r wsL_call_r9 [78, 79, 80, 81, 83, 85, 86, 87, 89, 91, 92, 298, 299, 300, 301, 302, 303, 304, 305, 306, 307, 308, 309, 310] (by decide +kernel) (by decide +kernel)) (goodIn_app (goodIn_r wsL_call_r10 [311, 312, 313, 314, 315, 316, 317, 318, 319, 320, 321, 322, 323, 324, 325, 326, 327, 328, 329, 330, 331, 332, 333, 334] (by decide +kernel) (by decide +kernel)) (goodIn_app (goodIn_r wsL_call_r11 [335, 336, 337, 338, 339, 340, 341, 342, 343, 344, 345, 346, 347, 348, 349, 350, 54, 55, 56, 57, 17, 12, 58, 8] (by decide +kernel) (by decide +kernel)) (goodIn_app (goodIn_r wsL_call_r12 [9, 11, 13, 14, 18, 19, 20, 21, 22, 23, 24, 25, 26, 27, 28, 29, 30, 31, 32, 33, 34, 35, 36, 37] (by decide +kernel) (by decide +kernel)) (goodIn_app (goodIn_r wsL_call_r13 [38, 39, 40, 93, 94, 95, 96, 97, 98, 99, 100, 101, 102, 116, 117, 118, 119, 120, 121, 122, 123, 124, 125, 126] (by decide +kernel) (by decide +kernel)) (goodIn_app (goodIn_r wsL_call_r14 [127, 128, 129, 130, 131, 135, 136, 137, 138, 139, 140, 141, 142, 143, 144, 351, 352, 353, 354, 355, 356, 357, 358, 359] (by decide +kernel) (by decide +kernel)) (goodIn_app (goodIn_r wsL_call_r15 [360, 361, 362, 363, 364, 365, 366, 367, 368, 369, 370, 371, 372, 373, 51, 59, 374, 375, 376, 377, 378, 379, 380, 381] (by decide +kernel) (by decide +kernel)) (goodIn_app (goodIn_r wsL_call_r16 [382, 383, 384, 385, 386, 387, 388, 389, 390, 391, 392, 393, 394, 395, 396, 397, 398, 399, 400, 401, 402, 403, 404, 405] (by decide +kernel) (by decide +kernel)) (goodIn_r wsL_call_r17 [406, 407, 408, 409, 410, 411, 412, 413, 414] (by decide +kernel) (by decide +kernel)))))))))))))))))) (goodIn_r wsX50 [415, 416, 417, 418, 419, 420] (by decide +kernel) (by decide +kernel))) (goodIn_r wsX40 [421, 422, 423, 424, 425, 426, 427, 428] (by decide +kernel) (by decide +kernel))) (goodIn_r wsX30 [429, 430, 431, 432, 433, 434, 435, 436, 437, 438, 439] (by decide +kernel) (by decide +kernel))) (goodIn_r wsX00 [440, 441, 442, 443, 444, 445, 446, 447] (by decide +kernel) (by decide +kernel))) (goodIn_r wsX10 [448, 449, 450] (by decide +kernel) (by decide +kernel)))) (goodIn_sub (fun _ h => List.mem_cons_of_mem _ (List.mem_append_left _ (List.mem_append_left _ (List.mem_append_right _ h)))) (by decide +kernel))) (goodIn_sub (fun _ h => List.mem_cons_of_mem _ (List.mem_append_left _ (List.mem_append_right _ h))) (by decide +kernel))) (goodIn_sub (fun _ h => List.mem_cons_of_mem _ (List.mem_append_right _ h)) (by decide +kernel))
set_option maxRecDepth 20000 in
theorem gL_alike_L_call : GoodIn wsL_alike (va_wsS RL 156 yL_call wsL_call) := goodIn_app (goodIn_of _ (by decide +kernel)) ggL_alike_L_call
theorem dL_alike_0 : decode cL_alike 0 = .ok (.aload_n 0, 1) := by decide +kernel
theorem dL_alike_1 : decode cL_alike 1 = .ok (.invokevirtual 176, 3) := by decide +kernel
theorem dL_alike_4 : decode cL_alike 4 = .ok (.aload_n 1, 1) := by decide +kernel
theorem dL_alike_5 : decode cL_alike 5 = .ok (.invokevirtual 176, 3) := by decide +kernel
theorem dL_alike_8 : decode cL_alike 8 = .ok (.if_icmp .ne 90, 3) := by decide +kernel
theorem dL_alike_11 : decode cL_alike 11 = .ok (.aload_n 0, 1) := by decide +kernel
theorem dL_alike_12 : decode cL_alike 12 = .ok (.invokevirtual 179, 3) := by decide +kernel
theorem dL_alike_15 : decode cL_alike 15 = .ok (.aload_n 1, 1) := by decide +kernel
theorem dL_alike_16 : decode cL_alike 16 = .ok (.invokevirtual 179, 3) := by decide +kernel
theorem dL_alike_19 : decode cL_alike 19 = .ok (.if_icmp .ne 79, 3) := by decide +kernel
theorem dL_alike_22 : decode cL_alike 22 = .ok (.aload_n 0, 1) := by decide +kernel
theorem dL_alike_23 : decode cL_alike 23 = .ok (.invokevirtual 182, 3) := by decide +kernel
theorem dL_alike_26 : decode cL_alike 26 = .ok (.aload_n 1, 1) := by decide +kernel
theorem dL_alike_27 : decode cL_alike 27 = .ok (.invokevirtual 182, 3) := by decide +kernel
theorem dL_alike_30 : decode cL_alike 30 = .ok (.if_icmp .ne 68, 3) := by decide +kernel
theorem dL_alike_33 : decode cL_alike 33 = .ok (.aload_n 0, 1) := by decide +kernel
theorem dL_alike_34 : decode cL_alike 34 = .ok (.invokevirtual 185, 3) := by decide +kernel
theorem dL_alike_37 : decode cL_alike 37 = .ok (.aload_n 1, 1) := by decide +kernel
theorem dL_alike_38 : decode cL_alike 38 = .ok (.invokevirtual 185, 3) := by decide +kernel
theorem dL_alike_41 : decode cL_alike 41 = .ok (.if_icmp .ne 57, 3) := by decide +kernel
theorem dL_alike_44 : decode cL_alike 44 = .ok (.aload_n 0, 1) := by decide +kernel
theorem dL_alike_45 : decode cL_alike 45 = .ok (.bipush 13, 2) := by decide +kernel
theorem dL_alike_47 : decode cL_alike 47 = .ok (.iload_n 2, 1) := by decide +kernel
theorem dL_alike_48 : decode cL_alike 48 = .ok (.iconst 2, 1) := by decide +kernel
theorem dL_alike_49 : decode cL_alike 49 = .ok (.irem, 1) := by decide +kernel
theorem dL_alike_50 : decode cL_alike 50 = .ok (.iconst 0, 1) := by decide +kernel
theorem dL_alike_51 : decode cL_alike 51 = .ok (.iconst 0, 1) := by decide +kernel
theorem dL_alike_52 : decode cL_alike 52 = .ok (.invokestatic 156, 3) := by decide +kernel
theorem dL_alike_55 : decode cL_alike 55 = .ok (.aload_n 1, 1) := by decide +kernel
theorem dL_alike_56 : decode cL_alike 56 = .ok (.bipush 13, 2) := by decide +kernel
theorem dL_alike_58 : decode cL_alike 58 = .ok (.iload_n 2, 1) := by decide +kernel
theorem dL_alike_59 : decode cL_alike 59 = .ok (.iconst 2, 1) := by decide +kernel
theorem dL_alike_60 : decode cL_alike 60 = .ok (.irem, 1) := by decide +kernel
theorem dL_alike_61 : decode cL_alike 61 = .ok (.iconst 0, 1) := by decide +kernel
theorem dL_alike_62 : decode cL_alike 62 = .ok (.iconst 0, 1) := by decide +kernel
theorem dL_alike_63 : decode cL_alike 63 = .ok (.invokestatic 156, 3) := by decide +kernel
theorem dL_alike_66 : decode cL_alike 66 = .ok (.if_icmp .ne 32, 3) := by decide +kernel
theorem dL_alike_69 : decode cL_alike 69 = .ok (.aload_n 0, 1) := by decide +kernel
theorem dL_alike_70 : decode cL_alike 70 = .ok (.bipush 14, 2) := by decide +kernel
theorem dL_alike_72 : decode cL_alike 72 = .ok (.iload_n 2, 1) := by decide +kernel
theorem dL_alike_73 : decode cL_alike 73 = .ok (.iconst 2, 1) := by decide +kernel
theorem dL_alike_74 : decode cL_alike 74 = .ok (.irem, 1) := by decide +kernel
theorem dL_alike_75 : decode cL_alike 75 = .ok (.iconst 0, 1) := by decide +kernel
theorem dL_alike_76 : decode cL_alike 76 = .ok (.iconst 0, 1) := by decide +kernel
theorem dL_alike_77 : decode cL_alike 77 = .ok (.invokestatic 156, 3) := by decide +kernel
theorem dL_alike_80 : decode cL_alike 80 = .ok (.aload_n 1, 1) := by decide +kernel
theorem dL_alike_81 : decode cL_alike 81 = .ok (.bipush 14, 2) := by decide +kernel
theorem dL_alike_83 : decode cL_alike 83 = .ok (.iload_n 2, 1) := by decide +kernel
theorem dL_alike_84 : decode cL_alike 84 = .ok (.iconst 2, 1) := by decide +kernel
theorem dL_alike_85 : decode cL_alike 85 = .ok (.irem, 1) := by decide +kernel
theorem dL_alike_86 : decode cL_alike 86 = .ok (.iconst 0, 1) := by decide +kernel
theorem dL_alike_87 : decode cL_alike 87 = .ok (.iconst 0, 1) := by decide +kernel
theorem dL_alike_88 : decode cL_alike 88 = .ok (.invokestatic 156, 3) := by decide +kernel
theorem dL_alike_91 : decode cL_alike 91 = .ok (.if_icmp .ne 7, 3) := by decide +kernel
theorem dL_alike_94 : decode cL_alike 94 = .ok (.iconst 1, 1) := by decide +kernel
theorem dL_alike_95 : decode cL_alike 95 = .ok (.goto 4, 3) := by decide +kernel
theorem dL_alike_98 : decode cL_alike 98 = .ok (.iconst 0, 1) := by decide +kernel
theorem dL_alike_99 : decode cL_alike 99 = .ok (.istore_n 3, 1) := by decide +kernel
theorem dL_alike_100 : decode cL_alike 100 = .ok (.iconst 0, 1) := by decide +kernel
theorem dL_alike_101 : decode cL_alike 101 = .ok (.istore 4, 2) := by decide +kernel
theorem dL_alike_103 : decode cL_alike 103 = .ok (.iload 4, 2) := by decide +kernel
theorem dL_alike_105 : decode cL_alike 105 = .ok (.bipush 10, 2) := by decide +kernel
theorem dL_alike_107 : decode cL_alike 107 = .ok (.if_icmp .ge 69, 3) := by decide +kernel
theorem dL_alike_110 : decode cL_alike 110 = .ok (.iload_n 3, 1) := by decide +kernel
theorem dL_alike_111 : decode cL_alike 111 = .ok (.ifCond .eq 65, 3) := by decide +kernel
theorem dL_alike_114 : decode cL_alike 114 = .ok (.aload_n 0, 1) := by decide +kernel
theorem dL_alike_115 : decode cL_alike 115 = .ok (.iconst 1, 1) := by decide +kernel
theorem dL_alike_116 : decode cL_alike 116 = .ok (.iload 4, 2) := by decide +kernel
theorem dL_alike_118 : decode cL_alike 118 = .ok (.iconst 0, 1) := by decide +kernel
theorem dL_alike_119 : decode cL_alike 119 = .ok (.iconst 0, 1) := by decide +kernel
theorem dL_alike_120 : decode cL_alike 120 = .ok (.invokestatic 156, 3) := by decide +kernel
theorem dL_alike_123 : decode cL_alike 123 = .ok (.aload_n 1, 1) := by decide +kernel
theorem dL_alike_124 : decode cL_alike 124 = .ok (.iconst 1, 1) := by decide +kernel
theorem dL_alike_125 : decode cL_alike 125 = .ok (.iload 4, 2) := by decide +kernel
theorem dL_alike_127 : decode cL_alike 127 = .ok (.iconst 0, 1) := by decide +kernel
theorem dL_alike_128 : decode cL_alike 128 = .ok (.iconst 0, 1) := by decide +kernel
theorem dL_alike_129 : decode cL_alike 129 = .ok (.invokestatic 156, 3) := by decide +kernel
theorem dL_alike_132 : decode cL_alike 132 = .ok (.if_icmp .ne 36, 3) := by decide +kernel
theorem dL_alike_135 : decode cL_alike 135 = .ok (.aload_n 0, 1) := by decide +kernel
theorem dL_alike_136 : decode cL_alike 136 = .ok (.iconst 2, 1) := by decide +kernel
theorem dL_alike_137 : decode cL_alike 137 = .ok (.iload_n 2, 1) := by decide +kernel
theorem dL_alike_138 : decode cL_alike 138 = .ok (.iconst 2, 1) := by decide +kernel
theorem dL_alike_139 : decode cL_alike 139 = .ok (.irem, 1) := by decide +kernel
theorem dL_alike_140 : decode cL_alike 140 = .ok (.iload 4, 2) := by decide +kernel
theorem dL_alike_142 : decode cL_alike 142 = .ok (.iconst 5, 1) := by decide +kernel
theorem dL_alike_143 : decode cL_alike 143 = .ok (.irem, 1) := by decide +kernel
theorem dL_alike_144 : decode cL_alike 144 = .ok (.iconst 0, 1) := by decide +kernel
theorem dL_alike_145 : decode cL_alike 145 = .ok (.invokestatic 156, 3) := by decide +kernel
theorem dL_alike_148 : decode cL_alike 148 = .ok (.aload_n 1, 1) := by decide +kernel
theorem dL_alike_149 : decode cL_alike 149 = .ok (.iconst 2, 1) := by decide +kernel
theorem dL_alike_150 : decode cL_alike 150 = .ok (.iload_n 2, 1) := by decide +kernel
theorem dL_alike_151 : decode cL_alike 151 = .ok (.iconst 2, 1) := by decide +kernel
theorem dL_alike_152 : decode cL_alike 152 = .ok (.irem, 1) := by decide +kernel
theorem dL_alike_153 : decode cL_alike 153 = .ok (.iload 4, 2) := by decide +kernel
theorem dL_alike_155 : decode cL_alike 155 = .ok (.iconst 5, 1) := by decide +kernel
theorem dL_alike_156 : decode cL_alike 156 = .ok (.irem, 1) := by decide +kernel
theorem dL_alike_157 : decode cL_alike 157 = .ok (.iconst 0, 1) := by decide +kernel
theorem dL_alike_158 : decode cL_alike 158 = .ok (.invokestatic 156, 3) := by decide +kernel
theorem dL_alike_161 : decode cL_alike 161 = .ok (.if_icmp .ne 7, 3) := by decide +kernel
theorem dL_alike_164 : decode cL_alike 164 = .ok (.iconst 1, 1) := by decide +kernel
theorem dL_alike_165 : decode cL_alike 165 = .ok (.goto 4, 3) := by decide +kernel
theorem dL_alike_168 : decode cL_alike 168 = .ok (.iconst 0, 1) := by decide +kernel
theorem dL_alike_169 : decode cL_alike 169 = .ok (.istore_n 3, 1) := by decide +kernel
theorem dL_alike_170 : decode cL_alike 170 = .ok (.iinc 4 1, 3) := by decide +kernel
theorem dL_alike_173 : decode cL_alike 173 = .ok (.goto (-70), 3) := by decide +kernel
theorem dL_alike_176 : decode cL_alike 176 = .ok (.iconst 0, 1) := by decide +kernel
theorem dL_alike_177 : decode cL_alike 177 = .ok (.istore 4, 2) := by decide +kernel
theorem dL_alike_179 : decode cL_alike 179 = .ok (.iload 4, 2) := by decide +kernel
theorem dL_alike_181 : decode cL_alike 181 = .ok (.bipush 26, 2) := by decide +kernel
theorem dL_alike_183 : decode cL_alike 183 = .ok (.if_icmp .ge 117, 3) := by decide +kernel
theorem dL_alike_186 : decode cL_alike 186 = .ok (.iload_n 3, 1) := by decide +kernel
theorem dL_alike_187 : decode cL_alike 187 = .ok (.ifCond .eq 113, 3) := by decide +kernel
theorem dL_alike_190 : decode cL_alike 190 = .ok (.aload_n 0, 1) := by decide +kernel
theorem dL_alike_191 : decode cL_alike 191 = .ok (.iconst 4, 1) := by decide +kernel
theorem dL_alike_192 : decode cL_alike 192 = .ok (.iload 4, 2) := by decide +kernel
theorem dL_alike_194 : decode cL_alike 194 = .ok (.iload_n 2, 1) := by decide +kernel
theorem dL_alike_195 : decode cL_alike 195 = .ok (.iconst 5, 1) := by decide +kernel
theorem dL_alike_196 : decode cL_alike 196 = .ok (.irem, 1) := by decide +kernel
theorem dL_alike_197 : decode cL_alike 197 = .ok (.iconst 0, 1) := by decide +kernel
theorem dL_alike_198 : decode cL_alike 198 = .ok (.invokestatic 156, 3) := by decide +kernel
theorem dL_alike_201 : decode cL_alike 201 = .ok (.aload_n 1, 1) := by decide +kernel
theorem dL_alike_202 : decode cL_alike 202 = .ok (.iconst 4, 1) := by decide +kernel
theorem dL_alike_203 : decode cL_alike 203 = .ok (.iload 4, 2) := by decide +kernel
theorem dL_alike_205 : decode cL_alike 205 = .ok (.iload_n 2, 1) := by decide +kernel
theorem dL_alike_206 : decode cL_alike 206 = .ok (.iconst 5, 1) := by decide +kernel
theorem dL_alike_207 : decode cL_alike 207 = .ok (.irem, 1) := by decide +kernel
theorem dL_alike_208 : decode cL_alike 208 = .ok (.iconst 0, 1) := by decide +kernel
theorem dL_alike_209 : decode cL_alike 209 = .ok (.invokestatic 156, 3) := by decide +kernel
theorem dL_alike_212 : decode cL_alike 212 = .ok (.if_icmp .ne 80, 3) := by decide +kernel
theorem dL_alike_215 : decode cL_alike 215 = .ok (.aload_n 0, 1) := by decide +kernel
theorem dL_alike_216 : decode cL_alike 216 = .ok (.bipush 6, 2) := by decide +kernel
theorem dL_alike_218 : decode cL_alike 218 = .ok (.iload_n 2, 1) := by decide +kernel
theorem dL_alike_219 : decode cL_alike 219 = .ok (.iconst 2, 1) := by decide +kernel
theorem dL_alike_220 : decode cL_alike 220 = .ok (.irem, 1) := by decide +kernel
theorem dL_alike_221 : decode cL_alike 221 = .ok (.iload 4, 2) := by decide +kernel
theorem dL_alike_223 : decode cL_alike 223 = .ok (.iconst 0, 1) := by decide +kernel
theorem dL_alike_224 : decode cL_alike 224 = .ok (.invokestatic 156, 3) := by decide +kernel
theorem dL_alike_227 : decode cL_alike 227 = .ok (.aload_n 1, 1) := by decide +kernel
theorem dL_alike_228 : decode cL_alike 228 = .ok (.bipush 6, 2) := by decide +kernel
theorem dL_alike_230 : decode cL_alike 230 = .ok (.iload_n 2, 1) := by decide +kernel
theorem dL_alike_231 : decode cL_alike 231 = .ok (.iconst 2, 1) := by decide +kernel
theorem dL_alike_232 : decode cL_alike 232 = .ok (.irem, 1) := by decide +kernel
theorem dL_alike_233 : decode cL_alike 233 = .ok (.iload 4, 2) := by decide +kernel
theorem dL_alike_235 : decode cL_alike 235 = .ok (.iconst 0, 1) := by decide +kernel
theorem dL_alike_236 : decode cL_alike 236 = .ok (.invokestatic 156, 3) := by decide +kernel
theorem dL_alike_239 : decode cL_alike 239 = .ok (.if_icmp .ne 53, 3) := by decide +kernel
theorem dL_alike_242 : decode cL_alike 242 = .ok (.aload_n 0, 1) := by decide +kernel
theorem dL_alike_243 : decode cL_alike 243 = .ok (.bipush 7, 2) := by decide +kernel
theorem dL_alike_245 : decode cL_alike 245 = .ok (.iload 4, 2) := by decide +kernel
theorem dL_alike_247 : decode cL_alike 247 = .ok (.iconst 0, 1) := by decide +kernel
theorem dL_alike_248 : decode cL_alike 248 = .ok (.iconst 0, 1) := by decide +kernel
theorem dL_alike_249 : decode cL_alike 249 = .ok (.invokestatic 156, 3) := by decide +kernel
theorem dL_alike_252 : decode cL_alike 252 = .ok (.aload_n 1, 1) := by decide +kernel
theorem dL_alike_253 : decode cL_alike 253 = .ok (.bipush 7, 2) := by decide +kernel
theorem dL_alike_255 : decode cL_alike 255 = .ok (.iload 4, 2) := by decide +kernel
theorem dL_alike_257 : decode cL_alike 257 = .ok (.iconst 0, 1) := by decide +kernel
theorem dL_alike_258 : decode cL_alike 258 = .ok (.iconst 0, 1) := by decide +kernel
theorem dL_alike_259 : decode cL_alike 259 = .ok (.invokestatic 156, 3) := by decide +kernel
theorem dL_alike_262 : decode cL_alike 262 = .ok (.if_icmp .ne 30, 3) := by decide +kernel
theorem dL_alike_265 : decode cL_alike 265 = .ok (.aload_n 0, 1) := by decide +kernel
theorem dL_alike_266 : decode cL_alike 266 = .ok (.bipush 16, 2) := by decide +kernel
theorem dL_alike_268 : decode cL_alike 268 = .ok (.iload 4, 2) := by decide +kernel
theorem dL_alike_270 : decode cL_alike 270 = .ok (.iconst 0, 1) := by decide +kernel
theorem dL_alike_271 : decode cL_alike 271 = .ok (.iconst 0, 1) := by decide +kernel
theorem dL_alike_272 : decode cL_alike 272 = .ok (.invokestatic 156, 3) := by decide +kernel
theorem dL_alike_275 : decode cL_alike 275 = .ok (.aload_n 1, 1) := by decide +kernel
theorem dL_alike_276 : decode cL_alike 276 = .ok (.bipush 16, 2) := by decide +kernel
theorem dL_alike_278 : decode cL_alike 278 = .ok (.iload 4, 2) := by decide +kernel
theorem dL_alike_280 : decode cL_alike 280 = .ok (.iconst 0, 1) := by decide +kernel
theorem dL_alike_281 : decode cL_alike 281 = .ok (.iconst 0, 1) := by decide +kernel
theorem dL_alike_282 : decode cL_alike 282 = .ok (.invokestatic 156, 3) := by decide +kernel
theorem dL_alike_285 : decode cL_alike 285 = .ok (.if_icmp .ne 7, 3) := by decide +kernel
theorem dL_alike_288 : decode cL_alike 288 = .ok (.iconst 1, 1) := by decide +kernel
theorem dL_alike_289 : decode cL_alike 289 = .ok (.goto 4, 3) := by decide +kernel
theorem dL_alike_292 : decode cL_alike 292 = .ok (.iconst 0, 1) := by decide +kernel
theorem dL_alike_293 : decode cL_alike 293 = .ok (.istore_n 3, 1) := by decide +kernel
theorem dL_alike_294 : decode cL_alike 294 = .ok (.iinc 4 1, 3) := by decide +kernel
theorem dL_alike_297 : decode cL_alike 297 = .ok (.goto (-118), 3) := by decide +kernel
theorem dL_alike_300 : decode cL_alike 300 = .ok (.iconst 0, 1) := by decide +kernel
theorem dL_alike_301 : decode cL_alike 301 = .ok (.istore 4, 2) := by decide +kernel
theorem dL_alike_303 : decode cL_alike 303 = .ok (.iload 4, 2) := by decide +kernel
theorem dL_alike_305 : decode cL_alike 305 = .ok (.iconst 4, 1) := by decide +kernel
theorem dL_alike_306 : decode cL_alike 306 = .ok (.if_icmp .ge 52, 3) := by decide +kernel
theorem dL_alike_309 : decode cL_alike 309 = .ok (.iload_n 3, 1) := by decide +kernel
theorem dL_alike_310 : decode cL_alike 310 = .ok (.ifCond .eq 48, 3) := by decide +kernel
theorem dL_alike_313 : decode cL_alike 313 = .ok (.aload_n 0, 1) := by decide +kernel
theorem dL_alike_314 : decode cL_alike 314 = .ok (.iconst 3, 1) := by decide +kernel
theorem dL_alike_315 : decode cL_alike 315 = .ok (.iload_n 2, 1) := by decide +kernel
theorem dL_alike_316 : decode cL_alike 316 = .ok (.iconst 2, 1) := by decide +kernel
theorem dL_alike_317 : decode cL_alike 317 = .ok (.irem, 1) := by decide +kernel
theorem dL_alike_318 : decode cL_alike 318 = .ok (.iload 4, 2) := by decide +kernel
theorem dL_alike_320 : decode cL_alike 320 = .ok (.iload_n 2, 1) := by decide +kernel
theorem dL_alike_321 : decode cL_alike 321 = .ok (.iconst 2, 1) := by decide +kernel
theorem dL_alike_322 : decode cL_alike 322 = .ok (.idiv, 1) := by decide +kernel
theorem dL_alike_323 : decode cL_alike 323 = .ok (.iconst 4, 1) := by decide +kernel
theorem dL_alike_324 : decode cL_alike 324 = .ok (.irem, 1) := by decide +kernel
theorem dL_alike_325 : decode cL_alike 325 = .ok (.invokestatic 156, 3) := by decide +kernel
theorem dL_alike_328 : decode cL_alike 328 = .ok (.aload_n 1, 1) := by decide +kernel
theorem dL_alike_329 : decode cL_alike 329 = .ok (.iconst 3, 1) := by decide +kernel
theorem dL_alike_330 : decode cL_alike 330 = .ok (.iload_n 2, 1) := by decide +kernel
theorem dL_alike_331 : decode cL_alike 331 = .ok (.iconst 2, 1) := by decide +kernel
theorem dL_alike_332 : decode cL_alike 332 = .ok (.irem, 1) := by decide +kernel
theorem dL_alike_333 : decode cL_alike 333 = .ok (.iload 4, 2) := by decide +kernel
theorem dL_alike_335 : decode cL_alike 335 = .ok (.iload_n 2, 1) := by decide +kernel
theorem dL_alike_336 : decode cL_alike 336 = .ok (.iconst 2, 1) := by decide +kernel
theorem dL_alike_337 : decode cL_alike 337 = .ok (.idiv, 1) := by decide +kernel
theorem dL_alike_338 : decode cL_alike 338 = .ok (.iconst 4, 1) := by decide +kernel
theorem dL_alike_339 : decode cL_alike 339 = .ok (.irem, 1) := by decide +kernel
theorem dL_alike_340 : decode cL_alike 340 = .ok (.invokestatic 156, 3) := by decide +kernel
theorem dL_alike_343 : decode cL_alike 343 = .ok (.if_icmp .ne 7, 3) := by decide +kernel
theorem dL_alike_346 : decode cL_alike 346 = .ok (.iconst 1, 1) := by decide +kernel
theorem dL_alike_347 : decode cL_alike 347 = .ok (.goto 4, 3) := by decide +kernel
theorem dL_alike_350 : decode cL_alike 350 = .ok (.iconst 0, 1) := by decide +kernel
theorem dL_alike_351 : decode cL_alike 351 = .ok (.istore_n 3, 1) := by decide +kernel
theorem dL_alike_352 : decode cL_alike 352 = .ok (.iinc 4 1, 3) := by decide +kernel
theorem dL_alike_355 : decode cL_alike 355 = .ok (.goto (-52), 3) := by decide +kernel
theorem dL_alike_358 : decode cL_alike 358 = .ok (.iload_n 3, 1) := by decide +kernel
theorem dL_alike_359 : decode cL_alike 359 = .ok (.ireturn, 1) := by decide +kernel
