set_option maxRecDepth 20000 in
theorem ggL_holds_L_call : GoodIn wsL_holds wsL_call := goodIn_ca (goodIn_ca (goodIn_ca (gI_cons (gI_one (List.mem_of_getElem? (i := 7) rfl) rfl) (goodIn_app (goodIn_app (goodIn_app (goodIn_app (goodIn_app (goodIn_app (goodIn_r wsL_call_r1 [8, 9, 6, 10, 11, 12, 13, 3, 14, 15, 16, 17, 18, 19, 20, 21, 22, 23, 24, 25, 26, 27, 28, 29] (by decide +kernel) (by decide +kernel)) (goodIn_app (goodIn_r wsL_call_r2 [30, 31, 32, 33, 34, 35, 36, 37, 38, 39, 40, 41, 42, 43, 44, 45, 46, 47, 48, 49, 50, 51, 52, 53] (by decide +kernel) (by decide +kernel)) (goodIn_app (goodIn_r wsL_call_r3 [54, 55, 56, 57, 58, 59, 60, 61, 62, 63, 64, 65, 66, 67, 68, 69, 70, 71, 72, 73, 74, 75, 76, 77] (by decide +kernel) (by decide +kernel)) (goodIn_app (goodIn_r wsL_call_r4 [78, 79, 80, 81, 82, 83, 84, 85, 86, 87, 88, 89, 90, 91, 92, 93, 94, 95, 96, 97, 98, 99, 100, 101] (by decide +kernel) (by decide +kernel)) (goodIn_app (goodIn_r wsL_call_r5 [102, 103, 104, 105, 106, 107, 108, 109, 110, 111, 112, 113, 114, 115, 116, 117, 118, 119, 120, 121, 122, 123, 124, 125] (by decide +kernel) (by decide +kernel)) (goodIn_app (goodIn_r wsL_call_r6 [126, 127, 128, 129, 130, 131, 132, 133, 134, 135, 136, 137, 138, 139, 140, 141, 142, 143, 144, 145, 146, 147, 148, 149] (by decide +kernel) (by decide +kernel)) (goodIn_app (goodIn_r wsL_call_r7 [150, 151, 152, 153, 154, 155, 156, 157, 158, 159, 160, 161, 162, 163, 164, 165, 166, 167, 168, 169, 170, 171, 172, 173] (by decide +kernel) (by decide +kernel)) (goodIn_app (goodIn_r wsL_call_r8 [174, 175, 176, 177, 178, 179, 180, 181, 182, 183, 184, 185, 186, 187, 188, 189, 190, 191, 192, 193, 194, 195, 196, 197] (by decide +kernel) (by decide +kernel)) (goodIn_app (goodIn_r wsL_call_r9 [198, 199, 200, 201, 202, 203, 204, 205, 206, 207, 208, 209, 210, 211, 212, 213, 214, 215, 216, 217, 218, 219, 220, 221] (by decide +kernel) (by decide +kernel)) (goodIn_app (goodIn_r wsL_call_r10 [222, 223, 224, 225, 226, 227, 228, 229, 230, 231, 232, 233, 234, 235, 236, 237, 238, 239, 240, 241, 242, 243, 244, 245] (by decide +kernel) (by decide +kernel)) (goodIn_app (goodIn_r wsL_call_r11 [246, 247, 248, 249, 250, 251, 252, 253, 254, 255, 256, 257, 258, 259, 260, 261, 262, 263, 264, 265, 266, 267, 268, 269] (by decide +kernel) (by decide +kernel)) (goodIn_app (goodIn_r wsL_call_r12 [270, 271, 272, 273, 274, 275, 276, 277, 278, 279, 280, 281, 282, 283, 284, 285, 286, 287, 288, 289, 290, 291, 292, 293] (by decide +kernel) (by decide +kernel)) (goodIn_app (goodIn_r wsL_call_r13 [294, 295, 296, 297, 298, 299, 300, 301, 302, 303, 304, 305, 306, 307, 308, 309, 310, 311, 312, 313, 314, 315, 316, 317] (by decide +kernel) (by decide +kernel)) (goodIn_app (goodIn_r wsL_call_r14 [318, 319, 320, 321, 322, 323, 324, 325, 326, 327, 328, 329, 330, 331, 332, 333, 334, 335, 336, 337, 338, 339, 340, 341] (by decide +kernel) (by decide +kernel)) (goodIn_app (goodIn_r wsL_call_r15 [342, 343, 344, 345, 346, 347, 348, 349, 350, 351, 352, 353, 354, 355, 356, 357, 358, 359, 360, 361, 362, 363, 364, 365] (by decide +kernel) (by decide +kernel)) (goodIn_app (goodIn_r wsL_call_r16 [366, 367, 368, 369, 370, 371, 372, 373, 374, 375, 376, 377, 378, 379, 380, 381, 382, 383, 384, 385, 386, 387, 388, 389] (by decide +kernel) (by decide +kernel)) (goodIn_r wsL_call_r17 [390, 391, 392, 393, 394, 395, 396, 397, 398] (by decide +kernel) (by decide +kernel)))))))))))))))))) (goodIn_r wsX50 [416, 417, 418, 419, 420, 421] (by decide +kernel) (by decide +kernel))) (goodIn_r wsX40 [422, 423, 424, 425, 426, 427, 428, 429] (by decide +kernel) (by decide +kernel))) (goodIn_r wsX30 [430, 431, 432, 433, 434, 435, 436, 437, 438, 439, 440] (by decide +kernel) (by decide +kernel))) (goodIn_r wsX00 [441, 442, 443, 444, 445, 446, 447, 448] (by decide +kernel) (by decide +kernel))) (goodIn_r wsX10 [449, 450, 451] (by decide +kernel) (by decide +kernel)))) (goodIn_sub (fun _ h => List.mem_cons_of_mem _ (List.mem_append_left _ (List.mem_append_left _ (List.mem_append_right _ h)))) (by decide +kernel))) (goodIn_sub (fun _ h => List.mem_cons_of_mem _ (List.mem_append_left _ (List.mem_append_right _ h))) (by decide +kernel))) (goodIn_sub (fun _ h => List.mem_cons_of_mem _ (List.mem_append_right _ h)) (by decide +kernel))
set_option maxRecDepth 20000 in
theorem gL_holds_L_call : GoodIn wsL_holds (va_wsS RL 156 yL_call wsL_call) := goodIn_app (goodIn_of _ (by decide +kernel)) ggL_holds_L_call
set_option maxRecDepth 20000 in
theorem ggL_holds_L_tryGo : GoodIn wsL_holds wsL_tryGo := goodIn_ca (goodIn_r _ [401, 51, 52, 402, 403, 404, 17, 405, 170, 39, 105, 106, 107, 62, 63, 108, 109, 110, 175, 176, 177, 178, 179, 180, 181, 182, 183, 184, 185, 91, 186, 93, 187, 188, 189, 190, 120, 115, 191, 192, 193, 194, 195, 196, 197, 198, 199, 200, 201, 70, 202, 126, 203, 204, 205, 72, 206, 131, 207, 208, 379, 304, 305, 306, 116, 117, 118, 119, 121, 122, 123, 124, 125, 127, 128, 129, 130, 307, 308, 309, 310, 311, 312, 313, 314, 315, 316, 317, 318, 319, 320, 321, 322, 148, 149, 150, 323, 324, 325, 326, 327, 328, 329, 330, 331, 332, 416, 417, 418, 419, 420, 421, 449, 450, 451, 430, 431, 432, 433, 434, 435, 436, 437, 438, 439, 440, 441, 442, 443, 444, 445, 446, 447, 448] (by decide +kernel) (by decide +kernel)) (goodIn_sub (fun _ h => List.mem_cons_of_mem _ (List.mem_append_right _ h)) (by decide +kernel))
set_option maxRecDepth 20000 in
theorem gL_holds_L_tryGo : GoodIn wsL_holds (va_wsS RL 160 yL_tryGo wsL_tryGo) := goodIn_app (goodIn_of _ (by decide +kernel)) ggL_holds_L_tryGo
set_option maxRecDepth 20000 in
theorem ggL_holds_X5_wouldBring : GoodIn wsL_holds wsX5_wouldBring := goodIn_r _ [409, 23, 158, 356, 39, 42, 262, 263, 264, 28, 265, 266, 267, 268, 269, 270, 271, 272, 273, 30, 31, 274, 275, 276, 277, 278, 279, 280, 281, 282, 283, 284, 285, 286, 287, 288, 289, 290, 291, 292, 293, 294, 295, 296, 357, 184, 185, 91, 186, 93, 187, 188, 189, 190, 120, 115, 191, 192, 193, 194, 195, 196, 197, 198, 199, 200, 201, 70, 202, 126, 203, 204, 205, 72, 206, 131, 207, 208, 297, 298, 299, 300, 301, 302, 303, 304, 305, 306, 116, 117, 118, 119, 121, 122, 123, 124, 125, 127, 128, 129, 130, 307, 308, 309, 310, 311, 312, 313, 314, 315, 316, 317, 318, 319, 320, 321, 322, 148, 149, 150, 323, 324, 325, 326, 327, 328, 329, 330, 331, 332, 416, 417, 418, 419, 420, 421, 430, 431, 432, 433, 434, 435, 436, 437, 438, 439, 440, 422, 423, 424, 425, 426, 427, 428, 429, 441, 442, 443, 444, 445, 446, 447, 448] (by decide +kernel) (by decide +kernel)
set_option maxRecDepth 20000 in
theorem gL_holds_X5_wouldBring : GoodIn wsL_holds (wsV RL 182 RX5 yX5_wouldBring wsX5_wouldBring) := goodIn_app (goodIn_of _ (by decide +kernel)) ggL_holds_X5_wouldBring
set_option maxRecDepth 20000 in
theorem ggL_holds_X5_branches : GoodIn wsL_holds wsX5_branches := goodIn_r _ [413, 23, 158, 414, 415, 269, 270, 28, 271, 267, 272, 273, 30, 31, 266, 274, 275, 276, 277, 278, 279, 280, 281, 282, 283, 284, 285, 286, 287, 288, 289, 290, 291, 292, 293, 294, 295, 296, 416, 417, 418, 419, 420, 421, 422, 423, 424, 425, 426, 427, 428, 429] (by decide +kernel) (by decide +kernel)
set_option maxRecDepth 20000 in
theorem gL_holds_X5_branches : GoodIn wsL_holds (wsV RL 179 RX5 yX5_branches wsX5_branches) := goodIn_app (goodIn_of _ (by decide +kernel)) ggL_holds_X5_branches
theorem dL_holds_0 : decode cL_holds 0 = .ok (.iconst 0, 1) := by decide +kernel
theorem dL_holds_1 : decode cL_holds 1 = .ok (.istore_n 2, 1) := by decide +kernel
theorem dL_holds_2 : decode cL_holds 2 = .ok (.iconst 0, 1) := by decide +kernel
theorem dL_holds_3 : decode cL_holds 3 = .ok (.istore_n 3, 1) := by decide +kernel
theorem dL_holds_4 : decode cL_holds 4 = .ok (.iconst 1, 1) := by decide +kernel
theorem dL_holds_5 : decode cL_holds 5 = .ok (.istore 4, 2) := by decide +kernel
theorem dL_holds_7 : decode cL_holds 7 = .ok (.iconst 0, 1) := by decide +kernel
theorem dL_holds_8 : decode cL_holds 8 = .ok (.istore 5, 2) := by decide +kernel
theorem dL_holds_10 : decode cL_holds 10 = .ok (.iload 5, 2) := by decide +kernel
theorem dL_holds_12 : decode cL_holds 12 = .ok (.bipush 26, 2) := by decide +kernel
theorem dL_holds_14 : decode cL_holds 14 = .ok (.if_icmp .ge 172, 3) := by decide +kernel
theorem dL_holds_17 : decode cL_holds 17 = .ok (.iload 4, 2) := by decide +kernel
theorem dL_holds_19 : decode cL_holds 19 = .ok (.ifCond .eq 167, 3) := by decide +kernel
theorem dL_holds_22 : decode cL_holds 22 = .ok (.aload_n 0, 1) := by decide +kernel
theorem dL_holds_23 : decode cL_holds 23 = .ok (.iconst 4, 1) := by decide +kernel
theorem dL_holds_24 : decode cL_holds 24 = .ok (.iload 5, 2) := by decide +kernel
theorem dL_holds_26 : decode cL_holds 26 = .ok (.iconst 0, 1) := by decide +kernel
theorem dL_holds_27 : decode cL_holds 27 = .ok (.iconst 0, 1) := by decide +kernel
theorem dL_holds_28 : decode cL_holds 28 = .ok (.invokestatic 156, 3) := by decide +kernel
theorem dL_holds_31 : decode cL_holds 31 = .ok (.istore 6, 2) := by decide +kernel
theorem dL_holds_33 : decode cL_holds 33 = .ok (.aload_n 0, 1) := by decide +kernel
theorem dL_holds_34 : decode cL_holds 34 = .ok (.iconst 4, 1) := by decide +kernel
theorem dL_holds_35 : decode cL_holds 35 = .ok (.iload 5, 2) := by decide +kernel
theorem dL_holds_37 : decode cL_holds 37 = .ok (.iconst 1, 1) := by decide +kernel
theorem dL_holds_38 : decode cL_holds 38 = .ok (.iconst 0, 1) := by decide +kernel
theorem dL_holds_39 : decode cL_holds 39 = .ok (.invokestatic 156, 3) := by decide +kernel
theorem dL_holds_42 : decode cL_holds 42 = .ok (.istore 7, 2) := by decide +kernel
theorem dL_holds_44 : decode cL_holds 44 = .ok (.aload_n 0, 1) := by decide +kernel
theorem dL_holds_45 : decode cL_holds 45 = .ok (.iconst 4, 1) := by decide +kernel
theorem dL_holds_46 : decode cL_holds 46 = .ok (.iload 5, 2) := by decide +kernel
theorem dL_holds_48 : decode cL_holds 48 = .ok (.iconst 2, 1) := by decide +kernel
theorem dL_holds_49 : decode cL_holds 49 = .ok (.iconst 0, 1) := by decide +kernel
theorem dL_holds_50 : decode cL_holds 50 = .ok (.invokestatic 156, 3) := by decide +kernel
theorem dL_holds_53 : decode cL_holds 53 = .ok (.istore 8, 2) := by decide +kernel
theorem dL_holds_55 : decode cL_holds 55 = .ok (.iload_n 2, 1) := by decide +kernel
theorem dL_holds_56 : decode cL_holds 56 = .ok (.iload 6, 2) := by decide +kernel
theorem dL_holds_58 : decode cL_holds 58 = .ok (.iadd, 1) := by decide +kernel
theorem dL_holds_59 : decode cL_holds 59 = .ok (.istore_n 2, 1) := by decide +kernel
theorem dL_holds_60 : decode cL_holds 60 = .ok (.iload_n 3, 1) := by decide +kernel
theorem dL_holds_61 : decode cL_holds 61 = .ok (.iload 8, 2) := by decide +kernel
theorem dL_holds_63 : decode cL_holds 63 = .ok (.iadd, 1) := by decide +kernel
theorem dL_holds_64 : decode cL_holds 64 = .ok (.istore_n 3, 1) := by decide +kernel
theorem dL_holds_65 : decode cL_holds 65 = .ok (.iload 7, 2) := by decide +kernel
theorem dL_holds_67 : decode cL_holds 67 = .ok (.ifCond .lt 110, 3) := by decide +kernel
theorem dL_holds_70 : decode cL_holds 70 = .ok (.iload 7, 2) := by decide +kernel
theorem dL_holds_72 : decode cL_holds 72 = .ok (.iload 6, 2) := by decide +kernel
theorem dL_holds_74 : decode cL_holds 74 = .ok (.if_icmp .gt 103, 3) := by decide +kernel
theorem dL_holds_77 : decode cL_holds 77 = .ok (.iload 8, 2) := by decide +kernel
theorem dL_holds_79 : decode cL_holds 79 = .ok (.iload 6, 2) := by decide +kernel
theorem dL_holds_81 : decode cL_holds 81 = .ok (.if_icmp .gt 96, 3) := by decide +kernel
theorem dL_holds_84 : decode cL_holds 84 = .ok (.iload 6, 2) := by decide +kernel
theorem dL_holds_86 : decode cL_holds 86 = .ok (.ifCond .ne 21, 3) := by decide +kernel
theorem dL_holds_89 : decode cL_holds 89 = .ok (.aload_n 0, 1) := by decide +kernel
theorem dL_holds_90 : decode cL_holds 90 = .ok (.bipush 7, 2) := by decide +kernel
theorem dL_holds_92 : decode cL_holds 92 = .ok (.iload 5, 2) := by decide +kernel
theorem dL_holds_94 : decode cL_holds 94 = .ok (.iconst 0, 1) := by decide +kernel
theorem dL_holds_95 : decode cL_holds 95 = .ok (.iconst 0, 1) := by decide +kernel
theorem dL_holds_96 : decode cL_holds 96 = .ok (.invokestatic 156, 3) := by decide +kernel
theorem dL_holds_99 : decode cL_holds 99 = .ok (.ldc 188, 2) := by decide +kernel
theorem dL_holds_101 : decode cL_holds 101 = .ok (.if_icmp .ne 76, 3) := by decide +kernel
theorem dL_holds_104 : decode cL_holds 104 = .ok (.goto 69, 3) := by decide +kernel
theorem dL_holds_107 : decode cL_holds 107 = .ok (.aload_n 0, 1) := by decide +kernel
theorem dL_holds_108 : decode cL_holds 108 = .ok (.bipush 7, 2) := by decide +kernel
theorem dL_holds_110 : decode cL_holds 110 = .ok (.iload 5, 2) := by decide +kernel
theorem dL_holds_112 : decode cL_holds 112 = .ok (.iconst 0, 1) := by decide +kernel
theorem dL_holds_113 : decode cL_holds 113 = .ok (.iconst 0, 1) := by decide +kernel
theorem dL_holds_114 : decode cL_holds 114 = .ok (.invokestatic 156, 3) := by decide +kernel
theorem dL_holds_117 : decode cL_holds 117 = .ok (.ifCond .ne 7, 3) := by decide +kernel
theorem dL_holds_120 : decode cL_holds 120 = .ok (.iconst 1, 1) := by decide +kernel
theorem dL_holds_121 : decode cL_holds 121 = .ok (.goto 4, 3) := by decide +kernel
theorem dL_holds_124 : decode cL_holds 124 = .ok (.iconst 0, 1) := by decide +kernel
theorem dL_holds_125 : decode cL_holds 125 = .ok (.iload 7, 2) := by decide +kernel
theorem dL_holds_127 : decode cL_holds 127 = .ok (.ifCond .ne 7, 3) := by decide +kernel
theorem dL_holds_130 : decode cL_holds 130 = .ok (.iconst 1, 1) := by decide +kernel
theorem dL_holds_131 : decode cL_holds 131 = .ok (.goto 4, 3) := by decide +kernel
theorem dL_holds_134 : decode cL_holds 134 = .ok (.iconst 0, 1) := by decide +kernel
theorem dL_holds_135 : decode cL_holds 135 = .ok (.if_icmp .ne 42, 3) := by decide +kernel
theorem dL_holds_138 : decode cL_holds 138 = .ok (.aload_n 0, 1) := by decide +kernel
theorem dL_holds_139 : decode cL_holds 139 = .ok (.bipush 7, 2) := by decide +kernel
theorem dL_holds_141 : decode cL_holds 141 = .ok (.iload 5, 2) := by decide +kernel
theorem dL_holds_143 : decode cL_holds 143 = .ok (.iconst 0, 1) := by decide +kernel
theorem dL_holds_144 : decode cL_holds 144 = .ok (.iconst 0, 1) := by decide +kernel
theorem dL_holds_145 : decode cL_holds 145 = .ok (.invokestatic 156, 3) := by decide +kernel
theorem dL_holds_148 : decode cL_holds 148 = .ok (.ldc 189, 2) := by decide +kernel
theorem dL_holds_150 : decode cL_holds 150 = .ok (.if_icmp .ne 7, 3) := by decide +kernel
theorem dL_holds_153 : decode cL_holds 153 = .ok (.iconst 1, 1) := by decide +kernel
theorem dL_holds_154 : decode cL_holds 154 = .ok (.goto 4, 3) := by decide +kernel
theorem dL_holds_157 : decode cL_holds 157 = .ok (.iconst 0, 1) := by decide +kernel
theorem dL_holds_158 : decode cL_holds 158 = .ok (.iload 7, 2) := by decide +kernel
theorem dL_holds_160 : decode cL_holds 160 = .ok (.iload 6, 2) := by decide +kernel
theorem dL_holds_162 : decode cL_holds 162 = .ok (.if_icmp .ne 7, 3) := by decide +kernel
theorem dL_holds_165 : decode cL_holds 165 = .ok (.iconst 1, 1) := by decide +kernel
theorem dL_holds_166 : decode cL_holds 166 = .ok (.goto 4, 3) := by decide +kernel
theorem dL_holds_169 : decode cL_holds 169 = .ok (.iconst 0, 1) := by decide +kernel
theorem dL_holds_170 : decode cL_holds 170 = .ok (.if_icmp .ne 7, 3) := by decide +kernel
theorem dL_holds_173 : decode cL_holds 173 = .ok (.iconst 1, 1) := by decide +kernel
theorem dL_holds_174 : decode cL_holds 174 = .ok (.goto 4, 3) := by decide +kernel
theorem dL_holds_177 : decode cL_holds 177 = .ok (.iconst 0, 1) := by decide +kernel
theorem dL_holds_178 : decode cL_holds 178 = .ok (.istore 4, 2) := by decide +kernel
theorem dL_holds_180 : decode cL_holds 180 = .ok (.iinc 5 1, 3) := by decide +kernel
theorem dL_holds_183 : decode cL_holds 183 = .ok (.goto (-173), 3) := by decide +kernel
theorem dL_holds_186 : decode cL_holds 186 = .ok (.iload 4, 2) := by decide +kernel
theorem dL_holds_188 : decode cL_holds 188 = .ok (.ifCond .eq 90, 3) := by decide +kernel
theorem dL_holds_191 : decode cL_holds 191 = .ok (.aload_n 0, 1) := by decide +kernel
theorem dL_holds_192 : decode cL_holds 192 = .ok (.iconst 1, 1) := by decide +kernel
theorem dL_holds_193 : decode cL_holds 193 = .ok (.iconst 0, 1) := by decide +kernel
theorem dL_holds_194 : decode cL_holds 194 = .ok (.iconst 0, 1) := by decide +kernel
theorem dL_holds_195 : decode cL_holds 195 = .ok (.iconst 0, 1) := by decide +kernel
theorem dL_holds_196 : decode cL_holds 196 = .ok (.invokestatic 156, 3) := by decide +kernel
theorem dL_holds_199 : decode cL_holds 199 = .ok (.iload_n 2, 1) := by decide +kernel
theorem dL_holds_200 : decode cL_holds 200 = .ok (.if_icmp .ne 78, 3) := by decide +kernel
theorem dL_holds_203 : decode cL_holds 203 = .ok (.aload_n 0, 1) := by decide +kernel
theorem dL_holds_204 : decode cL_holds 204 = .ok (.iconst 1, 1) := by decide +kernel
theorem dL_holds_205 : decode cL_holds 205 = .ok (.iconst 1, 1) := by decide +kernel
theorem dL_holds_206 : decode cL_holds 206 = .ok (.iconst 0, 1) := by decide +kernel
theorem dL_holds_207 : decode cL_holds 207 = .ok (.iconst 0, 1) := by decide +kernel
theorem dL_holds_208 : decode cL_holds 208 = .ok (.invokestatic 156, 3) := by decide +kernel
theorem dL_holds_211 : decode cL_holds 211 = .ok (.iload_n 3, 1) := by decide +kernel
theorem dL_holds_212 : decode cL_holds 212 = .ok (.if_icmp .ne 66, 3) := by decide +kernel
theorem dL_holds_215 : decode cL_holds 215 = .ok (.aload_n 0, 1) := by decide +kernel
theorem dL_holds_216 : decode cL_holds 216 = .ok (.iconst 1, 1) := by decide +kernel
theorem dL_holds_217 : decode cL_holds 217 = .ok (.iconst 2, 1) := by decide +kernel
theorem dL_holds_218 : decode cL_holds 218 = .ok (.iconst 0, 1) := by decide +kernel
theorem dL_holds_219 : decode cL_holds 219 = .ok (.iconst 0, 1) := by decide +kernel
theorem dL_holds_220 : decode cL_holds 220 = .ok (.invokestatic 156, 3) := by decide +kernel
theorem dL_holds_223 : decode cL_holds 223 = .ok (.iload_n 3, 1) := by decide +kernel
theorem dL_holds_224 : decode cL_holds 224 = .ok (.aload_n 0, 1) := by decide +kernel
theorem dL_holds_225 : decode cL_holds 225 = .ok (.iconst 1, 1) := by decide +kernel
theorem dL_holds_226 : decode cL_holds 226 = .ok (.bipush 9, 2) := by decide +kernel
theorem dL_holds_228 : decode cL_holds 228 = .ok (.iconst 0, 1) := by decide +kernel
theorem dL_holds_229 : decode cL_holds 229 = .ok (.iconst 0, 1) := by decide +kernel
theorem dL_holds_230 : decode cL_holds 230 = .ok (.invokestatic 156, 3) := by decide +kernel
theorem dL_holds_233 : decode cL_holds 233 = .ok (.iload_n 2, 1) := by decide +kernel
theorem dL_holds_234 : decode cL_holds 234 = .ok (.iload_n 3, 1) := by decide +kernel
theorem dL_holds_235 : decode cL_holds 235 = .ok (.isub, 1) := by decide +kernel
theorem dL_holds_236 : decode cL_holds 236 = .ok (.imul, 1) := by decide +kernel
theorem dL_holds_237 : decode cL_holds 237 = .ok (.isub, 1) := by decide +kernel
theorem dL_holds_238 : decode cL_holds 238 = .ok (.if_icmp .ne 40, 3) := by decide +kernel
theorem dL_holds_241 : decode cL_holds 241 = .ok (.aload_n 0, 1) := by decide +kernel
theorem dL_holds_242 : decode cL_holds 242 = .ok (.iconst 1, 1) := by decide +kernel
theorem dL_holds_243 : decode cL_holds 243 = .ok (.iconst 5, 1) := by decide +kernel
theorem dL_holds_244 : decode cL_holds 244 = .ok (.iconst 0, 1) := by decide +kernel
theorem dL_holds_245 : decode cL_holds 245 = .ok (.iconst 0, 1) := by decide +kernel
theorem dL_holds_246 : decode cL_holds 246 = .ok (.invokestatic 156, 3) := by decide +kernel
theorem dL_holds_249 : decode cL_holds 249 = .ok (.aload_n 0, 1) := by decide +kernel
theorem dL_holds_250 : decode cL_holds 250 = .ok (.iconst 1, 1) := by decide +kernel
theorem dL_holds_251 : decode cL_holds 251 = .ok (.bipush 6, 2) := by decide +kernel
theorem dL_holds_253 : decode cL_holds 253 = .ok (.iconst 0, 1) := by decide +kernel
theorem dL_holds_254 : decode cL_holds 254 = .ok (.iconst 0, 1) := by decide +kernel
theorem dL_holds_255 : decode cL_holds 255 = .ok (.invokestatic 156, 3) := by decide +kernel
theorem dL_holds_258 : decode cL_holds 258 = .ok (.if_icmp .gt 20, 3) := by decide +kernel
theorem dL_holds_261 : decode cL_holds 261 = .ok (.aload_n 0, 1) := by decide +kernel
theorem dL_holds_262 : decode cL_holds 262 = .ok (.iconst 1, 1) := by decide +kernel
theorem dL_holds_263 : decode cL_holds 263 = .ok (.bipush 6, 2) := by decide +kernel
theorem dL_holds_265 : decode cL_holds 265 = .ok (.iconst 0, 1) := by decide +kernel
theorem dL_holds_266 : decode cL_holds 266 = .ok (.iconst 0, 1) := by decide +kernel
theorem dL_holds_267 : decode cL_holds 267 = .ok (.invokestatic 156, 3) := by decide +kernel
theorem dL_holds_270 : decode cL_holds 270 = .ok (.iload_n 3, 1) := by decide +kernel
theorem dL_holds_271 : decode cL_holds 271 = .ok (.if_icmp .gt 7, 3) := by decide +kernel
theorem dL_holds_274 : decode cL_holds 274 = .ok (.iconst 1, 1) := by decide +kernel
theorem dL_holds_275 : decode cL_holds 275 = .ok (.goto 4, 3) := by decide +kernel
theorem dL_holds_278 : decode cL_holds 278 = .ok (.iconst 0, 1) := by decide +kernel
theorem dL_holds_279 : decode cL_holds 279 = .ok (.istore 4, 2) := by decide +kernel
theorem dL_holds_281 : decode cL_holds 281 = .ok (.iconst 0, 1) := by decide +kernel
theorem dL_holds_282 : decode cL_holds 282 = .ok (.istore 5, 2) := by decide +kernel
theorem dL_holds_284 : decode cL_holds 284 = .ok (.iload 5, 2) := by decide +kernel
theorem dL_holds_286 : decode cL_holds 286 = .ok (.iconst 2, 1) := by decide +kernel
theorem dL_holds_287 : decode cL_holds 287 = .ok (.if_icmp .ge 166, 3) := by decide +kernel
theorem dL_holds_290 : decode cL_holds 290 = .ok (.iload 4, 2) := by decide +kernel
theorem dL_holds_292 : decode cL_holds 292 = .ok (.ifCond .eq 161, 3) := by decide +kernel
theorem dL_holds_295 : decode cL_holds 295 = .ok (.iconst 0, 1) := by decide +kernel
theorem dL_holds_296 : decode cL_holds 296 = .ok (.istore 6, 2) := by decide +kernel
theorem dL_holds_298 : decode cL_holds 298 = .ok (.iconst 0, 1) := by decide +kernel
theorem dL_holds_299 : decode cL_holds 299 = .ok (.istore 7, 2) := by decide +kernel
theorem dL_holds_301 : decode cL_holds 301 = .ok (.iconst 0, 1) := by decide +kernel
theorem dL_holds_302 : decode cL_holds 302 = .ok (.istore 8, 2) := by decide +kernel
theorem dL_holds_304 : decode cL_holds 304 = .ok (.iconst 0, 1) := by decide +kernel
theorem dL_holds_305 : decode cL_holds 305 = .ok (.istore 9, 2) := by decide +kernel
theorem dL_holds_307 : decode cL_holds 307 = .ok (.iload 9, 2) := by decide +kernel
theorem dL_holds_309 : decode cL_holds 309 = .ok (.iconst 1, 1) := by decide +kernel
theorem dL_holds_310 : decode cL_holds 310 = .ok (.aload_n 0, 1) := by decide +kernel
theorem dL_holds_311 : decode cL_holds 311 = .ok (.iconst 1, 1) := by decide +kernel
theorem dL_holds_312 : decode cL_holds 312 = .ok (.bipush 7, 2) := by decide +kernel
theorem dL_holds_314 : decode cL_holds 314 = .ok (.iconst 0, 1) := by decide +kernel
theorem dL_holds_315 : decode cL_holds 315 = .ok (.iconst 0, 1) := by decide +kernel
theorem dL_holds_316 : decode cL_holds 316 = .ok (.invokestatic 156, 3) := by decide +kernel
theorem dL_holds_319 : decode cL_holds 319 = .ok (.ishl, 1) := by decide +kernel
theorem dL_holds_320 : decode cL_holds 320 = .ok (.if_icmp .ge 58, 3) := by decide +kernel
theorem dL_holds_323 : decode cL_holds 323 = .ok (.aload_n 0, 1) := by decide +kernel
theorem dL_holds_324 : decode cL_holds 324 = .ok (.iconst 3, 1) := by decide +kernel
theorem dL_holds_325 : decode cL_holds 325 = .ok (.iload 5, 2) := by decide +kernel
theorem dL_holds_327 : decode cL_holds 327 = .ok (.iload 9, 2) := by decide +kernel
theorem dL_holds_329 : decode cL_holds 329 = .ok (.iconst 2, 1) := by decide +kernel
theorem dL_holds_330 : decode cL_holds 330 = .ok (.invokestatic 156, 3) := by decide +kernel
theorem dL_holds_333 : decode cL_holds 333 = .ok (.istore 10, 2) := by decide +kernel
theorem dL_holds_335 : decode cL_holds 335 = .ok (.iload 6, 2) := by decide +kernel
theorem dL_holds_337 : decode cL_holds 337 = .ok (.iload 10, 2) := by decide +kernel
theorem dL_holds_339 : decode cL_holds 339 = .ok (.iadd, 1) := by decide +kernel
theorem dL_holds_340 : decode cL_holds 340 = .ok (.istore 6, 2) := by decide +kernel
theorem dL_holds_342 : decode cL_holds 342 = .ok (.iload 8, 2) := by decide +kernel
theorem dL_holds_344 : decode cL_holds 344 = .ok (.iload 10, 2) := by decide +kernel
theorem dL_holds_346 : decode cL_holds 346 = .ok (.ifCond .le 7, 3) := by decide +kernel
theorem dL_holds_349 : decode cL_holds 349 = .ok (.iconst 1, 1) := by decide +kernel
theorem dL_holds_350 : decode cL_holds 350 = .ok (.goto 4, 3) := by decide +kernel
theorem dL_holds_353 : decode cL_holds 353 = .ok (.iconst 0, 1) := by decide +kernel
theorem dL_holds_354 : decode cL_holds 354 = .ok (.iadd, 1) := by decide +kernel
theorem dL_holds_355 : decode cL_holds 355 = .ok (.istore 8, 2) := by decide +kernel
theorem dL_holds_357 : decode cL_holds 357 = .ok (.iload 7, 2) := by decide +kernel
theorem dL_holds_359 : decode cL_holds 359 = .ok (.aload_n 0, 1) := by decide +kernel
theorem dL_holds_360 : decode cL_holds 360 = .ok (.iconst 3, 1) := by decide +kernel
theorem dL_holds_361 : decode cL_holds 361 = .ok (.iload 5, 2) := by decide +kernel
theorem dL_holds_363 : decode cL_holds 363 = .ok (.iload 9, 2) := by decide +kernel
theorem dL_holds_365 : decode cL_holds 365 = .ok (.iconst 3, 1) := by decide +kernel
theorem dL_holds_366 : decode cL_holds 366 = .ok (.invokestatic 156, 3) := by decide +kernel
theorem dL_holds_369 : decode cL_holds 369 = .ok (.iadd, 1) := by decide +kernel
theorem dL_holds_370 : decode cL_holds 370 = .ok (.istore 7, 2) := by decide +kernel
theorem dL_holds_372 : decode cL_holds 372 = .ok (.iinc 9 1, 3) := by decide +kernel
theorem dL_holds_375 : decode cL_holds 375 = .ok (.goto (-68), 3) := by decide +kernel
theorem dL_holds_378 : decode cL_holds 378 = .ok (.iload 6, 2) := by decide +kernel
theorem dL_holds_380 : decode cL_holds 380 = .ok (.iload_n 2, 1) := by decide +kernel
theorem dL_holds_381 : decode cL_holds 381 = .ok (.if_icmp .ne 63, 3) := by decide +kernel
theorem dL_holds_384 : decode cL_holds 384 = .ok (.iload 7, 2) := by decide +kernel
theorem dL_holds_386 : decode cL_holds 386 = .ok (.aload_n 0, 1) := by decide +kernel
theorem dL_holds_387 : decode cL_holds 387 = .ok (.iconst 2, 1) := by decide +kernel
theorem dL_holds_388 : decode cL_holds 388 = .ok (.iload 5, 2) := by decide +kernel
theorem dL_holds_390 : decode cL_holds 390 = .ok (.iconst 3, 1) := by decide +kernel
theorem dL_holds_391 : decode cL_holds 391 = .ok (.iconst 0, 1) := by decide +kernel
theorem dL_holds_392 : decode cL_holds 392 = .ok (.invokestatic 156, 3) := by decide +kernel
theorem dL_holds_395 : decode cL_holds 395 = .ok (.if_icmp .ne 49, 3) := by decide +kernel
theorem dL_holds_398 : decode cL_holds 398 = .ok (.iload 8, 2) := by decide +kernel
theorem dL_holds_400 : decode cL_holds 400 = .ok (.aload_n 0, 1) := by decide +kernel
theorem dL_holds_401 : decode cL_holds 401 = .ok (.iconst 2, 1) := by decide +kernel
theorem dL_holds_402 : decode cL_holds 402 = .ok (.iload 5, 2) := by decide +kernel
theorem dL_holds_404 : decode cL_holds 404 = .ok (.iconst 4, 1) := by decide +kernel
theorem dL_holds_405 : decode cL_holds 405 = .ok (.iconst 0, 1) := by decide +kernel
theorem dL_holds_406 : decode cL_holds 406 = .ok (.invokestatic 156, 3) := by decide +kernel
theorem dL_holds_409 : decode cL_holds 409 = .ok (.if_icmp .ne 35, 3) := by decide +kernel
theorem dL_holds_412 : decode cL_holds 412 = .ok (.aload_n 0, 1) := by decide +kernel
theorem dL_holds_413 : decode cL_holds 413 = .ok (.iconst 1, 1) := by decide +kernel
theorem dL_holds_414 : decode cL_holds 414 = .ok (.iconst 3, 1) := by decide +kernel
theorem dL_holds_415 : decode cL_holds 415 = .ok (.iload 5, 2) := by decide +kernel
theorem dL_holds_417 : decode cL_holds 417 = .ok (.iadd, 1) := by decide +kernel
theorem dL_holds_418 : decode cL_holds 418 = .ok (.iconst 0, 1) := by decide +kernel
theorem dL_holds_419 : decode cL_holds 419 = .ok (.iconst 0, 1) := by decide +kernel
theorem dL_holds_420 : decode cL_holds 420 = .ok (.invokestatic 156, 3) := by decide +kernel
theorem dL_holds_423 : decode cL_holds 423 = .ok (.iload_n 2, 1) := by decide +kernel
theorem dL_holds_424 : decode cL_holds 424 = .ok (.iload 8, 2) := by decide +kernel
theorem dL_holds_426 : decode cL_holds 426 = .ok (.if_icmp .le 10, 3) := by decide +kernel
theorem dL_holds_429 : decode cL_holds 429 = .ok (.iload_n 2, 1) := by decide +kernel
theorem dL_holds_430 : decode cL_holds 430 = .ok (.iload 8, 2) := by decide +kernel
theorem dL_holds_432 : decode cL_holds 432 = .ok (.isub, 1) := by decide +kernel
theorem dL_holds_433 : decode cL_holds 433 = .ok (.goto 4, 3) := by decide +kernel
theorem dL_holds_436 : decode cL_holds 436 = .ok (.iconst 0, 1) := by decide +kernel
theorem dL_holds_437 : decode cL_holds 437 = .ok (.if_icmp .gt 7, 3) := by decide +kernel
theorem dL_holds_440 : decode cL_holds 440 = .ok (.iconst 1, 1) := by decide +kernel
theorem dL_holds_441 : decode cL_holds 441 = .ok (.goto 4, 3) := by decide +kernel
theorem dL_holds_444 : decode cL_holds 444 = .ok (.iconst 0, 1) := by decide +kernel
theorem dL_holds_445 : decode cL_holds 445 = .ok (.istore 4, 2) := by decide +kernel
theorem dL_holds_447 : decode cL_holds 447 = .ok (.iinc 5 1, 3) := by decide +kernel
theorem dL_holds_450 : decode cL_holds 450 = .ok (.goto (-166), 3) := by decide +kernel
theorem dL_holds_453 : decode cL_holds 453 = .ok (.iload_n 1, 1) := by decide +kernel
theorem dL_holds_454 : decode cL_holds 454 = .ok (.bipush 26, 2) := by decide +kernel
theorem dL_holds_456 : decode cL_holds 456 = .ok (.irem, 1) := by decide +kernel
theorem dL_holds_457 : decode cL_holds 457 = .ok (.istore 5, 2) := by decide +kernel
theorem dL_holds_459 : decode cL_holds 459 = .ok (.aload_n 0, 1) := by decide +kernel
theorem dL_holds_460 : decode cL_holds 460 = .ok (.iconst 4, 1) := by decide +kernel
theorem dL_holds_461 : decode cL_holds 461 = .ok (.iload 5, 2) := by decide +kernel
theorem dL_holds_463 : decode cL_holds 463 = .ok (.iconst 4, 1) := by decide +kernel
theorem dL_holds_464 : decode cL_holds 464 = .ok (.iconst 0, 1) := by decide +kernel
theorem dL_holds_465 : decode cL_holds 465 = .ok (.invokestatic 156, 3) := by decide +kernel
theorem dL_holds_468 : decode cL_holds 468 = .ok (.istore 6, 2) := by decide +kernel
theorem dL_holds_470 : decode cL_holds 470 = .ok (.aload_n 0, 1) := by decide +kernel
theorem dL_holds_471 : decode cL_holds 471 = .ok (.bipush 16, 2) := by decide +kernel
theorem dL_holds_473 : decode cL_holds 473 = .ok (.iload 5, 2) := by decide +kernel
theorem dL_holds_475 : decode cL_holds 475 = .ok (.iconst 0, 1) := by decide +kernel
theorem dL_holds_476 : decode cL_holds 476 = .ok (.iconst 0, 1) := by decide +kernel
theorem dL_holds_477 : decode cL_holds 477 = .ok (.invokestatic 156, 3) := by decide +kernel
theorem dL_holds_480 : decode cL_holds 480 = .ok (.istore 7, 2) := by decide +kernel
theorem dL_holds_482 : decode cL_holds 482 = .ok (.iload 7, 2) := by decide +kernel
theorem dL_holds_484 : decode cL_holds 484 = .ok (.bipush 6, 2) := by decide +kernel
theorem dL_holds_486 : decode cL_holds 486 = .ok (.if_icmp .ge 135, 3) := by decide +kernel
theorem dL_holds_489 : decode cL_holds 489 = .ok (.iload 4, 2) := by decide +kernel
theorem dL_holds_491 : decode cL_holds 491 = .ok (.ifCond .eq 130, 3) := by decide +kernel
theorem dL_holds_494 : decode cL_holds 494 = .ok (.iconst 0, 1) := by decide +kernel
theorem dL_holds_495 : decode cL_holds 495 = .ok (.istore 8, 2) := by decide +kernel
theorem dL_holds_497 : decode cL_holds 497 = .ok (.iload 8, 2) := by decide +kernel
theorem dL_holds_499 : decode cL_holds 499 = .ok (.iload 7, 2) := by decide +kernel
theorem dL_holds_501 : decode cL_holds 501 = .ok (.if_icmp .ge 54, 3) := by decide +kernel
theorem dL_holds_504 : decode cL_holds 504 = .ok (.iload 4, 2) := by decide +kernel
theorem dL_holds_506 : decode cL_holds 506 = .ok (.ifCond .eq 49, 3) := by decide +kernel
theorem dL_holds_509 : decode cL_holds 509 = .ok (.aload_n 0, 1) := by decide +kernel
theorem dL_holds_510 : decode cL_holds 510 = .ok (.iconst 4, 1) := by decide +kernel
theorem dL_holds_511 : decode cL_holds 511 = .ok (.iload 5, 2) := by decide +kernel
theorem dL_holds_513 : decode cL_holds 513 = .ok (.iconst 4, 1) := by decide +kernel
theorem dL_holds_514 : decode cL_holds 514 = .ok (.iconst 0, 1) := by decide +kernel
theorem dL_holds_515 : decode cL_holds 515 = .ok (.invokestatic 156, 3) := by decide +kernel
theorem dL_holds_518 : decode cL_holds 518 = .ok (.iload 6, 2) := by decide +kernel
theorem dL_holds_520 : decode cL_holds 520 = .ok (.if_icmp .ne 26, 3) := by decide +kernel
theorem dL_holds_523 : decode cL_holds 523 = .ok (.aload_n 0, 1) := by decide +kernel
theorem dL_holds_524 : decode cL_holds 524 = .ok (.iload 5, 2) := by decide +kernel
theorem dL_holds_526 : decode cL_holds 526 = .ok (.iload 6, 2) := by decide +kernel
theorem dL_holds_528 : decode cL_holds 528 = .ok (.ifCond .ne 7, 3) := by decide +kernel
theorem dL_holds_531 : decode cL_holds 531 = .ok (.iconst 1, 1) := by decide +kernel
theorem dL_holds_532 : decode cL_holds 532 = .ok (.goto 4, 3) := by decide +kernel
theorem dL_holds_535 : decode cL_holds 535 = .ok (.iconst 0, 1) := by decide +kernel
theorem dL_holds_536 : decode cL_holds 536 = .ok (.invokestatic 160, 3) := by decide +kernel
theorem dL_holds_539 : decode cL_holds 539 = .ok (.ifCond .ne 7, 3) := by decide +kernel
theorem dL_holds_542 : decode cL_holds 542 = .ok (.iconst 1, 1) := by decide +kernel
theorem dL_holds_543 : decode cL_holds 543 = .ok (.goto 4, 3) := by decide +kernel
theorem dL_holds_546 : decode cL_holds 546 = .ok (.iconst 0, 1) := by decide +kernel
theorem dL_holds_547 : decode cL_holds 547 = .ok (.istore 4, 2) := by decide +kernel
theorem dL_holds_549 : decode cL_holds 549 = .ok (.iinc 8 1, 3) := by decide +kernel
theorem dL_holds_552 : decode cL_holds 552 = .ok (.goto (-55), 3) := by decide +kernel
theorem dL_holds_555 : decode cL_holds 555 = .ok (.iload 4, 2) := by decide +kernel
theorem dL_holds_557 : decode cL_holds 557 = .ok (.ifCond .eq 21, 3) := by decide +kernel
theorem dL_holds_560 : decode cL_holds 560 = .ok (.aload_n 0, 1) := by decide +kernel
theorem dL_holds_561 : decode cL_holds 561 = .ok (.iconst 4, 1) := by decide +kernel
theorem dL_holds_562 : decode cL_holds 562 = .ok (.iload 5, 2) := by decide +kernel
theorem dL_holds_564 : decode cL_holds 564 = .ok (.iconst 4, 1) := by decide +kernel
theorem dL_holds_565 : decode cL_holds 565 = .ok (.iconst 0, 1) := by decide +kernel
theorem dL_holds_566 : decode cL_holds 566 = .ok (.invokestatic 156, 3) := by decide +kernel
theorem dL_holds_569 : decode cL_holds 569 = .ok (.iload 6, 2) := by decide +kernel
theorem dL_holds_571 : decode cL_holds 571 = .ok (.if_icmp .eq 7, 3) := by decide +kernel
theorem dL_holds_574 : decode cL_holds 574 = .ok (.iconst 1, 1) := by decide +kernel
theorem dL_holds_575 : decode cL_holds 575 = .ok (.goto 4, 3) := by decide +kernel
theorem dL_holds_578 : decode cL_holds 578 = .ok (.iconst 0, 1) := by decide +kernel
theorem dL_holds_579 : decode cL_holds 579 = .ok (.istore 4, 2) := by decide +kernel
theorem dL_holds_581 : decode cL_holds 581 = .ok (.iconst 0, 1) := by decide +kernel
theorem dL_holds_582 : decode cL_holds 582 = .ok (.istore 8, 2) := by decide +kernel
theorem dL_holds_584 : decode cL_holds 584 = .ok (.iload 8, 2) := by decide +kernel
theorem dL_holds_586 : decode cL_holds 586 = .ok (.iload 7, 2) := by decide +kernel
theorem dL_holds_588 : decode cL_holds 588 = .ok (.if_icmp .ge 33, 3) := by decide +kernel
theorem dL_holds_591 : decode cL_holds 591 = .ok (.iload 4, 2) := by decide +kernel
theorem dL_holds_593 : decode cL_holds 593 = .ok (.ifCond .eq 28, 3) := by decide +kernel
theorem dL_holds_596 : decode cL_holds 596 = .ok (.aload_n 0, 1) := by decide +kernel
theorem dL_holds_597 : decode cL_holds 597 = .ok (.bipush 12, 2) := by decide +kernel
theorem dL_holds_599 : decode cL_holds 599 = .ok (.iconst 0, 1) := by decide +kernel
theorem dL_holds_600 : decode cL_holds 600 = .ok (.iconst 0, 1) := by decide +kernel
theorem dL_holds_601 : decode cL_holds 601 = .ok (.iconst 0, 1) := by decide +kernel
theorem dL_holds_602 : decode cL_holds 602 = .ok (.invokestatic 156, 3) := by decide +kernel
theorem dL_holds_605 : decode cL_holds 605 = .ok (.ifCond .lt 7, 3) := by decide +kernel
theorem dL_holds_608 : decode cL_holds 608 = .ok (.iconst 1, 1) := by decide +kernel
theorem dL_holds_609 : decode cL_holds 609 = .ok (.goto 4, 3) := by decide +kernel
theorem dL_holds_612 : decode cL_holds 612 = .ok (.iconst 0, 1) := by decide +kernel
theorem dL_holds_613 : decode cL_holds 613 = .ok (.istore 4, 2) := by decide +kernel
theorem dL_holds_615 : decode cL_holds 615 = .ok (.iinc 8 1, 3) := by decide +kernel
theorem dL_holds_618 : decode cL_holds 618 = .ok (.goto (-34), 3) := by decide +kernel
theorem dL_holds_621 : decode cL_holds 621 = .ok (.aload_n 0, 1) := by decide +kernel
theorem dL_holds_622 : decode cL_holds 622 = .ok (.invokevirtual 182, 3) := by decide +kernel
theorem dL_holds_625 : decode cL_holds 625 = .ok (.istore 8, 2) := by decide +kernel
theorem dL_holds_627 : decode cL_holds 627 = .ok (.aload_n 0, 1) := by decide +kernel
theorem dL_holds_628 : decode cL_holds 628 = .ok (.iconst 1, 1) := by decide +kernel
theorem dL_holds_629 : decode cL_holds 629 = .ok (.iconst 2, 1) := by decide +kernel
theorem dL_holds_630 : decode cL_holds 630 = .ok (.iconst 0, 1) := by decide +kernel
theorem dL_holds_631 : decode cL_holds 631 = .ok (.iconst 0, 1) := by decide +kernel
theorem dL_holds_632 : decode cL_holds 632 = .ok (.invokestatic 156, 3) := by decide +kernel
theorem dL_holds_635 : decode cL_holds 635 = .ok (.istore 9, 2) := by decide +kernel
theorem dL_holds_637 : decode cL_holds 637 = .ok (.aload_n 0, 1) := by decide +kernel
theorem dL_holds_638 : decode cL_holds 638 = .ok (.bipush 11, 2) := by decide +kernel
theorem dL_holds_640 : decode cL_holds 640 = .ok (.iconst 0, 1) := by decide +kernel
theorem dL_holds_641 : decode cL_holds 641 = .ok (.iconst 0, 1) := by decide +kernel
theorem dL_holds_642 : decode cL_holds 642 = .ok (.iconst 0, 1) := by decide +kernel
theorem dL_holds_643 : decode cL_holds 643 = .ok (.invokestatic 156, 3) := by decide +kernel
theorem dL_holds_646 : decode cL_holds 646 = .ok (.istore 10, 2) := by decide +kernel
theorem dL_holds_648 : decode cL_holds 648 = .ok (.iload 4, 2) := by decide +kernel
theorem dL_holds_650 : decode cL_holds 650 = .ok (.ifCond .eq 101, 3) := by decide +kernel
theorem dL_holds_653 : decode cL_holds 653 = .ok (.iload 8, 2) := by decide +kernel
theorem dL_holds_655 : decode cL_holds 655 = .ok (.ldc 188, 2) := by decide +kernel
theorem dL_holds_657 : decode cL_holds 657 = .ok (.if_icmp .ne 13, 3) := by decide +kernel
theorem dL_holds_660 : decode cL_holds 660 = .ok (.iload 10, 2) := by decide +kernel
theorem dL_holds_662 : decode cL_holds 662 = .ok (.ldc 33, 2) := by decide +kernel
theorem dL_holds_664 : decode cL_holds 664 = .ok (.if_icmp .ne 87, 3) := by decide +kernel
theorem dL_holds_667 : decode cL_holds 667 = .ok (.goto 68, 3) := by decide +kernel
theorem dL_holds_670 : decode cL_holds 670 = .ok (.iload 10, 2) := by decide +kernel
theorem dL_holds_672 : decode cL_holds 672 = .ok (.ifCond .lt 79, 3) := by decide +kernel
theorem dL_holds_675 : decode cL_holds 675 = .ok (.aload_n 0, 1) := by decide +kernel
theorem dL_holds_676 : decode cL_holds 676 = .ok (.iconst 1, 1) := by decide +kernel
theorem dL_holds_677 : decode cL_holds 677 = .ok (.iconst 2, 1) := by decide +kernel
theorem dL_holds_678 : decode cL_holds 678 = .ok (.iconst 0, 1) := by decide +kernel
theorem dL_holds_679 : decode cL_holds 679 = .ok (.iconst 0, 1) := by decide +kernel
theorem dL_holds_680 : decode cL_holds 680 = .ok (.invokestatic 156, 3) := by decide +kernel
theorem dL_holds_683 : decode cL_holds 683 = .ok (.iload 9, 2) := by decide +kernel
theorem dL_holds_685 : decode cL_holds 685 = .ok (.iload 8, 2) := by decide +kernel
theorem dL_holds_687 : decode cL_holds 687 = .ok (.iadd, 1) := by decide +kernel
theorem dL_holds_688 : decode cL_holds 688 = .ok (.if_icmp .ne 63, 3) := by decide +kernel
theorem dL_holds_691 : decode cL_holds 691 = .ok (.aload_n 0, 1) := by decide +kernel
theorem dL_holds_692 : decode cL_holds 692 = .ok (.iconst 1, 1) := by decide +kernel
theorem dL_holds_693 : decode cL_holds 693 = .ok (.iconst 0, 1) := by decide +kernel
theorem dL_holds_694 : decode cL_holds 694 = .ok (.iconst 0, 1) := by decide +kernel
theorem dL_holds_695 : decode cL_holds 695 = .ok (.iconst 0, 1) := by decide +kernel
theorem dL_holds_696 : decode cL_holds 696 = .ok (.invokestatic 156, 3) := by decide +kernel
theorem dL_holds_699 : decode cL_holds 699 = .ok (.iload_n 2, 1) := by decide +kernel
theorem dL_holds_700 : decode cL_holds 700 = .ok (.aload_n 0, 1) := by decide +kernel
theorem dL_holds_701 : decode cL_holds 701 = .ok (.invokevirtual 179, 3) := by decide +kernel
theorem dL_holds_704 : decode cL_holds 704 = .ok (.iadd, 1) := by decide +kernel
theorem dL_holds_705 : decode cL_holds 705 = .ok (.if_icmp .ne 46, 3) := by decide +kernel
theorem dL_holds_708 : decode cL_holds 708 = .ok (.aload_n 0, 1) := by decide +kernel
theorem dL_holds_709 : decode cL_holds 709 = .ok (.iconst 1, 1) := by decide +kernel
theorem dL_holds_710 : decode cL_holds 710 = .ok (.iconst 1, 1) := by decide +kernel
theorem dL_holds_711 : decode cL_holds 711 = .ok (.iconst 0, 1) := by decide +kernel
theorem dL_holds_712 : decode cL_holds 712 = .ok (.iconst 0, 1) := by decide +kernel
theorem dL_holds_713 : decode cL_holds 713 = .ok (.invokestatic 156, 3) := by decide +kernel
theorem dL_holds_716 : decode cL_holds 716 = .ok (.iload_n 3, 1) := by decide +kernel
theorem dL_holds_717 : decode cL_holds 717 = .ok (.iload 10, 2) := by decide +kernel
theorem dL_holds_719 : decode cL_holds 719 = .ok (.iadd, 1) := by decide +kernel
theorem dL_holds_720 : decode cL_holds 720 = .ok (.if_icmp .ne 31, 3) := by decide +kernel
theorem dL_holds_723 : decode cL_holds 723 = .ok (.aload_n 0, 1) := by decide +kernel
theorem dL_holds_724 : decode cL_holds 724 = .ok (.bipush 12, 2) := by decide +kernel
theorem dL_holds_726 : decode cL_holds 726 = .ok (.iconst 0, 1) := by decide +kernel
theorem dL_holds_727 : decode cL_holds 727 = .ok (.iconst 0, 1) := by decide +kernel
theorem dL_holds_728 : decode cL_holds 728 = .ok (.iconst 0, 1) := by decide +kernel
theorem dL_holds_729 : decode cL_holds 729 = .ok (.invokestatic 156, 3) := by decide +kernel
theorem dL_holds_732 : decode cL_holds 732 = .ok (.ifCond .lt 19, 3) := by decide +kernel
theorem dL_holds_735 : decode cL_holds 735 = .ok (.aload_n 0, 1) := by decide +kernel
theorem dL_holds_736 : decode cL_holds 736 = .ok (.iconst 1, 1) := by decide +kernel
theorem dL_holds_737 : decode cL_holds 737 = .ok (.iconst 0, 1) := by decide +kernel
theorem dL_holds_738 : decode cL_holds 738 = .ok (.iconst 0, 1) := by decide +kernel
theorem dL_holds_739 : decode cL_holds 739 = .ok (.iconst 0, 1) := by decide +kernel
theorem dL_holds_740 : decode cL_holds 740 = .ok (.invokestatic 156, 3) := by decide +kernel
theorem dL_holds_743 : decode cL_holds 743 = .ok (.iload_n 2, 1) := by decide +kernel
theorem dL_holds_744 : decode cL_holds 744 = .ok (.if_icmp .ne 7, 3) := by decide +kernel
theorem dL_holds_747 : decode cL_holds 747 = .ok (.iconst 1, 1) := by decide +kernel
theorem dL_holds_748 : decode cL_holds 748 = .ok (.goto 4, 3) := by decide +kernel
theorem dL_holds_751 : decode cL_holds 751 = .ok (.iconst 0, 1) := by decide +kernel
theorem dL_holds_752 : decode cL_holds 752 = .ok (.ireturn, 1) := by decide +kernel
set_option maxRecDepth 20000 in
theorem ggL_act_L_call : GoodIn wsL_act wsL_call := goodIn_ca (goodIn_ca (goodIn_ca (gI_cons (gI_one (List.mem_of_getElem? (i := 4) rfl) rfl) (goodIn_app (goodIn_app (goodIn_app (goodIn_app (goodIn_app (goodIn_app (goodIn_r wsL_call_r1 [5, 6, 3, 7, 8, 9, 10, 11, 12, 13, 14, 15, 16, 17, 18, 19, 20, 21, 22, 23, 24, 25, 26, 27] (by decide +kernel) (by decide +kernel)) (goodIn_app (goodIn_r wsL_call_r2 [28, 29, 30, 31, 32, 33, 34, 35, 36, 37, 38, 39, 40, 41, 42, 43, 44, 45, 46, 47, 48, 49, 50, 51] (by decide +kernel) (by decide +kernel)) (goodIn_app (goodIn_r wsL_call_r3 [52, 53, 54, 55, 56, 57, 58, 59, 60, 61, 62, 63, 64, 65, 66, 67, 68, 69, 70, 71, 72, 73, 74, 75] (by decide +kernel) (by decide +kernel)) (goodIn_app (goodIn_r wsL_call_r4 [76, 77, 78, 79, 80, 81, 82, 83, 84, 85, 86, 87, 88, 89, 90, 91, 92, 93, 94, 95, 96, 97, 98, 99] (by decide +kernel) (by decide +kernel)) (goodIn_app (goodIn_r wsL_call_r5 [100, 101, 102, 103, 104, 105, 106, 107, 108, 109, 110, 111, 112, 113, 114, 115, 116, 117, 118, 119, 120, 121, 122, 123] (by decide +kernel) (by decide +kernel)) (goodIn_app (goodIn_r wsL_call_r6 [124, 125, 126, 127, 128, 129, 130, 131, 132, 133, 134, 135, 136, 137, 138, 139, 140, 141, 142, 143, 144, 145, 146, 147] (by decide +kernel) (by decide +kernel)) (goodIn_app (goodIn_r wsL_call_r7 [148, 149, 150, 151, 152, 153, 154, 155, 156, 157, 158, 159, 160, 161, 162, 163, 164, 165, 166, 167, 168, 169, 170, 171] (by decide +kernel) (by decide +kernel)) (goodIn_app (goodIn_r wsL_call_r8 [172, 173, 174, 175, 176, 177, 178, 179, 180, 181, 182, 183, 184, 185, 186, 187, 188, 189, 190, 191, 192, 193, 194, 195] (by decide +kernel) (by decide +kernel)) (goodIn_app (goodIn_r wsL_call_r9 [196, 197, 198, 199, 200, 201, 202, 203, 204, 205, 206, 207, 208, 209, 210, 211, 212, 213, 214, 215, 216, 217, 218, 219] (by decide +kernel) (by decide +kernel)) (goodIn_app (goodIn_r wsL_call_r10 [220, 221, 222, 223, 224, 225, 226, 227, 228, 229, 230, 231, 232, 233, 234, 235, 236, 237, 238, 239, 240, 241, 242, 243] (by decide +kernel) (by decide +kernel)) (goodIn_app (goodIn_r wsL_call_r11 [244, 245, 246, 247, 248, 249, 250, 251, 252, 253, 254, 255, 256, 257, 258, 259, 260, 261, 262, 263, 264, 265, 266, 267] (by decide +kernel) (by decide +kernel)) (goodIn_app (goodIn_r wsL_call_r12 [268, 269, 270, 271, 272, 273, 274, 275, 276, 277, 278, 279, 280, 281, 282, 283, 284, 285, 286, 287, 288, 289, 290, 291] (by decide +kernel) (by decide +kernel)) (goodIn_app (goodIn_r wsL_call_r13 [292, 293, 294, 295, 296, 297, 298, 299, 300, 301, 302, 303, 304, 305, 306, 307, 308, 309, 310, 311, 312, 313, 314, 315] (by decide +kernel) (by decide +kernel)) (goodIn_app (goodIn_r wsL_call_r14 [316, 317, 318, 319, 320, 321, 322, 323, 324, 325, 326, 327, 328, 329, 330, 331, 332, 333, 334, 335, 336, 337, 338, 339] (by decide +kernel) (by decide +kernel)) (goodIn_app (goodIn_r wsL_call_r15 [340, 341, 342, 343, 344, 345, 346, 347, 348, 349, 350, 351, 352, 353, 354, 355, 356, 357, 358, 359, 360, 361, 362, 363] (by decide +kernel) (by decide +kernel)) (goodIn_app (goodIn_r wsL_call_r16 [364, 365, 366, 367, 368, 369, 370, 371, 372, 373, 374, 375, 376, 377, 378, 379, 380, 381, 382, 383, 384, 385, 386, 387] (by decide +kernel) (by decide +kernel)) (goodIn_r wsL_call_r17 [388, 389, 390, 391, 392, 393, 394, 395, 396] (by decide +kernel) (by decide +kernel)))))))))))))))))) (goodIn_r wsX50 [408, 409, 410, 411, 412, 413] (by decide +kernel) (by decide +kernel))) (goodIn_r wsX40 [414, 415, 416, 417, 418, 419, 420, 421] (by decide +kernel) (by decide +kernel))) (goodIn_r wsX30 [422, 423, 424, 425, 426, 427, 428, 429, 430, 431, 432] (by decide +kernel) (by decide +kernel))) (goodIn_r wsX00 [433, 434, 435, 436, 437, 438, 439, 440] (by decide +kernel) (by decide +kernel))) (goodIn_r wsX10 [441, 442, 443] (by decide +kernel) (by decide +kernel)))) (goodIn_sub (fun _ h => List.mem_cons_of_mem _ (List.mem_append_left _ (List.mem_append_left _ (List.mem_append_right _ h)))) (by decide +kernel))) (goodIn_sub (fun _ h => List.mem_cons_of_mem _ (List.mem_append_left _ (List.mem_append_right _ h))) (by decide +kernel))) (goodIn_sub (fun _ h => List.mem_cons_of_mem _ (List.mem_append_right _ h)) (by decide +kernel))
set_option maxRecDepth 20000 in
theorem gL_act_L_call : GoodIn wsL_act (va_wsS RL 156 yL_call wsL_call) := goodIn_app (goodIn_of _ (by decide +kernel)) ggL_act_L_call
set_option maxRecDepth 20000 in
theorem ggL_act_X5_clearText : GoodIn wsL_act wsX5_clearText := goodIn_r _ [400, 21, 22, 408, 409, 410, 411, 412, 413, 414, 415, 416, 417, 418, 419, 420, 421] (by decide +kernel) (by decide +kernel)
set_option maxRecDepth 20000 in
theorem gL_act_X5_clearText : GoodIn wsL_act (wsV RL 190 RX5 yX5_clearText wsX5_clearText) := goodIn_app (goodIn_of _ (by decide +kernel)) ggL_act_X5_clearText
set_option maxRecDepth 20000 in
theorem ggL_act_L_tryGo : GoodIn wsL_act wsL_tryGo := goodIn_ca (goodIn_r _ [403, 49, 50, 404, 405, 406, 15, 407, 168, 37, 103, 104, 105, 60, 61, 106, 107, 108, 173, 174, 175, 176, 177, 178, 179, 180, 181, 182, 183, 89, 184, 91, 185, 186, 187, 188, 118, 113, 189, 190, 191, 192, 193, 194, 195, 196, 197, 198, 199, 68, 200, 124, 201, 202, 203, 70, 204, 129, 205, 206, 377, 302, 303, 304, 114, 115, 116, 117, 119, 120, 121, 122, 123, 125, 126, 127, 128, 305, 306, 307, 308, 309, 310, 311, 312, 313, 314, 315, 316, 317, 318, 319, 320, 146, 147, 148, 321, 322, 323, 324, 325, 326, 327, 328, 329, 330, 408, 409, 410, 411, 412, 413, 441, 442, 443, 422, 423, 424, 425, 426, 427, 428, 429, 430, 431, 432, 433, 434, 435, 436, 437, 438, 439, 440] (by decide +kernel) (by decide +kernel)) (goodIn_sub (fun _ h => List.mem_cons_of_mem _ (List.mem_append_right _ h)) (by decide +kernel))
set_option maxRecDepth 20000 in
theorem gL_act_L_tryGo : GoodIn wsL_act (va_wsS RL 160 yL_tryGo wsL_tryGo) := goodIn_app (goodIn_of _ (by decide +kernel)) ggL_act_L_tryGo
theorem dL_act_0 : decode cL_act 0 = .ok (.iload_n 1, 1) := by decide +kernel
theorem dL_act_1 : decode cL_act 1 = .ok (.bipush 16, 2) := by decide +kernel
theorem dL_act_3 : decode cL_act 3 = .ok (.irem, 1) := by decide +kernel
theorem dL_act_4 : decode cL_act 4 = .ok (.tableswitch 267 0 9 #[56, 78, 96, 117, 127, 139, 151, 151, 161, 161], 56) := by decide +kernel
theorem dL_act_60 : decode cL_act 60 = .ok (.aload_n 0, 1) := by decide +kernel
theorem dL_act_61 : decode cL_act 61 = .ok (.bipush 8, 2) := by decide +kernel
theorem dL_act_63 : decode cL_act 63 = .ok (.iload_n 2, 1) := by decide +kernel
theorem dL_act_64 : decode cL_act 64 = .ok (.iconst 2, 1) := by decide +kernel
theorem dL_act_65 : decode cL_act 65 = .ok (.irem, 1) := by decide +kernel
theorem dL_act_66 : decode cL_act 66 = .ok (.iload_n 2, 1) := by decide +kernel
theorem dL_act_67 : decode cL_act 67 = .ok (.iconst 2, 1) := by decide +kernel
theorem dL_act_68 : decode cL_act 68 = .ok (.idiv, 1) := by decide +kernel
theorem dL_act_69 : decode cL_act 69 = .ok (.iconst 3, 1) := by decide +kernel
theorem dL_act_70 : decode cL_act 70 = .ok (.irem, 1) := by decide +kernel
theorem dL_act_71 : decode cL_act 71 = .ok (.iload_n 2, 1) := by decide +kernel
theorem dL_act_72 : decode cL_act 72 = .ok (.bipush 8, 2) := by decide +kernel
theorem dL_act_74 : decode cL_act 74 = .ok (.idiv, 1) := by decide +kernel
theorem dL_act_75 : decode cL_act 75 = .ok (.bipush 7, 2) := by decide +kernel
theorem dL_act_77 : decode cL_act 77 = .ok (.irem, 1) := by decide +kernel
theorem dL_act_78 : decode cL_act 78 = .ok (.invokestatic 156, 3) := by decide +kernel
theorem dL_act_81 : decode cL_act 81 = .ok (.ireturn, 1) := by decide +kernel
theorem dL_act_82 : decode cL_act 82 = .ok (.aload_n 0, 1) := by decide +kernel
theorem dL_act_83 : decode cL_act 83 = .ok (.bipush 9, 2) := by decide +kernel
theorem dL_act_85 : decode cL_act 85 = .ok (.iload_n 2, 1) := by decide +kernel
theorem dL_act_86 : decode cL_act 86 = .ok (.iconst 3, 1) := by decide +kernel
theorem dL_act_87 : decode cL_act 87 = .ok (.irem, 1) := by decide +kernel
theorem dL_act_88 : decode cL_act 88 = .ok (.iconst 2, 1) := by decide +kernel
theorem dL_act_89 : decode cL_act 89 = .ok (.iload_n 2, 1) := by decide +kernel
theorem dL_act_90 : decode cL_act 90 = .ok (.iconst 4, 1) := by decide +kernel
theorem dL_act_91 : decode cL_act 91 = .ok (.idiv, 1) := by decide +kernel
theorem dL_act_92 : decode cL_act 92 = .ok (.iconst 4, 1) := by decide +kernel
theorem dL_act_93 : decode cL_act 93 = .ok (.irem, 1) := by decide +kernel
theorem dL_act_94 : decode cL_act 94 = .ok (.iadd, 1) := by decide +kernel
theorem dL_act_95 : decode cL_act 95 = .ok (.iconst 0, 1) := by decide +kernel
theorem dL_act_96 : decode cL_act 96 = .ok (.invokestatic 156, 3) := by decide +kernel
theorem dL_act_99 : decode cL_act 99 = .ok (.ireturn, 1) := by decide +kernel
theorem dL_act_100 : decode cL_act 100 = .ok (.aload_n 0, 1) := by decide +kernel
theorem dL_act_101 : decode cL_act 101 = .ok (.bipush 10, 2) := by decide +kernel
theorem dL_act_103 : decode cL_act 103 = .ok (.iload_n 2, 1) := by decide +kernel
theorem dL_act_104 : decode cL_act 104 = .ok (.iconst 2, 1) := by decide +kernel
theorem dL_act_105 : decode cL_act 105 = .ok (.irem, 1) := by decide +kernel
theorem dL_act_106 : decode cL_act 106 = .ok (.iload_n 2, 1) := by decide +kernel
theorem dL_act_107 : decode cL_act 107 = .ok (.iconst 2, 1) := by decide +kernel
theorem dL_act_108 : decode cL_act 108 = .ok (.idiv, 1) := by decide +kernel
theorem dL_act_109 : decode cL_act 109 = .ok (.iconst 4, 1) := by decide +kernel
theorem dL_act_110 : decode cL_act 110 = .ok (.irem, 1) := by decide +kernel
theorem dL_act_111 : decode cL_act 111 = .ok (.iload_n 2, 1) := by decide +kernel
theorem dL_act_112 : decode cL_act 112 = .ok (.bipush 8, 2) := by decide +kernel
theorem dL_act_114 : decode cL_act 114 = .ok (.idiv, 1) := by decide +kernel
theorem dL_act_115 : decode cL_act 115 = .ok (.iconst 4, 1) := by decide +kernel
theorem dL_act_116 : decode cL_act 116 = .ok (.irem, 1) := by decide +kernel
theorem dL_act_117 : decode cL_act 117 = .ok (.invokestatic 156, 3) := by decide +kernel
theorem dL_act_120 : decode cL_act 120 = .ok (.ireturn, 1) := by decide +kernel
theorem dL_act_121 : decode cL_act 121 = .ok (.aload_n 0, 1) := by decide +kernel
theorem dL_act_122 : decode cL_act 122 = .ok (.bipush 12, 2) := by decide +kernel
theorem dL_act_124 : decode cL_act 124 = .ok (.iconst 0, 1) := by decide +kernel
theorem dL_act_125 : decode cL_act 125 = .ok (.iconst 0, 1) := by decide +kernel
theorem dL_act_126 : decode cL_act 126 = .ok (.iconst 0, 1) := by decide +kernel
theorem dL_act_127 : decode cL_act 127 = .ok (.invokestatic 156, 3) := by decide +kernel
theorem dL_act_130 : decode cL_act 130 = .ok (.ireturn, 1) := by decide +kernel
theorem dL_act_131 : decode cL_act 131 = .ok (.aload_n 0, 1) := by decide +kernel
theorem dL_act_132 : decode cL_act 132 = .ok (.bipush 17, 2) := by decide +kernel
theorem dL_act_134 : decode cL_act 134 = .ok (.iload_n 2, 1) := by decide +kernel
theorem dL_act_135 : decode cL_act 135 = .ok (.iconst 2, 1) := by decide +kernel
theorem dL_act_136 : decode cL_act 136 = .ok (.irem, 1) := by decide +kernel
theorem dL_act_137 : decode cL_act 137 = .ok (.iconst 0, 1) := by decide +kernel
theorem dL_act_138 : decode cL_act 138 = .ok (.iconst 0, 1) := by decide +kernel
theorem dL_act_139 : decode cL_act 139 = .ok (.invokestatic 156, 3) := by decide +kernel
theorem dL_act_142 : decode cL_act 142 = .ok (.ireturn, 1) := by decide +kernel
theorem dL_act_143 : decode cL_act 143 = .ok (.aload_n 0, 1) := by decide +kernel
theorem dL_act_144 : decode cL_act 144 = .ok (.bipush 18, 2) := by decide +kernel
theorem dL_act_146 : decode cL_act 146 = .ok (.iload_n 2, 1) := by decide +kernel
theorem dL_act_147 : decode cL_act 147 = .ok (.iconst 2, 1) := by decide +kernel
theorem dL_act_148 : decode cL_act 148 = .ok (.irem, 1) := by decide +kernel
theorem dL_act_149 : decode cL_act 149 = .ok (.iconst 0, 1) := by decide +kernel
theorem dL_act_150 : decode cL_act 150 = .ok (.iconst 0, 1) := by decide +kernel
theorem dL_act_151 : decode cL_act 151 = .ok (.invokestatic 156, 3) := by decide +kernel
theorem dL_act_154 : decode cL_act 154 = .ok (.ireturn, 1) := by decide +kernel
theorem dL_act_155 : decode cL_act 155 = .ok (.aload_n 0, 1) := by decide +kernel
theorem dL_act_156 : decode cL_act 156 = .ok (.bipush 11, 2) := by decide +kernel
theorem dL_act_158 : decode cL_act 158 = .ok (.iconst 0, 1) := by decide +kernel
theorem dL_act_159 : decode cL_act 159 = .ok (.iconst 0, 1) := by decide +kernel
theorem dL_act_160 : decode cL_act 160 = .ok (.iconst 0, 1) := by decide +kernel
theorem dL_act_161 : decode cL_act 161 = .ok (.invokestatic 156, 3) := by decide +kernel
theorem dL_act_164 : decode cL_act 164 = .ok (.ireturn, 1) := by decide +kernel
theorem dL_act_165 : decode cL_act 165 = .ok (.iload_n 2, 1) := by decide +kernel
theorem dL_act_166 : decode cL_act 166 = .ok (.iconst 3, 1) := by decide +kernel
theorem dL_act_167 : decode cL_act 167 = .ok (.irem, 1) := by decide +kernel
theorem dL_act_168 : decode cL_act 168 = .ok (.ifCond .ne 8, 3) := by decide +kernel
theorem dL_act_171 : decode cL_act 171 = .ok (.aload_n 0, 1) := by decide +kernel
theorem dL_act_172 : decode cL_act 172 = .ok (.invokevirtual 190, 3) := by decide +kernel
theorem dL_act_175 : decode cL_act 175 = .ok (.pop, 1) := by decide +kernel
theorem dL_act_176 : decode cL_act 176 = .ok (.aload_n 0, 1) := by decide +kernel
theorem dL_act_177 : decode cL_act 177 = .ok (.iconst 0, 1) := by decide +kernel
theorem dL_act_178 : decode cL_act 178 = .ok (.bipush 40, 2) := by decide +kernel
theorem dL_act_180 : decode cL_act 180 = .ok (.iconst 0, 1) := by decide +kernel
theorem dL_act_181 : decode cL_act 181 = .ok (.iconst 0, 1) := by decide +kernel
theorem dL_act_182 : decode cL_act 182 = .ok (.invokestatic 156, 3) := by decide +kernel
theorem dL_act_185 : decode cL_act 185 = .ok (.istore_n 3, 1) := by decide +kernel
theorem dL_act_186 : decode cL_act 186 = .ok (.aload_n 0, 1) := by decide +kernel
theorem dL_act_187 : decode cL_act 187 = .ok (.iconst 0, 1) := by decide +kernel
theorem dL_act_188 : decode cL_act 188 = .ok (.bipush 97, 2) := by decide +kernel
theorem dL_act_190 : decode cL_act 190 = .ok (.iload_n 2, 1) := by decide +kernel
theorem dL_act_191 : decode cL_act 191 = .ok (.iconst 4, 1) := by decide +kernel
theorem dL_act_192 : decode cL_act 192 = .ok (.idiv, 1) := by decide +kernel
theorem dL_act_193 : decode cL_act 193 = .ok (.bipush 26, 2) := by decide +kernel
theorem dL_act_195 : decode cL_act 195 = .ok (.irem, 1) := by decide +kernel
theorem dL_act_196 : decode cL_act 196 = .ok (.iadd, 1) := by decide +kernel
theorem dL_act_197 : decode cL_act 197 = .ok (.iconst 0, 1) := by decide +kernel
theorem dL_act_198 : decode cL_act 198 = .ok (.iconst 0, 1) := by decide +kernel
theorem dL_act_199 : decode cL_act 199 = .ok (.invokestatic 156, 3) := by decide +kernel
theorem dL_act_202 : decode cL_act 202 = .ok (.istore 4, 2) := by decide +kernel
theorem dL_act_204 : decode cL_act 204 = .ok (.aload_n 0, 1) := by decide +kernel
theorem dL_act_205 : decode cL_act 205 = .ok (.iconst 0, 1) := by decide +kernel
theorem dL_act_206 : decode cL_act 206 = .ok (.iload_n 2, 1) := by decide +kernel
theorem dL_act_207 : decode cL_act 207 = .ok (.sipush 128, 3) := by decide +kernel
theorem dL_act_210 : decode cL_act 210 = .ok (.idiv, 1) := by decide +kernel
theorem dL_act_211 : decode cL_act 211 = .ok (.iconst 2, 1) := by decide +kernel
theorem dL_act_212 : decode cL_act 212 = .ok (.irem, 1) := by decide +kernel
theorem dL_act_213 : decode cL_act 213 = .ok (.ifCond .ne 8, 3) := by decide +kernel
theorem dL_act_216 : decode cL_act 216 = .ok (.bipush 43, 2) := by decide +kernel
theorem dL_act_218 : decode cL_act 218 = .ok (.goto 5, 3) := by decide +kernel
theorem dL_act_221 : decode cL_act 221 = .ok (.bipush 45, 2) := by decide +kernel
theorem dL_act_223 : decode cL_act 223 = .ok (.iconst 0, 1) := by decide +kernel
theorem dL_act_224 : decode cL_act 224 = .ok (.iconst 0, 1) := by decide +kernel
theorem dL_act_225 : decode cL_act 225 = .ok (.invokestatic 156, 3) := by decide +kernel
theorem dL_act_228 : decode cL_act 228 = .ok (.istore 5, 2) := by decide +kernel
theorem dL_act_230 : decode cL_act 230 = .ok (.aload_n 0, 1) := by decide +kernel
theorem dL_act_231 : decode cL_act 231 = .ok (.iconst 0, 1) := by decide +kernel
theorem dL_act_232 : decode cL_act 232 = .ok (.bipush 41, 2) := by decide +kernel
theorem dL_act_234 : decode cL_act 234 = .ok (.iconst 0, 1) := by decide +kernel
theorem dL_act_235 : decode cL_act 235 = .ok (.iconst 0, 1) := by decide +kernel
theorem dL_act_236 : decode cL_act 236 = .ok (.invokestatic 156, 3) := by decide +kernel
theorem dL_act_239 : decode cL_act 239 = .ok (.istore 6, 2) := by decide +kernel
theorem dL_act_241 : decode cL_act 241 = .ok (.iload_n 3, 1) := by decide +kernel
theorem dL_act_242 : decode cL_act 242 = .ok (.iload 4, 2) := by decide +kernel
theorem dL_act_244 : decode cL_act 244 = .ok (.iadd, 1) := by decide +kernel
theorem dL_act_245 : decode cL_act 245 = .ok (.iload 5, 2) := by decide +kernel
theorem dL_act_247 : decode cL_act 247 = .ok (.iadd, 1) := by decide +kernel
theorem dL_act_248 : decode cL_act 248 = .ok (.iload 6, 2) := by decide +kernel
theorem dL_act_250 : decode cL_act 250 = .ok (.iadd, 1) := by decide +kernel
theorem dL_act_251 : decode cL_act 251 = .ok (.aload_n 0, 1) := by decide +kernel
theorem dL_act_252 : decode cL_act 252 = .ok (.iconst 0, 1) := by decide +kernel
theorem dL_act_253 : decode cL_act 253 = .ok (.bipush 50, 2) := by decide +kernel
theorem dL_act_255 : decode cL_act 255 = .ok (.iload_n 2, 1) := by decide +kernel
theorem dL_act_256 : decode cL_act 256 = .ok (.sipush 256, 3) := by decide +kernel
theorem dL_act_259 : decode cL_act 259 = .ok (.idiv, 1) := by decide +kernel
theorem dL_act_260 : decode cL_act 260 = .ok (.bipush 8, 2) := by decide +kernel
theorem dL_act_262 : decode cL_act 262 = .ok (.irem, 1) := by decide +kernel
theorem dL_act_263 : decode cL_act 263 = .ok (.iadd, 1) := by decide +kernel
theorem dL_act_264 : decode cL_act 264 = .ok (.iconst 0, 1) := by decide +kernel
theorem dL_act_265 : decode cL_act 265 = .ok (.iconst 0, 1) := by decide +kernel
theorem dL_act_266 : decode cL_act 266 = .ok (.invokestatic 156, 3) := by decide +kernel
theorem dL_act_269 : decode cL_act 269 = .ok (.iadd, 1) := by decide +kernel
theorem dL_act_270 : decode cL_act 270 = .ok (.ireturn, 1) := by decide +kernel
theorem dL_act_271 : decode cL_act 271 = .ok (.aload_n 0, 1) := by decide +kernel
theorem dL_act_272 : decode cL_act 272 = .ok (.iload_n 2, 1) := by decide +kernel
theorem dL_act_273 : decode cL_act 273 = .ok (.bipush 26, 2) := by decide +kernel
theorem dL_act_275 : decode cL_act 275 = .ok (.irem, 1) := by decide +kernel
theorem dL_act_276 : decode cL_act 276 = .ok (.iload_n 2, 1) := by decide +kernel
theorem dL_act_277 : decode cL_act 277 = .ok (.bipush 32, 2) := by decide +kernel
theorem dL_act_279 : decode cL_act 279 = .ok (.idiv, 1) := by decide +kernel
theorem dL_act_280 : decode cL_act 280 = .ok (.iconst 3, 1) := by decide +kernel
theorem dL_act_281 : decode cL_act 281 = .ok (.irem, 1) := by decide +kernel
theorem dL_act_282 : decode cL_act 282 = .ok (.ifCond .le 7, 3) := by decide +kernel
theorem dL_act_285 : decode cL_act 285 = .ok (.iconst 1, 1) := by decide +kernel
theorem dL_act_286 : decode cL_act 286 = .ok (.goto 4, 3) := by decide +kernel
theorem dL_act_289 : decode cL_act 289 = .ok (.iconst 0, 1) := by decide +kernel
theorem dL_act_290 : decode cL_act 290 = .ok (.invokestatic 160, 3) := by decide +kernel
theorem dL_act_293 : decode cL_act 293 = .ok (.ireturn, 1) := by decide +kernel
