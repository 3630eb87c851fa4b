set_option maxRecDepth 20000 in
theorem wsL_law0_r1_in : ∀ w ∈ wsL_law0_r1, w ∈ lw_tbl := fun w h => (goodIn_p wsL_law0_r1 [31, 34] (by decide +kernel) (by decide +kernel) w h).1
set_option maxRecDepth 20000 in
theorem wsL_law0_r2_in : ∀ w ∈ wsL_law0_r2, w ∈ lw_tbl := fun w h => (goodIn_p wsL_law0_r2 [39, 75] (by decide +kernel) (by decide +kernel) w h).1
set_option maxRecDepth 20000 in
theorem wsL_law0_r3_in : ∀ w ∈ wsL_law0_r3, w ∈ lw_tbl := fun w h => (goodIn_p wsL_law0_r3 [82, 123, 127] (by decide +kernel) (by decide +kernel) w h).1
set_option maxRecDepth 20000 in
theorem wsL_law0_r4_in : ∀ w ∈ wsL_law0_r4, w ∈ lw_tbl := List.forall_mem_cons.mpr ⟨by decide +kernel, List.forall_mem_cons.mpr ⟨by decide +kernel, List.forall_mem_cons.mpr ⟨by decide +kernel, List.forall_mem_cons.mpr ⟨by decide +kernel, List.forall_mem_cons.mpr ⟨by decide +kernel, List.forall_mem_cons.mpr ⟨List.mem_of_getElem? (i := 130) rfl, List.forall_mem_cons.mpr ⟨by decide +kernel, List.forall_mem_cons.mpr ⟨by decide +kernel, List.forall_mem_cons.mpr ⟨by decide +kernel, List.forall_mem_cons.mpr ⟨List.mem_of_getElem? (i := 185) rfl, List.forall_mem_cons.mpr ⟨by decide +kernel, List.forall_mem_cons.mpr ⟨by decide +kernel, List.forall_mem_cons.mpr ⟨by decide +kernel, List.forall_mem_cons.mpr ⟨by decide +kernel, List.forall_mem_cons.mpr ⟨by decide +kernel, List.forall_mem_cons.mpr ⟨by decide +kernel, List.forall_mem_cons.mpr ⟨by decide +kernel, List.forall_mem_cons.mpr ⟨List.mem_of_getElem? (i := 438) rfl, List.forall_mem_cons.mpr ⟨List.mem_of_getElem? (i := 439) rfl, List.forall_mem_cons.mpr ⟨List.mem_of_getElem? (i := 440) rfl, List.forall_mem_cons.mpr ⟨by decide +kernel, List.forall_mem_cons.mpr ⟨by decide +kernel, List.forall_mem_cons.mpr ⟨List.mem_of_getElem? (i := 443) rfl, List.forall_mem_cons.mpr ⟨List.mem_of_getElem? (i := 419) rfl, (fun _ h => absurd h List.not_mem_nil)⟩⟩⟩⟩⟩⟩⟩⟩⟩⟩⟩⟩⟩⟩⟩⟩⟩⟩⟩⟩⟩⟩⟩⟩
set_option maxRecDepth 20000 in
theorem wsL_law0_r5_in : ∀ w ∈ wsL_law0_r5, w ∈ lw_tbl := fun w h => (goodIn_p wsL_law0_r5 [446, 454] (by decide +kernel) (by decide +kernel) w h).1
set_option maxRecDepth 20000 in
theorem wsL_law0_r6_in : ∀ w ∈ wsL_law0_r6, w ∈ lw_tbl := fun w h => (goodIn_p wsL_law0_r6 [459, 483] (by decide +kernel) (by decide +kernel) w h).1
set_option maxRecDepth 20000 in
theorem wsL_law0_r7_in : ∀ w ∈ wsL_law0_r7, w ∈ lw_tbl := fun w h => (goodIn_p wsL_law0_r7 [492, 495, 372, 516, 525] (by decide +kernel) (by decide +kernel) w h).1
set_option maxRecDepth 20000 in
theorem wsL_law0_r8_in : ∀ w ∈ wsL_law0_r8, w ∈ lw_tbl := fun w h => (goodIn_p wsL_law0_r8 [529, 406, 539, 542] (by decide +kernel) (by decide +kernel) w h).1
set_option maxRecDepth 20000 in
theorem wsL_law0_r9_in : ∀ w ∈ wsL_law0_r9, w ∈ lw_tbl := fun w h => (goodIn_p wsL_law0_r9 [322, 417, 330, 334, 338] (by decide +kernel) (by decide +kernel) w h).1
set_option maxRecDepth 20000 in
theorem wsL_law0_r10_in : ∀ w ∈ wsL_law0_r10, w ∈ lw_tbl := fun w h => (goodIn_p wsL_law0_r10 [553, 561, 356, 569] (by decide +kernel) (by decide +kernel) w h).1
set_option maxRecDepth 20000 in
theorem wsL_law0_r11_in : ∀ w ∈ wsL_law0_r11, w ∈ lw_tbl := fun w h => (goodIn_p wsL_law0_r11 [572, 580, 375, 586, 305] (by decide +kernel) (by decide +kernel) w h).1
set_option maxRecDepth 20000 in
theorem wsL_law0_r12_in : ∀ w ∈ wsL_law0_r12, w ∈ lw_tbl := fun w h => (goodIn_p wsL_law0_r12 [312, 381, 595, 387] (by decide +kernel) (by decide +kernel) w h).1
set_option maxRecDepth 20000 in
theorem wsL_law0_r13_in : ∀ w ∈ wsL_law0_r13, w ∈ lw_tbl := fun w h => (goodIn_p wsL_law0_r13 [395, 605, 410, 614] (by decide +kernel) (by decide +kernel) w h).1
set_option maxRecDepth 20000 in
theorem wsL_law0_r14_in : ∀ w ∈ wsL_law0_r14, w ∈ lw_tbl := fun w h => (goodIn_p wsL_law0_r14 [618, 622, 626, 630, 634] (by decide +kernel) (by decide +kernel) w h).1
set_option maxRecDepth 20000 in
theorem wsL_law0_r15_in : ∀ w ∈ wsL_law0_r15, w ∈ lw_tbl := fun w h => (goodIn_p wsL_law0_r15 [638, 642, 648, 326, 342] (by decide +kernel) (by decide +kernel) w h).1
set_option maxRecDepth 20000 in
theorem wsL_law0_r16_in : ∀ w ∈ wsL_law0_r16, w ∈ lw_tbl := fun w h => (goodIn_p wsL_law0_r16 [345, 349, 352, 360, 366] (by decide +kernel) (by decide +kernel) w h).1
set_option maxRecDepth 20000 in
theorem wsL_law0_r17_in : ∀ w ∈ wsL_law0_r17, w ∈ lw_tbl := fun w h => (goodIn_p wsL_law0_r17 [656, 660, 668, 672] (by decide +kernel) (by decide +kernel) w h).1
set_option maxRecDepth 20000 in
theorem wsL_law0_r18_in : ∀ w ∈ wsL_law0_r18, w ∈ lw_tbl := fun w h => (goodIn_p wsL_law0_r18 [679, 686, 693] (by decide +kernel) (by decide +kernel) w h).1
set_option maxRecDepth 20000 in
theorem wsL_law0_r19_in : ∀ w ∈ wsL_law0_r19, w ∈ lw_tbl := fun w h => (goodIn_p wsL_law0_r19 [700, 703, 711, 719] (by decide +kernel) (by decide +kernel) w h).1
set_option maxRecDepth 20000 in
theorem wsL_law0_r20_in : ∀ w ∈ wsL_law0_r20, w ∈ lw_tbl := fun w h => (goodIn_p wsL_law0_r20 [426, 434, 228, 299, 316] (by decide +kernel) (by decide +kernel) w h).1
set_option maxRecDepth 20000 in
theorem wsL_law0_r21_in : ∀ w ∈ wsL_law0_r21, w ∈ lw_tbl := fun w h => (goodIn_p wsL_law0_r21 [319, 369, 384, 398, 402] (by decide +kernel) (by decide +kernel) w h).1
set_option maxRecDepth 20000 in
theorem wsL_law0_r22_in : ∀ w ∈ wsL_law0_r22, w ∈ lw_tbl := fun w h => (goodIn_p wsL_law0_r22 [413, 749, 753, 724, 728, 733] (by decide +kernel) (by decide +kernel) w h).1
set_option maxRecDepth 20000 in
theorem wsL_law0_r23_in : ∀ w ∈ wsL_law0_r23, w ∈ lw_tbl := List.forall_mem_cons.mpr ⟨by decide +kernel, List.forall_mem_cons.mpr ⟨by decide +kernel, List.forall_mem_cons.mpr ⟨by decide +kernel, List.forall_mem_cons.mpr ⟨by decide +kernel, List.forall_mem_cons.mpr ⟨List.mem_of_getElem? (i := 737) rfl, List.forall_mem_cons.mpr ⟨by decide +kernel, List.forall_mem_cons.mpr ⟨by decide +kernel, List.forall_mem_cons.mpr ⟨by decide +kernel, List.forall_mem_cons.mpr ⟨List.mem_of_getElem? (i := 741) rfl, List.forall_mem_cons.mpr ⟨by decide +kernel, List.forall_mem_cons.mpr ⟨by decide +kernel, List.forall_mem_cons.mpr ⟨List.mem_of_getElem? (i := 744) rfl, List.forall_mem_cons.mpr ⟨List.mem_of_getElem? (i := 745) rfl, List.forall_mem_cons.mpr ⟨List.mem_of_getElem? (i := 746) rfl, (fun _ h => absurd h List.not_mem_nil)⟩⟩⟩⟩⟩⟩⟩⟩⟩⟩⟩⟩⟩⟩
theorem zz_in_X50 : ∀ w ∈ wsX50, w ∈ lw_tbl := by decide +kernel
theorem zz_in_X40 : ∀ w ∈ wsX40, w ∈ lw_tbl := by decide +kernel
theorem zz_in_X30 : ∀ w ∈ wsX30, w ∈ lw_tbl := by decide +kernel
theorem zz_in_X10 : ∀ w ∈ wsX10, w ∈ lw_tbl := by decide +kernel
theorem zz_in_X00 : ∀ w ∈ wsX00, w ∈ lw_tbl := by decide +kernel
theorem zz_app {a b t : List Cond} (h1 : ∀ w ∈ a, w ∈ t) (h2 : ∀ w ∈ b, w ∈ t) : ∀ w ∈ a ++ b, w ∈ t := fun w h => (List.mem_append.mp h).elim (h1 w) (h2 w)
theorem wsL_law_in0 : ∀ w ∈ wsL_law0, w ∈ lw_tbl := (zz_app (zz_app (zz_app (zz_app (zz_app (zz_app (zz_app wsL_law0_r1_in (zz_app wsL_law0_r2_in (zz_app wsL_law0_r3_in (zz_app wsL_law0_r4_in (zz_app wsL_law0_r5_in (zz_app wsL_law0_r6_in (zz_app wsL_law0_r7_in (zz_app wsL_law0_r8_in (zz_app wsL_law0_r9_in (zz_app wsL_law0_r10_in (zz_app wsL_law0_r11_in (zz_app wsL_law0_r12_in (zz_app wsL_law0_r13_in (zz_app wsL_law0_r14_in (zz_app wsL_law0_r15_in (zz_app wsL_law0_r16_in (zz_app wsL_law0_r17_in (zz_app wsL_law0_r18_in (zz_app wsL_law0_r19_in (zz_app wsL_law0_r20_in (zz_app wsL_law0_r21_in (zz_app wsL_law0_r22_in wsL_law0_r23_in)))))))))))))))))))))) zz_in_X50) zz_in_X40) zz_in_X30) zz_in_X10) zz_in_X00) (fun _ h => absurd h List.not_mem_nil))
theorem wsL_law_x0 : ∀ w ∈ (vx_atS RX5 45 "java/lang/IllegalArgumentException" ["java/lang/RuntimeException", "java/lang/Exception"]).filter goodWord, w ∈ lw_tbl := by decide +kernel
theorem wsL_law_x1 : ∀ w ∈ (vx_atS RX5 56 "java/lang/IllegalStateException" ["java/lang/RuntimeException", "java/lang/Exception"]).filter goodWord, w ∈ lw_tbl := by decide +kernel
theorem wsL_law_x2 : ∀ w ∈ (vx_atS RX5 269 "java/lang/IndexOutOfBoundsException" ["java/lang/RuntimeException", "java/lang/Exception"]).filter goodWord, w ∈ lw_tbl := by decide +kernel
theorem wsL_law_in : ∀ w ∈ wsL_law, w ∈ lw_tbl := fun w h => (List.mem_append.mp h).elim (fun h => (List.mem_append.mp h).elim (fun h => (List.mem_append.mp h).elim (fun h => wsL_law_in0 w h) (fun h => wsL_law_x0 w h)) (fun h => wsL_law_x1 w h)) (fun h => wsL_law_x2 w h)
theorem inlX0 : ∀ w ∈ wsX00, w ∈ wsL_law := fun _ h => List.mem_append_left _ (List.mem_append_left _ (List.mem_append_left _ (List.mem_append_left _ (List.mem_append_right _ h))))
theorem inX0 : ∀ w ∈ wsX00, w ∈ lw_tbl := fun w h => wsL_law_in w (inlX0 w h)
theorem inlX1 : ∀ w ∈ wsX10, w ∈ wsL_law := fun _ h => List.mem_append_left _ (List.mem_append_left _ (List.mem_append_left _ (List.mem_append_left _ (List.mem_append_left _ (List.mem_append_right _ h)))))
theorem inX1 : ∀ w ∈ wsX10, w ∈ lw_tbl := fun w h => wsL_law_in w (inlX1 w h)
theorem inX2 : ∀ w ∈ wsX20, w ∈ lw_tbl := by decide +kernel
theorem inlX3 : ∀ w ∈ wsX30, w ∈ wsL_law := fun _ h => List.mem_append_left _ (List.mem_append_left _ (List.mem_append_left _ (List.mem_append_left _ (List.mem_append_left _ (List.mem_append_left _ (List.mem_append_right _ h))))))
theorem inX3 : ∀ w ∈ wsX30, w ∈ lw_tbl := fun w h => wsL_law_in w (inlX3 w h)
theorem inlX4 : ∀ w ∈ wsX40, w ∈ wsL_law := fun _ h => List.mem_append_left _ (List.mem_append_left _ (List.mem_append_left _ (List.mem_append_left _ (List.mem_append_left _ (List.mem_append_left _ (List.mem_append_left _ (List.mem_append_right _ h)))))))
theorem inX4 : ∀ w ∈ wsX40, w ∈ lw_tbl := fun w h => wsL_law_in w (inlX4 w h)
theorem inlX5 : ∀ w ∈ wsX50, w ∈ wsL_law := fun _ h => List.mem_append_left _ (List.mem_append_left _ (List.mem_append_left _ (List.mem_append_left _ (List.mem_append_left _ (List.mem_append_left _ (List.mem_append_left _ (List.mem_append_left _ (List.mem_append_right _ h))))))))
theorem inX5 : ∀ w ∈ wsX50, w ∈ lw_tbl := fun w h => wsL_law_in w (inlX5 w h)
theorem inX6 : ∀ w ∈ wsX60, w ∈ lw_tbl := by decide +kernel
theorem inJx145de : ∀ w ∈ wsJx145de0, w ∈ lw_tbl := by decide +kernel
theorem inJ9 : ∀ w ∈ wsJ90, w ∈ lw_tbl := by decide +kernel
theorem inJ0 : ∀ w ∈ wsJ00, w ∈ lw_tbl := by decide +kernel
theorem inJ10 : ∀ w ∈ wsJ100, w ∈ lw_tbl := by decide +kernel
theorem inJ7 : ∀ w ∈ wsJ70, w ∈ lw_tbl := by decide +kernel
set_option maxRecDepth 20000 in
theorem ggL_law_X5_init : GoodIn wsL_law wsX5_init := goodIn_r _ [8, 9, 10, 11, 12, 13, 14, 15, 16, 17, 18, 19, 20, 21, 22, 23, 24, 25, 26, 27, 28, 29, 30, 31, 32, 33, 34, 35, 36, 37, 38, 39, 40, 41, 42, 43, 44, 45, 46, 47, 48, 49, 50, 51, 52, 53, 54, 55, 56, 57, 58, 59, 60, 61, 62, 63, 64, 65, 66, 67, 68, 69, 70, 71, 72, 73, 74, 75, 76, 77, 78, 79, 80, 81, 82, 83, 84, 85, 548, 549, 550, 551, 552, 553, 554, 555, 542, 543, 544, 545, 546, 547, 556, 557, 558, 559, 560, 561, 562, 563, 564, 565, 566, 567, 568, 569, 570, 571, 572, 573, 574, 575, 576, 577] (by decide +kernel) (by decide +kernel)
set_option maxRecDepth 20000 in
theorem gL_law_X5_init : GoodIn wsL_law (wsX5_init) := ggL_law_X5_init
set_option maxRecDepth 20000 in
theorem ggL_law_L_cell : GoodIn wsL_law wsL_cell := goodIn_r _ [89, 90, 91] (by decide +kernel) (by decide +kernel)
set_option maxRecDepth 20000 in
theorem gL_law_L_cell : GoodIn wsL_law (va_wsS RL 194 yL_cell wsL_cell) := goodIn_app (goodIn_of _ (by decide +kernel)) ggL_law_L_cell
set_option maxRecDepth 20000 in
theorem ggL_law_L_refuses : GoodIn wsL_law wsL_refuses := goodIn_ca (goodIn_ca (goodIn_ca (gI_cons (gI_one (List.mem_of_getElem? (i := 94) rfl) rfl) (goodIn_app (goodIn_app (goodIn_app (goodIn_app (goodIn_app (goodIn_app (goodIn_r wsL_refuses_r1 [95, 96, 97, 98, 99, 100, 88, 101, 102, 103, 104, 105, 106, 107, 108, 109, 110, 2, 111, 112, 113, 114, 115, 15] (by decide +kernel) (by decide +kernel)) (goodIn_app (goodIn_r wsL_refuses_r2 [116, 117, 118, 119, 14, 120, 121, 32, 122, 123, 124, 125, 126, 127, 128, 19, 129, 130, 131, 132, 133, 134, 135, 136] (by decide +kernel) (by decide +kernel)) (goodIn_app (goodIn_r wsL_refuses_r3 [137, 138, 139, 140, 141, 142, 143, 144, 145, 146, 147, 148, 149, 150, 151, 152, 153, 154, 155, 156, 157, 47, 158, 55] (by decide +kernel) (by decide +kernel)) (goodIn_app (goodIn_r wsL_refuses_r4 [159, 160, 161, 162, 163, 164, 165, 166, 167, 168, 169, 170, 171, 172, 173, 174, 175, 176, 18, 177, 39, 178, 179, 180] (by decide +kernel) (by decide +kernel)) (goodIn_app (goodIn_r wsL_refuses_r5 [181, 182, 183, 184, 185, 186, 187, 188, 189, 190, 191, 192, 193, 194, 195, 196, 197, 198, 42, 199, 200, 201, 202, 41] (by decide +kernel) (by decide +kernel)) (goodIn_app (goodIn_r wsL_refuses_r6 [203, 204, 205, 206, 207, 52, 208, 209, 210, 211, 57, 212, 213, 214, 215, 216, 217, 218, 219, 220, 221, 222, 223, 224] (by decide +kernel) (by decide +kernel)) (goodIn_app (goodIn_r wsL_refuses_r7 [225, 226, 227, 228, 229, 230, 231, 232, 233, 234, 235, 236, 237, 238, 239, 240, 241, 242, 243, 244, 245, 246, 247, 248] (by decide +kernel) (by decide +kernel)) (goodIn_app (goodIn_r wsL_refuses_r8 [249, 24, 250, 251, 252, 253, 254, 255, 256, 23, 257, 258, 259, 84, 260, 261, 262, 263, 264, 265, 266, 267, 43, 44] (by decide +kernel) (by decide +kernel)) (goodIn_app (goodIn_r wsL_refuses_r9 [45, 62, 63, 64, 65, 66, 268, 269, 270, 271, 272, 53, 54, 56, 72, 73, 273, 274, 275, 276, 48, 58, 59, 60] (by decide +kernel) (by decide +kernel)) (goodIn_app (goodIn_r wsL_refuses_r10 [61, 67, 68, 69, 70, 71, 74, 75, 76, 77, 78, 277, 278, 279, 280, 281, 282, 283, 284, 285, 286, 287, 288, 289] (by decide +kernel) (by decide +kernel)) (goodIn_app (goodIn_r wsL_refuses_r11 [290, 291, 292, 293, 294, 295, 296, 297, 298, 299, 300, 301, 302, 303, 304, 305, 306, 307, 308, 309, 310, 311, 312, 313] (by decide +kernel) (by decide +kernel)) (goodIn_app (goodIn_r wsL_refuses_r12 [314, 315, 316, 317, 318, 319, 320, 321, 322, 323, 324, 325, 326, 327, 328, 329, 330, 33, 331, 332, 333, 334, 335, 34] (by decide +kernel) (by decide +kernel)) (goodIn_app (goodIn_r wsL_refuses_r13 [336, 337, 338, 339, 340, 341, 342, 343, 344, 345, 346, 347, 348, 349, 350, 351, 352, 353, 354, 355, 356, 357, 358, 359] (by decide +kernel) (by decide +kernel)) (goodIn_app (goodIn_r wsL_refuses_r14 [360, 361, 362, 363, 364, 365, 366, 367, 368, 369, 370, 371, 372, 373, 374, 375, 376, 377, 378, 379, 380, 381, 382, 383] (by decide +kernel) (by decide +kernel)) (goodIn_app (goodIn_r wsL_refuses_r15 [384, 385, 386, 387, 388, 389, 390, 391, 392, 393, 394, 395, 396, 397, 398, 399, 400, 401, 402, 20, 403, 404, 405, 406] (by decide +kernel) (by decide +kernel)) (goodIn_app (goodIn_r wsL_refuses_r16 [407, 408, 409, 410, 411, 412, 413, 414, 415, 416, 417, 418, 419, 420, 421, 422, 423, 424, 425, 426, 427, 428, 429, 430] (by decide +kernel) (by decide +kernel)) (goodIn_app (goodIn_r wsL_refuses_r17 [431, 432, 25, 27, 433, 434, 435, 436, 437, 438, 439, 440, 441, 442, 443, 444, 445, 446, 447, 448, 449, 450, 451, 452] (by decide +kernel) (by decide +kernel)) (goodIn_app (goodIn_r wsL_refuses_r18 [453, 454, 455, 456, 457, 458, 459, 460, 461, 462, 463, 464, 465, 466, 467, 468, 469, 470, 471, 472, 473, 474, 475, 476] (by decide +kernel) (by decide +kernel)) (goodIn_app (goodIn_r wsL_refuses_r19 [477, 478, 479, 480, 481, 482, 483, 484, 485, 486, 487, 488, 489, 490, 491, 492, 493, 494, 495, 496, 497, 498, 499, 500] (by decide +kernel) (by decide +kernel)) (goodIn_r wsL_refuses_r20 [501, 502, 503, 504, 505, 506, 507, 508] (by decide +kernel) (by decide +kernel))))))))))))))))))))) (goodIn_r wsX50 [542, 543, 544, 545, 546, 547] (by decide +kernel) (by decide +kernel))) (goodIn_r wsX40 [548, 549, 550, 551, 552, 553, 554, 555] (by decide +kernel) (by decide +kernel))) (goodIn_r wsX30 [556, 557, 558, 559, 560, 561, 562, 563, 564, 565, 566] (by decide +kernel) (by decide +kernel))) (goodIn_r wsX00 [570, 571, 572, 573, 574, 575, 576, 577] (by decide +kernel) (by decide +kernel))) (goodIn_r wsX10 [567, 568, 569] (by decide +kernel) (by decide +kernel)))) (goodIn_sub (fun _ h => List.mem_append_left _ (List.mem_append_left _ (List.mem_append_right _ h))) (by decide +kernel))) (goodIn_sub (fun _ h => List.mem_append_left _ (List.mem_append_right _ h)) (by decide +kernel))) (goodIn_sub (fun _ h => List.mem_append_right _ h) (by decide +kernel))
set_option maxRecDepth 20000 in
theorem gL_law_L_refuses : GoodIn wsL_law (va_wsS RL 198 yL_refuses wsL_refuses) := goodIn_app (goodIn_of _ (by decide +kernel)) ggL_law_L_refuses
set_option maxRecDepth 20000 in
theorem ggL_law_L_act : GoodIn wsL_law wsL_act := goodIn_ca (goodIn_ca (goodIn_ca (gI_cons (gI_one (List.mem_of_getElem? (i := 511) rfl) rfl) (goodIn_app (goodIn_app (goodIn_app (goodIn_app (goodIn_app (goodIn_app (goodIn_r wsL_act_r1 [99, 100, 88, 101, 102, 103, 104, 105, 106, 95, 107, 108, 109, 110, 2, 111, 112, 113, 114, 115, 15, 116, 117, 118] (by decide +kernel) (by decide +kernel)) (goodIn_app (goodIn_r wsL_act_r2 [119, 14, 120, 121, 32, 122, 123, 124, 125, 126, 127, 128, 19, 129, 130, 131, 132, 133, 134, 135, 136, 137, 138, 139] (by decide +kernel) (by decide +kernel)) (goodIn_app (goodIn_r wsL_act_r3 [140, 96, 141, 142, 143, 144, 145, 146, 147, 148, 149, 150, 151, 152, 153, 154, 155, 156, 157, 47, 158, 55, 159, 160] (by decide +kernel) (by decide +kernel)) (goodIn_app (goodIn_r wsL_act_r4 [161, 162, 163, 164, 165, 166, 167, 168, 169, 170, 171, 172, 173, 174, 175, 176, 18, 177, 39, 178, 179, 180, 181, 182] (by decide +kernel) (by decide +kernel)) (goodIn_app (goodIn_r wsL_act_r5 [183, 184, 185, 186, 187, 188, 189, 190, 191, 192, 193, 194, 195, 196, 197, 198, 42, 199, 200, 201, 202, 41, 203, 204] (by decide +kernel) (by decide +kernel)) (goodIn_app (goodIn_r wsL_act_r6 [205, 206, 207, 52, 208, 209, 210, 211, 57, 212, 213, 214, 215, 216, 217, 218, 219, 220, 221, 222, 223, 224, 225, 226] (by decide +kernel) (by decide +kernel)) (goodIn_app (goodIn_r wsL_act_r7 [227, 228, 229, 230, 231, 232, 233, 234, 235, 236, 237, 238, 239, 240, 241, 242, 243, 244, 245, 246, 247, 248, 249, 24] (by decide +kernel) (by decide +kernel)) (goodIn_app (goodIn_r wsL_act_r8 [250, 251, 252, 253, 254, 255, 256, 23, 257, 258, 259, 84, 260, 261, 262, 263, 264, 265, 266, 267, 43, 44, 45, 62] (by decide +kernel) (by decide +kernel)) (goodIn_app (goodIn_r wsL_act_r9 [63, 64, 65, 66, 268, 269, 270, 271, 272, 53, 54, 56, 72, 73, 273, 274, 275, 276, 48, 58, 59, 60, 61, 67] (by decide +kernel) (by decide +kernel)) (goodIn_app (goodIn_r wsL_act_r10 [68, 69, 70, 71, 74, 75, 76, 77, 78, 277, 278, 279, 280, 281, 282, 283, 284, 285, 286, 287, 288, 289, 290, 291] (by decide +kernel) (by decide +kernel)) (goodIn_app (goodIn_r wsL_act_r11 [292, 293, 294, 295, 296, 297, 298, 299, 300, 301, 302, 303, 304, 305, 306, 307, 308, 309, 310, 311, 312, 313, 314, 315] (by decide +kernel) (by decide +kernel)) (goodIn_app (goodIn_r wsL_act_r12 [316, 317, 318, 319, 320, 321, 322, 323, 324, 325, 326, 327, 328, 329, 330, 33, 331, 332, 333, 334, 335, 34, 336, 337] (by decide +kernel) (by decide +kernel)) (goodIn_app (goodIn_r wsL_act_r13 [338, 339, 340, 341, 342, 343, 344, 345, 346, 347, 348, 349, 350, 351, 352, 353, 354, 355, 356, 357, 358, 359, 360, 361] (by decide +kernel) (by decide +kernel)) (goodIn_app (goodIn_r wsL_act_r14 [362, 363, 364, 365, 366, 367, 368, 369, 370, 371, 372, 373, 374, 375, 376, 377, 378, 379, 380, 381, 382, 383, 384, 385] (by decide +kernel) (by decide +kernel)) (goodIn_app (goodIn_r wsL_act_r15 [386, 387, 388, 389, 390, 391, 392, 393, 394, 395, 396, 397, 398, 399, 400, 401, 402, 20, 403, 404, 405, 406, 407, 408] (by decide +kernel) (by decide +kernel)) (goodIn_app (goodIn_r wsL_act_r16 [409, 410, 411, 412, 413, 414, 415, 416, 417, 418, 419, 420, 421, 422, 423, 424, 425, 426, 427, 428, 429, 430, 431, 432] (by decide +kernel) (by decide +kernel)) (goodIn_r wsL_act_r17 [25, 27, 433, 434, 435, 436, 437, 438, 439, 440, 441, 442, 512, 513, 514, 515, 443, 444, 445, 446, 447, 448, 449] (by decide +kernel) (by decide +kernel)))))))))))))))))) (goodIn_r wsX50 [542, 543, 544, 545, 546, 547] (by decide +kernel) (by decide +kernel))) (goodIn_r wsX40 [548, 549, 550, 551, 552, 553, 554, 555] (by decide +kernel) (by decide +kernel))) (goodIn_r wsX30 [556, 557, 558, 559, 560, 561, 562, 563, 564, 565, 566] (by decide +kernel) (by decide +kernel))) (goodIn_r wsX00 [570, 571, 572, 573, 574, 575, 576, 577] (by decide +kernel) (by decide +kernel))) (goodIn_r wsX10 [567, 568, 569] (by decide +kernel) (by decide +kernel)))) (goodIn_sub (fun _ h => List.mem_append_left _ (List.mem_append_left _ (List.mem_append_right _ h))) (by decide +kernel))) (goodIn_sub (fun _ h => List.mem_append_left _ (List.mem_append_right _ h)) (by decide +kernel))) (goodIn_sub (fun _ h => List.mem_append_right _ h) (by decide +kernel))
set_option maxRecDepth 20000 in
theorem gL_law_L_act : GoodIn wsL_law (va_wsS RL 202 yL_act wsL_act) := goodIn_app (goodIn_of _ (by decide +kernel)) ggL_law_L_act
set_option maxRecDepth 20000 in
theorem ggL_law_L_alike : GoodIn wsL_law wsL_alike := goodIn_ca (goodIn_ca (goodIn_ca (gI_cons (gI_one (List.mem_of_getElem? (i := 518) rfl) rfl) (goodIn_app (goodIn_app (goodIn_app (goodIn_app (goodIn_app (goodIn_app (goodIn_r wsL_alike_r1 [519, 520, 521, 2, 522, 15, 523, 318, 319, 14, 320, 316, 321, 322, 121, 32, 315, 323, 324, 325, 326, 327, 328, 329] (by decide +kernel) (by decide +kernel)) (goodIn_app (goodIn_r wsL_alike_r2 [330, 33, 331, 332, 333, 334, 335, 34, 336, 337, 338, 339, 340, 341, 342, 343, 524, 525, 526, 527, 238, 528, 529, 530] (by decide +kernel) (by decide +kernel)) (goodIn_app (goodIn_r wsL_alike_r3 [531, 532, 20, 19, 131, 311, 312, 313, 314, 317, 403, 261, 262, 18, 263, 39, 264, 265, 266, 267, 41, 42, 43, 44] (by decide +kernel) (by decide +kernel)) (goodIn_app (goodIn_r wsL_alike_r4 [45, 62, 63, 64, 65, 66, 268, 269, 270, 47, 271, 52, 272, 53, 54, 55, 56, 57, 72, 73, 344, 345, 346, 347] (by decide +kernel) (by decide +kernel)) (goodIn_app (goodIn_r wsL_alike_r5 [348, 349, 350, 351, 352, 353, 199, 200, 201, 202, 203, 204, 205, 206, 207, 208, 209, 210, 211, 354, 355, 356, 357, 358] (by decide +kernel) (by decide +kernel)) (goodIn_app (goodIn_r wsL_alike_r6 [359, 360, 361, 362, 363, 364, 365, 366, 367, 368, 369, 228, 229, 230, 370, 371, 372, 373, 374, 375, 376, 377, 378, 379] (by decide +kernel) (by decide +kernel)) (goodIn_app (goodIn_r wsL_alike_r7 [533, 534, 535, 536, 185, 187, 99, 100, 88, 101, 102, 103, 104, 105, 106, 95, 107, 108, 109, 110, 111, 112, 113, 114] (by decide +kernel) (by decide +kernel)) (goodIn_app (goodIn_r wsL_alike_r8 [115, 116, 117, 118, 119, 120, 122, 123, 124, 125, 126, 127, 128, 129, 130, 132, 133, 134, 135, 136, 137, 138, 139, 140] (by decide +kernel) (by decide +kernel)) (goodIn_app (goodIn_r wsL_alike_r9 [96, 141, 142, 143, 144, 145, 146, 147, 148, 149, 150, 151, 152, 153, 154, 155, 156, 157, 158, 159, 160, 161, 162, 163] (by decide +kernel) (by decide +kernel)) (goodIn_app (goodIn_r wsL_alike_r10 [164, 165, 166, 167, 168, 169, 170, 171, 172, 173, 174, 175, 176, 177, 178, 179, 180, 181, 182, 183, 184, 186, 188, 189] (by decide +kernel) (by decide +kernel)) (goodIn_app (goodIn_r wsL_alike_r11 [190, 191, 192, 193, 194, 195, 196, 197, 198, 212, 213, 214, 215, 216, 217, 218, 219, 220, 221, 222, 223, 224, 225, 226] (by decide +kernel) (by decide +kernel)) (goodIn_app (goodIn_r wsL_alike_r12 [227, 231, 232, 233, 234, 235, 236, 237, 239, 240, 241, 242, 243, 244, 245, 246, 247, 248, 249, 24, 250, 251, 252, 253] (by decide +kernel) (by decide +kernel)) (goodIn_app (goodIn_r wsL_alike_r13 [254, 255, 256, 23, 257, 258, 259, 84, 260, 273, 274, 275, 276, 48, 58, 59, 60, 61, 67, 68, 69, 70, 71, 74] (by decide +kernel) (by decide +kernel)) (goodIn_app (goodIn_r wsL_alike_r14 [75, 76, 77, 78, 277, 278, 279, 280, 281, 282, 283, 284, 285, 286, 287, 288, 289, 290, 291, 292, 293, 294, 295, 296] (by decide +kernel) (by decide +kernel)) (goodIn_app (goodIn_r wsL_alike_r15 [297, 298, 299, 300, 301, 302, 303, 304, 305, 306, 307, 308, 309, 310, 380, 381, 382, 383, 384, 385, 386, 387, 388, 389] (by decide +kernel) (by decide +kernel)) (goodIn_app (goodIn_r wsL_alike_r16 [390, 391, 392, 393, 394, 395, 396, 397, 398, 399, 400, 401, 402, 404, 405, 406, 407, 408, 409, 410, 411, 412, 413, 414] (by decide +kernel) (by decide +kernel)) (goodIn_app (goodIn_r wsL_alike_r17 [415, 416, 417, 418, 419, 420, 421, 422, 423, 424, 425, 426, 427, 428, 429, 430, 431, 432, 25, 27, 433, 434, 435, 436] (by decide +kernel) (by decide +kernel)) (goodIn_r wsL_alike_r18 [437, 438, 439, 440, 441, 442] (by decide +kernel) (by decide +kernel))))))))))))))))))) (goodIn_r wsX50 [542, 543, 544, 545, 546, 547] (by decide +kernel) (by decide +kernel))) (goodIn_r wsX40 [548, 549, 550, 551, 552, 553, 554, 555] (by decide +kernel) (by decide +kernel))) (goodIn_r wsX30 [556, 557, 558, 559, 560, 561, 562, 563, 564, 565, 566] (by decide +kernel) (by decide +kernel))) (goodIn_r wsX00 [570, 571, 572, 573, 574, 575, 576, 577] (by decide +kernel) (by decide +kernel))) (goodIn_r wsX10 [567, 568, 569] (by decide +kernel) (by decide +kernel)))) (goodIn_sub (fun _ h => List.mem_append_left _ (List.mem_append_left _ (List.mem_append_right _ h))) (by decide +kernel))) (goodIn_sub (fun _ h => List.mem_append_left _ (List.mem_append_right _ h)) (by decide +kernel))) (goodIn_sub (fun _ h => List.mem_append_right _ h) (by decide +kernel))
set_option maxRecDepth 20000 in
theorem gL_law_L_alike : GoodIn wsL_law (va_wsS RL 205 yL_alike wsL_alike) := goodIn_app (goodIn_of _ (by decide +kernel)) ggL_law_L_alike
set_option maxRecDepth 20000 in
theorem ggL_law_L_holds : GoodIn wsL_law wsL_holds := goodIn_ca (goodIn_ca (goodIn_ca (gI_cons (gI_one (List.mem_of_getElem? (i := 539) rfl) rfl) (goodIn_app (goodIn_app (goodIn_app (goodIn_app (goodIn_app (goodIn_app (goodIn_r wsL_holds_r1 [540, 541, 107, 99, 100, 88, 101, 102, 103, 104, 105, 106, 95, 108, 109, 110, 2, 111, 112, 113, 114, 115, 15, 116] (by decide +kernel) (by decide +kernel)) (goodIn_app (goodIn_r wsL_holds_r2 [117, 118, 119, 14, 120, 121, 32, 122, 123, 124, 125, 126, 127, 128, 19, 129, 130, 131, 132, 133, 134, 135, 136, 137] (by decide +kernel) (by decide +kernel)) (goodIn_app (goodIn_r wsL_holds_r3 [138, 139, 140, 96, 141, 142, 143, 144, 145, 146, 147, 148, 149, 150, 151, 152, 153, 154, 155, 156, 157, 47, 158, 55] (by decide +kernel) (by decide +kernel)) (goodIn_app (goodIn_r wsL_holds_r4 [159, 160, 161, 162, 163, 164, 165, 166, 167, 168, 169, 170, 171, 172, 173, 174, 175, 176, 18, 177, 39, 178, 179, 180] (by decide +kernel) (by decide +kernel)) (goodIn_app (goodIn_r wsL_holds_r5 [181, 182, 183, 184, 185, 186, 187, 188, 189, 190, 191, 192, 193, 194, 195, 196, 197, 198, 42, 199, 200, 201, 202, 41] (by decide +kernel) (by decide +kernel)) (goodIn_app (goodIn_r wsL_holds_r6 [203, 204, 205, 206, 207, 52, 208, 209, 210, 211, 57, 212, 213, 214, 215, 216, 217, 218, 219, 220, 221, 222, 223, 224] (by decide +kernel) (by decide +kernel)) (goodIn_app (goodIn_r wsL_holds_r7 [225, 226, 227, 228, 229, 230, 231, 232, 233, 234, 235, 236, 237, 238, 239, 240, 241, 242, 243, 244, 245, 246, 247, 248] (by decide +kernel) (by decide +kernel)) (goodIn_app (goodIn_r wsL_holds_r8 [249, 24, 250, 251, 252, 253, 254, 255, 256, 23, 257, 258, 259, 84, 260, 261, 262, 263, 264, 265, 266, 267, 43, 44] (by decide +kernel) (by decide +kernel)) (goodIn_app (goodIn_r wsL_holds_r9 [45, 62, 63, 64, 65, 66, 268, 269, 270, 271, 272, 53, 54, 56, 72, 73, 273, 274, 275, 276, 48, 58, 59, 60] (by decide +kernel) (by decide +kernel)) (goodIn_app (goodIn_r wsL_holds_r10 [61, 67, 68, 69, 70, 71, 74, 75, 76, 77, 78, 277, 278, 279, 280, 281, 282, 283, 284, 285, 286, 287, 288, 289] (by decide +kernel) (by decide +kernel)) (goodIn_app (goodIn_r wsL_holds_r11 [290, 291, 292, 293, 294, 295, 296, 297, 298, 299, 300, 301, 302, 303, 304, 305, 306, 307, 308, 309, 310, 311, 312, 313] (by decide +kernel) (by decide +kernel)) (goodIn_app (goodIn_r wsL_holds_r12 [314, 315, 316, 317, 318, 319, 320, 321, 322, 323, 324, 325, 326, 327, 328, 329, 330, 33, 331, 332, 333, 334, 335, 34] (by decide +kernel) (by decide +kernel)) (goodIn_app (goodIn_r wsL_holds_r13 [336, 337, 338, 339, 340, 341, 342, 343, 344, 345, 346, 347, 348, 349, 350, 351, 352, 353, 354, 355, 356, 357, 358, 359] (by decide +kernel) (by decide +kernel)) (goodIn_app (goodIn_r wsL_holds_r14 [360, 361, 362, 363, 364, 365, 366, 367, 368, 369, 370, 371, 372, 373, 374, 375, 376, 377, 378, 379, 380, 381, 382, 383] (by decide +kernel) (by decide +kernel)) (goodIn_app (goodIn_r wsL_holds_r15 [384, 385, 386, 387, 388, 389, 390, 391, 392, 393, 394, 395, 396, 397, 398, 399, 400, 401, 402, 20, 403, 404, 405, 406] (by decide +kernel) (by decide +kernel)) (goodIn_app (goodIn_r wsL_holds_r16 [407, 408, 409, 410, 411, 412, 413, 414, 415, 416, 417, 418, 419, 420, 421, 422, 423, 424, 425, 426, 427, 428, 429, 430] (by decide +kernel) (by decide +kernel)) (goodIn_app (goodIn_r wsL_holds_r17 [431, 432, 25, 27, 433, 434, 435, 436, 437, 438, 439, 440, 441, 442, 443, 444, 445, 446, 447, 448, 449, 529, 530, 531] (by decide +kernel) (by decide +kernel)) (goodIn_r wsL_holds_r18 [532, 524, 525, 526, 527, 528, 523] (by decide +kernel) (by decide +kernel))))))))))))))))))) (goodIn_r wsX50 [542, 543, 544, 545, 546, 547] (by decide +kernel) (by decide +kernel))) (goodIn_r wsX40 [548, 549, 550, 551, 552, 553, 554, 555] (by decide +kernel) (by decide +kernel))) (goodIn_r wsX30 [556, 557, 558, 559, 560, 561, 562, 563, 564, 565, 566] (by decide +kernel) (by decide +kernel))) (goodIn_r wsX00 [570, 571, 572, 573, 574, 575, 576, 577] (by decide +kernel) (by decide +kernel))) (goodIn_r wsX10 [567, 568, 569] (by decide +kernel) (by decide +kernel)))) (goodIn_sub (fun _ h => List.mem_append_left _ (List.mem_append_left _ (List.mem_append_right _ h))) (by decide +kernel))) (goodIn_sub (fun _ h => List.mem_append_left _ (List.mem_append_right _ h)) (by decide +kernel))) (goodIn_sub (fun _ h => List.mem_append_right _ h) (by decide +kernel))
set_option maxRecDepth 20000 in
theorem gL_law_L_holds : GoodIn wsL_law (va_wsS RL 209 yL_holds wsL_holds) := goodIn_app (goodIn_of _ (by decide +kernel)) ggL_law_L_holds
set_option maxRecDepth 20000 in
theorem ggL_law_L_trySimulate : GoodIn wsL_law wsL_trySimulate := goodIn_ca (goodIn_r _ [452, 105, 95, 453, 454, 455, 2, 456, 112, 113, 20, 19, 457, 458, 130, 459, 367, 360, 368, 403, 261, 262, 18, 263, 39, 264, 265, 266, 267, 41, 42, 43, 44, 45, 62, 63, 64, 65, 66, 268, 269, 270, 47, 271, 52, 272, 53, 54, 55, 56, 57, 72, 73, 425, 351, 352, 353, 199, 200, 201, 202, 203, 204, 205, 206, 207, 208, 209, 210, 211, 354, 355, 356, 357, 358, 359, 361, 362, 363, 364, 365, 366, 369, 228, 229, 230, 370, 371, 372, 373, 374, 375, 376, 377, 378, 379, 460, 461, 462, 463, 464, 542, 543, 544, 545, 546, 547, 556, 557, 558, 559, 560, 561, 562, 563, 564, 565, 566, 570, 571, 572, 573, 574, 575, 576, 577] (by decide +kernel) (by decide +kernel)) (goodIn_sub (fun _ h => List.mem_append_left _ (List.mem_append_left _ (List.mem_append_right _ h))) (by decide +kernel))
set_option maxRecDepth 20000 in
theorem gL_law_L_trySimulate : GoodIn wsL_law (va_wsS RL 164 yL_trySimulate wsL_trySimulate) := goodIn_app (goodIn_of _ (by decide +kernel)) ggL_law_L_trySimulate
set_option maxRecDepth 20000 in
theorem ggL_law_L_tryScript : GoodIn wsL_law wsL_tryScript := goodIn_ca (goodIn_r _ [467, 105, 95, 468, 469, 470, 2, 471, 112, 113, 20, 19, 472, 238, 473, 474, 475, 403, 261, 262, 18, 263, 39, 264, 265, 266, 267, 41, 42, 43, 44, 45, 62, 63, 64, 65, 66, 268, 269, 270, 47, 271, 52, 272, 53, 54, 55, 56, 57, 72, 73, 476, 477, 478, 479, 480, 481, 482, 483, 484, 485, 486, 193, 194, 487, 351, 352, 353, 199, 200, 201, 202, 203, 204, 205, 206, 207, 208, 209, 210, 211, 354, 355, 356, 357, 358, 359, 360, 361, 362, 363, 364, 365, 366, 367, 368, 369, 228, 229, 230, 370, 371, 372, 373, 374, 375, 376, 377, 378, 379, 488, 489, 490, 153, 154, 251, 252, 253, 491, 274, 275, 276, 48, 58, 59, 60, 61, 67, 68, 69, 70, 71, 74, 75, 76, 77, 78, 492, 493, 494, 285, 286, 287, 288, 495, 290, 291, 292, 496, 497, 498, 499, 500, 501, 502, 503, 175, 176, 177, 504, 301, 302, 303, 505, 506, 507, 508, 196, 197, 198, 542, 543, 544, 545, 546, 547, 556, 557, 558, 559, 560, 561, 562, 563, 564, 565, 566, 570, 571, 572, 573, 574, 575, 576, 577] (by decide +kernel) (by decide +kernel)) (goodIn_sub (fun _ h => List.mem_append_left _ (List.mem_append_left _ (List.mem_append_right _ h))) (by decide +kernel))
set_option maxRecDepth 20000 in
theorem gL_law_L_tryScript : GoodIn wsL_law (va_wsS RL 168 yL_tryScript wsL_tryScript) := goodIn_app (goodIn_of _ (by decide +kernel)) ggL_law_L_tryScript
theorem dL_law_0 : decode cL_law 0 = .ok (.new 8, 3) := by decide +kernel
theorem dL_law_3 : decode cL_law 3 = .ok (.dup, 1) := by decide +kernel
theorem dL_law_4 : decode cL_law 4 = .ok (.invokespecial 193, 3) := by decide +kernel
theorem dL_law_7 : decode cL_law 7 = .ok (.astore_n 1, 1) := by decide +kernel
theorem dL_law_8 : decode cL_law 8 = .ok (.new 8, 3) := by decide +kernel
theorem dL_law_11 : decode cL_law 11 = .ok (.dup, 1) := by decide +kernel
theorem dL_law_12 : decode cL_law 12 = .ok (.invokespecial 193, 3) := by decide +kernel
theorem dL_law_15 : decode cL_law 15 = .ok (.astore_n 2, 1) := by decide +kernel
theorem dL_law_16 : decode cL_law 16 = .ok (.iconst 1, 1) := by decide +kernel
theorem dL_law_17 : decode cL_law 17 = .ok (.istore_n 3, 1) := by decide +kernel
theorem dL_law_18 : decode cL_law 18 = .ok (.iconst 0, 1) := by decide +kernel
theorem dL_law_19 : decode cL_law 19 = .ok (.istore 4, 2) := by decide +kernel
theorem dL_law_21 : decode cL_law 21 = .ok (.iload 4, 2) := by decide +kernel
theorem dL_law_23 : decode cL_law 23 = .ok (.bipush 28, 2) := by decide +kernel
theorem dL_law_25 : decode cL_law 25 = .ok (.if_icmp .ge 219, 3) := by decide +kernel
theorem dL_law_28 : decode cL_law 28 = .ok (.iload_n 3, 1) := by decide +kernel
theorem dL_law_29 : decode cL_law 29 = .ok (.ifCond .eq 215, 3) := by decide +kernel
theorem dL_law_32 : decode cL_law 32 = .ok (.aload_n 0, 1) := by decide +kernel
theorem dL_law_33 : decode cL_law 33 = .ok (.iconst 2, 1) := by decide +kernel
theorem dL_law_34 : decode cL_law 34 = .ok (.iload 4, 2) := by decide +kernel
theorem dL_law_36 : decode cL_law 36 = .ok (.imul, 1) := by decide +kernel
theorem dL_law_37 : decode cL_law 37 = .ok (.invokestatic 194, 3) := by decide +kernel
theorem dL_law_40 : decode cL_law 40 = .ok (.istore 5, 2) := by decide +kernel
theorem dL_law_42 : decode cL_law 42 = .ok (.aload_n 0, 1) := by decide +kernel
theorem dL_law_43 : decode cL_law 43 = .ok (.iconst 2, 1) := by decide +kernel
theorem dL_law_44 : decode cL_law 44 = .ok (.iload 4, 2) := by decide +kernel
theorem dL_law_46 : decode cL_law 46 = .ok (.imul, 1) := by decide +kernel
theorem dL_law_47 : decode cL_law 47 = .ok (.iconst 1, 1) := by decide +kernel
theorem dL_law_48 : decode cL_law 48 = .ok (.iadd, 1) := by decide +kernel
theorem dL_law_49 : decode cL_law 49 = .ok (.invokestatic 194, 3) := by decide +kernel
theorem dL_law_52 : decode cL_law 52 = .ok (.istore 6, 2) := by decide +kernel
theorem dL_law_54 : decode cL_law 54 = .ok (.aload_n 1, 1) := by decide +kernel
theorem dL_law_55 : decode cL_law 55 = .ok (.iload 5, 2) := by decide +kernel
theorem dL_law_57 : decode cL_law 57 = .ok (.invokestatic 198, 3) := by decide +kernel
theorem dL_law_60 : decode cL_law 60 = .ok (.ifCond .eq 45, 3) := by decide +kernel
theorem dL_law_63 : decode cL_law 63 = .ok (.aload_n 1, 1) := by decide +kernel
theorem dL_law_64 : decode cL_law 64 = .ok (.iload 5, 2) := by decide +kernel
theorem dL_law_66 : decode cL_law 66 = .ok (.iload 6, 2) := by decide +kernel
theorem dL_law_68 : decode cL_law 68 = .ok (.invokestatic 202, 3) := by decide +kernel
theorem dL_law_71 : decode cL_law 71 = .ok (.aload_n 2, 1) := by decide +kernel
theorem dL_law_72 : decode cL_law 72 = .ok (.iload 5, 2) := by decide +kernel
theorem dL_law_74 : decode cL_law 74 = .ok (.iload 6, 2) := by decide +kernel
theorem dL_law_76 : decode cL_law 76 = .ok (.invokestatic 202, 3) := by decide +kernel
theorem dL_law_79 : decode cL_law 79 = .ok (.if_icmp .ne 26, 3) := by decide +kernel
theorem dL_law_82 : decode cL_law 82 = .ok (.aload_n 1, 1) := by decide +kernel
theorem dL_law_83 : decode cL_law 83 = .ok (.iload 6, 2) := by decide +kernel
theorem dL_law_85 : decode cL_law 85 = .ok (.invokestatic 198, 3) := by decide +kernel
theorem dL_law_88 : decode cL_law 88 = .ok (.ifCond .eq 17, 3) := by decide +kernel
theorem dL_law_91 : decode cL_law 91 = .ok (.aload_n 1, 1) := by decide +kernel
theorem dL_law_92 : decode cL_law 92 = .ok (.aload_n 2, 1) := by decide +kernel
theorem dL_law_93 : decode cL_law 93 = .ok (.iload 5, 2) := by decide +kernel
theorem dL_law_95 : decode cL_law 95 = .ok (.invokestatic 205, 3) := by decide +kernel
theorem dL_law_98 : decode cL_law 98 = .ok (.ifCond .eq 7, 3) := by decide +kernel
theorem dL_law_101 : decode cL_law 101 = .ok (.iconst 1, 1) := by decide +kernel
theorem dL_law_102 : decode cL_law 102 = .ok (.goto 4, 3) := by decide +kernel
theorem dL_law_105 : decode cL_law 105 = .ok (.iconst 0, 1) := by decide +kernel
theorem dL_law_106 : decode cL_law 106 = .ok (.istore_n 3, 1) := by decide +kernel
theorem dL_law_107 : decode cL_law 107 = .ok (.iload 4, 2) := by decide +kernel
theorem dL_law_109 : decode cL_law 109 = .ok (.iconst 3, 1) := by decide +kernel
theorem dL_law_110 : decode cL_law 110 = .ok (.irem, 1) := by decide +kernel
theorem dL_law_111 : decode cL_law 111 = .ok (.iconst 2, 1) := by decide +kernel
theorem dL_law_112 : decode cL_law 112 = .ok (.if_icmp .ne 126, 3) := by decide +kernel
theorem dL_law_115 : decode cL_law 115 = .ok (.iload_n 3, 1) := by decide +kernel
theorem dL_law_116 : decode cL_law 116 = .ok (.ifCond .eq 122, 3) := by decide +kernel
theorem dL_law_119 : decode cL_law 119 = .ok (.aload_n 1, 1) := by decide +kernel
theorem dL_law_120 : decode cL_law 120 = .ok (.iload 6, 2) := by decide +kernel
theorem dL_law_122 : decode cL_law 122 = .ok (.invokestatic 209, 3) := by decide +kernel
theorem dL_law_125 : decode cL_law 125 = .ok (.ifCond .eq 16, 3) := by decide +kernel
theorem dL_law_128 : decode cL_law 128 = .ok (.aload_n 2, 1) := by decide +kernel
theorem dL_law_129 : decode cL_law 129 = .ok (.iload 6, 2) := by decide +kernel
theorem dL_law_131 : decode cL_law 131 = .ok (.invokestatic 209, 3) := by decide +kernel
theorem dL_law_134 : decode cL_law 134 = .ok (.ifCond .eq 7, 3) := by decide +kernel
theorem dL_law_137 : decode cL_law 137 = .ok (.iconst 1, 1) := by decide +kernel
theorem dL_law_138 : decode cL_law 138 = .ok (.goto 4, 3) := by decide +kernel
theorem dL_law_141 : decode cL_law 141 = .ok (.iconst 0, 1) := by decide +kernel
theorem dL_law_142 : decode cL_law 142 = .ok (.istore_n 3, 1) := by decide +kernel
theorem dL_law_143 : decode cL_law 143 = .ok (.iload 5, 2) := by decide +kernel
theorem dL_law_145 : decode cL_law 145 = .ok (.i2l, 1) := by decide +kernel
theorem dL_law_146 : decode cL_law 146 = .ok (.ldc2_w 211, 3) := by decide +kernel
theorem dL_law_149 : decode cL_law 149 = .ok (.lmul, 1) := by decide +kernel
theorem dL_law_150 : decode cL_law 150 = .ok (.ldc2_w 213, 3) := by decide +kernel
theorem dL_law_153 : decode cL_law 153 = .ok (.lsub, 1) := by decide +kernel
theorem dL_law_154 : decode cL_law 154 = .ok (.lstore 7, 2) := by decide +kernel
theorem dL_law_156 : decode cL_law 156 = .ok (.aload_n 1, 1) := by decide +kernel
theorem dL_law_157 : decode cL_law 157 = .ok (.lload 7, 2) := by decide +kernel
theorem dL_law_159 : decode cL_law 159 = .ok (.iconst 1, 1) := by decide +kernel
theorem dL_law_160 : decode cL_law 160 = .ok (.iload 6, 2) := by decide +kernel
theorem dL_law_162 : decode cL_law 162 = .ok (.sipush 300, 3) := by decide +kernel
theorem dL_law_165 : decode cL_law 165 = .ok (.irem, 1) := by decide +kernel
theorem dL_law_166 : decode cL_law 166 = .ok (.iadd, 1) := by decide +kernel
theorem dL_law_167 : decode cL_law 167 = .ok (.invokestatic 164, 3) := by decide +kernel
theorem dL_law_170 : decode cL_law 170 = .ok (.istore 9, 2) := by decide +kernel
theorem dL_law_172 : decode cL_law 172 = .ok (.iload_n 3, 1) := by decide +kernel
theorem dL_law_173 : decode cL_law 173 = .ok (.ifCond .eq 63, 3) := by decide +kernel
theorem dL_law_176 : decode cL_law 176 = .ok (.iload 9, 2) := by decide +kernel
theorem dL_law_178 : decode cL_law 178 = .ok (.aload_n 2, 1) := by decide +kernel
theorem dL_law_179 : decode cL_law 179 = .ok (.lload 7, 2) := by decide +kernel
theorem dL_law_181 : decode cL_law 181 = .ok (.iconst 1, 1) := by decide +kernel
theorem dL_law_182 : decode cL_law 182 = .ok (.iload 6, 2) := by decide +kernel
theorem dL_law_184 : decode cL_law 184 = .ok (.sipush 300, 3) := by decide +kernel
theorem dL_law_187 : decode cL_law 187 = .ok (.irem, 1) := by decide +kernel
theorem dL_law_188 : decode cL_law 188 = .ok (.iadd, 1) := by decide +kernel
theorem dL_law_189 : decode cL_law 189 = .ok (.invokestatic 164, 3) := by decide +kernel
theorem dL_law_192 : decode cL_law 192 = .ok (.if_icmp .ne 44, 3) := by decide +kernel
theorem dL_law_195 : decode cL_law 195 = .ok (.aload_n 1, 1) := by decide +kernel
theorem dL_law_196 : decode cL_law 196 = .ok (.iconst 2, 1) := by decide +kernel
theorem dL_law_197 : decode cL_law 197 = .ok (.iload 6, 2) := by decide +kernel
theorem dL_law_199 : decode cL_law 199 = .ok (.i2l, 1) := by decide +kernel
theorem dL_law_200 : decode cL_law 200 = .ok (.ldc2_w 215, 3) := by decide +kernel
theorem dL_law_203 : decode cL_law 203 = .ok (.lmul, 1) := by decide +kernel
theorem dL_law_204 : decode cL_law 204 = .ok (.invokestatic 168, 3) := by decide +kernel
theorem dL_law_207 : decode cL_law 207 = .ok (.aload_n 2, 1) := by decide +kernel
theorem dL_law_208 : decode cL_law 208 = .ok (.iconst 2, 1) := by decide +kernel
theorem dL_law_209 : decode cL_law 209 = .ok (.iload 6, 2) := by decide +kernel
theorem dL_law_211 : decode cL_law 211 = .ok (.i2l, 1) := by decide +kernel
theorem dL_law_212 : decode cL_law 212 = .ok (.ldc2_w 215, 3) := by decide +kernel
theorem dL_law_215 : decode cL_law 215 = .ok (.lmul, 1) := by decide +kernel
theorem dL_law_216 : decode cL_law 216 = .ok (.invokestatic 168, 3) := by decide +kernel
theorem dL_law_219 : decode cL_law 219 = .ok (.if_icmp .ne 17, 3) := by decide +kernel
theorem dL_law_222 : decode cL_law 222 = .ok (.aload_n 1, 1) := by decide +kernel
theorem dL_law_223 : decode cL_law 223 = .ok (.aload_n 2, 1) := by decide +kernel
theorem dL_law_224 : decode cL_law 224 = .ok (.iload 6, 2) := by decide +kernel
theorem dL_law_226 : decode cL_law 226 = .ok (.invokestatic 205, 3) := by decide +kernel
theorem dL_law_229 : decode cL_law 229 = .ok (.ifCond .eq 7, 3) := by decide +kernel
theorem dL_law_232 : decode cL_law 232 = .ok (.iconst 1, 1) := by decide +kernel
theorem dL_law_233 : decode cL_law 233 = .ok (.goto 4, 3) := by decide +kernel
theorem dL_law_236 : decode cL_law 236 = .ok (.iconst 0, 1) := by decide +kernel
theorem dL_law_237 : decode cL_law 237 = .ok (.istore_n 3, 1) := by decide +kernel
theorem dL_law_238 : decode cL_law 238 = .ok (.iinc 4 1, 3) := by decide +kernel
theorem dL_law_241 : decode cL_law 241 = .ok (.goto (-220), 3) := by decide +kernel
theorem dL_law_244 : decode cL_law 244 = .ok (.iload_n 3, 1) := by decide +kernel
theorem dL_law_245 : decode cL_law 245 = .ok (.ireturn, 1) := by decide +kernel

