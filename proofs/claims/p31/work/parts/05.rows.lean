set_option maxRecDepth 20000 in
theorem ggX5_init_X4_init : GoodIn wsX5_init wsX4_init := goodIn_r _ [21, 22, 2, 3, 23, 24, 25, 26, 78, 79, 80, 81, 82, 83, 84, 85] (by decide +kernel) (by decide +kernel)
set_option maxRecDepth 20000 in
theorem gX5_init_X4_init_n9 : GoodIn wsX5_init (wsX4_init) := ggX5_init_X4_init
set_option maxRecDepth 20000 in
theorem ggX5_init_X3_init : GoodIn wsX5_init wsX3_init := goodIn_r _ [29, 30, 2, 3, 23, 31, 32, 33, 34, 35, 36, 37, 38, 39, 40, 41, 42, 43, 44, 45, 46, 47, 48, 49, 50, 51, 52, 10, 53, 54, 55, 56, 57, 58, 59, 60, 61, 62, 63, 64, 65, 66, 67, 68, 69, 70, 92, 93, 94, 95, 96, 97, 98, 99, 100, 101, 102, 106, 107, 108, 109, 110, 111, 112, 113] (by decide +kernel) (by decide +kernel)
set_option maxRecDepth 20000 in
theorem gX5_init_X3_init : GoodIn wsX5_init (wsX3_init) := ggX5_init_X3_init
set_option maxRecDepth 20000 in
theorem ggX5_init_X1_init : GoodIn wsX5_init wsX1_init := goodIn_r _ [73, 74, 2, 3, 75, 76, 9, 10, 77, 28, 29, 30, 23, 31, 32, 33, 34, 35, 36, 37, 38, 39, 40, 41, 42, 43, 44, 45, 46, 47, 48, 49, 50, 51, 52, 53, 54, 55, 56, 57, 58, 59, 60, 61, 62, 63, 64, 65, 66, 67, 68, 69, 70, 103, 104, 105, 92, 93, 94, 95, 96, 97, 98, 99, 100, 101, 102, 106, 107, 108, 109, 110, 111, 112, 113] (by decide +kernel) (by decide +kernel)
set_option maxRecDepth 20000 in
theorem gX5_init_X1_init : GoodIn wsX5_init (wsX1_init) := ggX5_init_X1_init
theorem dX5_init_0 : decode cX5_init 0 = .ok (.aload_n 0, 1) := by decide +kernel
theorem dX5_init_1 : decode cX5_init 1 = .ok (.invokespecial 1, 3) := by decide +kernel
theorem dX5_init_4 : decode cX5_init 4 = .ok (.aload_n 0, 1) := by decide +kernel
theorem dX5_init_5 : decode cX5_init 5 = .ok (.new 7, 3) := by decide +kernel
theorem dX5_init_8 : decode cX5_init 8 = .ok (.dup, 1) := by decide +kernel
theorem dX5_init_9 : decode cX5_init 9 = .ok (.invokespecial 9, 3) := by decide +kernel
theorem dX5_init_12 : decode cX5_init 12 = .ok (.putfield 10, 3) := by decide +kernel
theorem dX5_init_15 : decode cX5_init 15 = .ok (.aload_n 0, 1) := by decide +kernel
theorem dX5_init_16 : decode cX5_init 16 = .ok (.new 16, 3) := by decide +kernel
theorem dX5_init_19 : decode cX5_init 19 = .ok (.dup, 1) := by decide +kernel
theorem dX5_init_20 : decode cX5_init 20 = .ok (.invokespecial 18, 3) := by decide +kernel
theorem dX5_init_23 : decode cX5_init 23 = .ok (.putfield 19, 3) := by decide +kernel
theorem dX5_init_26 : decode cX5_init 26 = .ok (.aload_n 0, 1) := by decide +kernel
theorem dX5_init_27 : decode cX5_init 27 = .ok (.new 16, 3) := by decide +kernel
theorem dX5_init_30 : decode cX5_init 30 = .ok (.dup, 1) := by decide +kernel
theorem dX5_init_31 : decode cX5_init 31 = .ok (.invokespecial 18, 3) := by decide +kernel
theorem dX5_init_34 : decode cX5_init 34 = .ok (.putfield 23, 3) := by decide +kernel
theorem dX5_init_37 : decode cX5_init 37 = .ok (.aload_n 0, 1) := by decide +kernel
theorem dX5_init_38 : decode cX5_init 38 = .ok (.new 26, 3) := by decide +kernel
theorem dX5_init_41 : decode cX5_init 41 = .ok (.dup, 1) := by decide +kernel
theorem dX5_init_42 : decode cX5_init 42 = .ok (.invokespecial 28, 3) := by decide +kernel
theorem dX5_init_45 : decode cX5_init 45 = .ok (.putfield 29, 3) := by decide +kernel
theorem dX5_init_48 : decode cX5_init 48 = .ok (.aload_n 0, 1) := by decide +kernel
theorem dX5_init_49 : decode cX5_init 49 = .ok (.iconst 2, 1) := by decide +kernel
theorem dX5_init_50 : decode cX5_init 50 = .ok (.anewarray 16, 3) := by decide +kernel
theorem dX5_init_53 : decode cX5_init 53 = .ok (.putfield 33, 3) := by decide +kernel
theorem dX5_init_56 : decode cX5_init 56 = .ok (.iconst 0, 1) := by decide +kernel
theorem dX5_init_57 : decode cX5_init 57 = .ok (.istore_n 1, 1) := by decide +kernel
theorem dX5_init_58 : decode cX5_init 58 = .ok (.iload_n 1, 1) := by decide +kernel
theorem dX5_init_59 : decode cX5_init 59 = .ok (.iconst 2, 1) := by decide +kernel
theorem dX5_init_60 : decode cX5_init 60 = .ok (.if_icmp .ge 22, 3) := by decide +kernel
theorem dX5_init_63 : decode cX5_init 63 = .ok (.aload_n 0, 1) := by decide +kernel
theorem dX5_init_64 : decode cX5_init 64 = .ok (.getfield 33, 3) := by decide +kernel
theorem dX5_init_67 : decode cX5_init 67 = .ok (.iload_n 1, 1) := by decide +kernel
theorem dX5_init_68 : decode cX5_init 68 = .ok (.new 16, 3) := by decide +kernel
theorem dX5_init_71 : decode cX5_init 71 = .ok (.dup, 1) := by decide +kernel
theorem dX5_init_72 : decode cX5_init 72 = .ok (.invokespecial 18, 3) := by decide +kernel
theorem dX5_init_75 : decode cX5_init 75 = .ok (.aastore, 1) := by decide +kernel
theorem dX5_init_76 : decode cX5_init 76 = .ok (.iinc 1 1, 3) := by decide +kernel
theorem dX5_init_79 : decode cX5_init 79 = .ok (.goto (-21), 3) := by decide +kernel
theorem dX5_init_82 : decode cX5_init 82 = .ok (.aload_n 0, 1) := by decide +kernel
theorem dX5_init_83 : decode cX5_init 83 = .ok (.iconst 2, 1) := by decide +kernel
theorem dX5_init_84 : decode cX5_init 84 = .ok (.newarray .boolean, 2) := by decide +kernel
theorem dX5_init_86 : decode cX5_init 86 = .ok (.putfield 37, 3) := by decide +kernel
theorem dX5_init_89 : decode cX5_init 89 = .ok (.return_, 1) := by decide +kernel
set_option maxRecDepth 20000 in
theorem ggX5_append_X4_add : GoodIn wsX5_append wsX4_add := goodIn_r _ [11, 12, 13, 20, 21, 22, 23, 24, 25, 26, 27] (by decide +kernel) (by decide +kernel)
set_option maxRecDepth 20000 in
theorem gX5_append_X4_add : GoodIn wsX5_append (wsV RX5 48 RX4 yX4_add wsX4_add) := goodIn_app (goodIn_of _ (by decide +kernel)) ggX5_append_X4_add
theorem dX5_append_0 : decode cX5_append 0 = .ok (.iload_n 1, 1) := by decide +kernel
theorem dX5_append_1 : decode cX5_append 1 = .ok (.ifCond .lt 10, 3) := by decide +kernel
theorem dX5_append_4 : decode cX5_append 4 = .ok (.iload_n 1, 1) := by decide +kernel
theorem dX5_append_5 : decode cX5_append 5 = .ok (.sipush 255, 3) := by decide +kernel
theorem dX5_append_8 : decode cX5_append 8 = .ok (.if_icmp .le 13, 3) := by decide +kernel
theorem dX5_append_11 : decode cX5_append 11 = .ok (.new 41, 3) := by decide +kernel
theorem dX5_append_14 : decode cX5_append 14 = .ok (.dup, 1) := by decide +kernel
theorem dX5_append_15 : decode cX5_append 15 = .ok (.ldc 43, 2) := by decide +kernel
theorem dX5_append_17 : decode cX5_append 17 = .ok (.invokespecial 45, 3) := by decide +kernel
theorem dX5_append_20 : decode cX5_append 20 = .ok (.athrow, 1) := by decide +kernel
theorem dX5_append_21 : decode cX5_append 21 = .ok (.aload_n 0, 1) := by decide +kernel
theorem dX5_append_22 : decode cX5_append 22 = .ok (.getfield 10, 3) := by decide +kernel
theorem dX5_append_25 : decode cX5_append 25 = .ok (.iload_n 1, 1) := by decide +kernel
theorem dX5_append_26 : decode cX5_append 26 = .ok (.invokevirtual 48, 3) := by decide +kernel
theorem dX5_append_29 : decode cX5_append 29 = .ok (.ifCond .ne 13, 3) := by decide +kernel
theorem dX5_append_32 : decode cX5_append 32 = .ok (.new 52, 3) := by decide +kernel
theorem dX5_append_35 : decode cX5_append 35 = .ok (.dup, 1) := by decide +kernel
theorem dX5_append_36 : decode cX5_append 36 = .ok (.ldc 54, 2) := by decide +kernel
theorem dX5_append_38 : decode cX5_append 38 = .ok (.invokespecial 56, 3) := by decide +kernel
theorem dX5_append_41 : decode cX5_append 41 = .ok (.athrow, 1) := by decide +kernel
theorem dX5_append_42 : decode cX5_append 42 = .ok (.aload_n 0, 1) := by decide +kernel
theorem dX5_append_43 : decode cX5_append 43 = .ok (.getfield 10, 3) := by decide +kernel
theorem dX5_append_46 : decode cX5_append 46 = .ok (.getfield 57, 3) := by decide +kernel
theorem dX5_append_49 : decode cX5_append 49 = .ok (.ireturn, 1) := by decide +kernel
theorem dX5_clearText_0 : decode cX5_clearText 0 = .ok (.aload_n 0, 1) := by decide +kernel
theorem dX5_clearText_1 : decode cX5_clearText 1 = .ok (.getfield 10, 3) := by decide +kernel
theorem dX5_clearText_4 : decode cX5_clearText 4 = .ok (.getfield 57, 3) := by decide +kernel
theorem dX5_clearText_7 : decode cX5_clearText 7 = .ok (.istore_n 1, 1) := by decide +kernel
theorem dX5_clearText_8 : decode cX5_clearText 8 = .ok (.aload_n 0, 1) := by decide +kernel
theorem dX5_clearText_9 : decode cX5_clearText 9 = .ok (.getfield 10, 3) := by decide +kernel
theorem dX5_clearText_12 : decode cX5_clearText 12 = .ok (.iconst 0, 1) := by decide +kernel
theorem dX5_clearText_13 : decode cX5_clearText 13 = .ok (.putfield 57, 3) := by decide +kernel
theorem dX5_clearText_16 : decode cX5_clearText 16 = .ok (.iload_n 1, 1) := by decide +kernel
theorem dX5_clearText_17 : decode cX5_clearText 17 = .ok (.ireturn, 1) := by decide +kernel
set_option maxRecDepth 20000 in
theorem ggX5_errorPosition_X4_read : GoodIn wsX5_errorPosition wsX4_read := goodIn_r _ [6, 7, 8, 9, 10, 11, 12, 13, 14, 15, 5, 16, 17, 18, 19, 20, 21, 22, 23, 24, 25, 26, 27, 28, 29, 30, 31, 32, 33, 34, 35, 42, 43, 44, 45, 46, 47, 48, 49] (by decide +kernel) (by decide +kernel)
set_option maxRecDepth 20000 in
theorem gX5_errorPosition_X4_read : GoodIn wsX5_errorPosition (wsV RX5 61 RX4 yX4_read wsX4_read) := goodIn_app (goodIn_of _ (by decide +kernel)) ggX5_errorPosition_X4_read
theorem dX5_errorPosition_0 : decode cX5_errorPosition 0 = .ok (.aload_n 0, 1) := by decide +kernel
theorem dX5_errorPosition_1 : decode cX5_errorPosition 1 = .ok (.getfield 10, 3) := by decide +kernel
theorem dX5_errorPosition_4 : decode cX5_errorPosition 4 = .ok (.invokevirtual 61, 3) := by decide +kernel
theorem dX5_errorPosition_7 : decode cX5_errorPosition 7 = .ok (.ireturn, 1) := by decide +kernel
set_option maxRecDepth 20000 in
theorem ggX5_branches_X4_read : GoodIn wsX5_branches wsX4_read := goodIn_r _ [8, 9, 10, 11, 12, 13, 14, 15, 16, 17, 7, 18, 19, 20, 21, 22, 23, 24, 25, 26, 27, 28, 29, 30, 31, 32, 33, 34, 35, 36, 37, 44, 45, 46, 47, 48, 49, 50, 51] (by decide +kernel) (by decide +kernel)
set_option maxRecDepth 20000 in
theorem gX5_branches_X4_read : GoodIn wsX5_branches (wsV RX5 61 RX4 yX4_read wsX4_read) := goodIn_app (goodIn_of _ (by decide +kernel)) ggX5_branches_X4_read
theorem dX5_branches_0 : decode cX5_branches 0 = .ok (.aload_n 0, 1) := by decide +kernel
theorem dX5_branches_1 : decode cX5_branches 1 = .ok (.getfield 10, 3) := by decide +kernel
theorem dX5_branches_4 : decode cX5_branches 4 = .ok (.invokevirtual 61, 3) := by decide +kernel
theorem dX5_branches_7 : decode cX5_branches 7 = .ok (.ldc 65, 2) := by decide +kernel
theorem dX5_branches_9 : decode cX5_branches 9 = .ok (.if_icmp .ne 13, 3) := by decide +kernel
theorem dX5_branches_12 : decode cX5_branches 12 = .ok (.aload_n 0, 1) := by decide +kernel
theorem dX5_branches_13 : decode cX5_branches 13 = .ok (.getfield 10, 3) := by decide +kernel
theorem dX5_branches_16 : decode cX5_branches 16 = .ok (.getfield 66, 3) := by decide +kernel
theorem dX5_branches_19 : decode cX5_branches 19 = .ok (.goto 5, 3) := by decide +kernel
theorem dX5_branches_22 : decode cX5_branches 22 = .ok (.ldc 65, 2) := by decide +kernel
theorem dX5_branches_24 : decode cX5_branches 24 = .ok (.ireturn, 1) := by decide +kernel
theorem dX5_about_0 : decode cX5_about 0 = .ok (.iload_n 1, 1) := by decide +kernel
theorem dX5_about_1 : decode cX5_about 1 = .ok (.tableswitch 151 0 9 #[55, 63, 71, 79, 92, 105, 113, 121, 131, 141], 55) := by decide +kernel
theorem dX5_about_56 : decode cX5_about 56 = .ok (.aload_n 0, 1) := by decide +kernel
theorem dX5_about_57 : decode cX5_about 57 = .ok (.getfield 19, 3) := by decide +kernel
theorem dX5_about_60 : decode cX5_about 60 = .ok (.getfield 69, 3) := by decide +kernel
theorem dX5_about_63 : decode cX5_about 63 = .ok (.ireturn, 1) := by decide +kernel
theorem dX5_about_64 : decode cX5_about 64 = .ok (.aload_n 0, 1) := by decide +kernel
theorem dX5_about_65 : decode cX5_about 65 = .ok (.getfield 19, 3) := by decide +kernel
theorem dX5_about_68 : decode cX5_about 68 = .ok (.getfield 72, 3) := by decide +kernel
theorem dX5_about_71 : decode cX5_about 71 = .ok (.ireturn, 1) := by decide +kernel
theorem dX5_about_72 : decode cX5_about 72 = .ok (.aload_n 0, 1) := by decide +kernel
theorem dX5_about_73 : decode cX5_about 73 = .ok (.getfield 19, 3) := by decide +kernel
theorem dX5_about_76 : decode cX5_about 76 = .ok (.getfield 75, 3) := by decide +kernel
theorem dX5_about_79 : decode cX5_about 79 = .ok (.ireturn, 1) := by decide +kernel
theorem dX5_about_80 : decode cX5_about 80 = .ok (.aload_n 0, 1) := by decide +kernel
theorem dX5_about_81 : decode cX5_about 81 = .ok (.getfield 19, 3) := by decide +kernel
theorem dX5_about_84 : decode cX5_about 84 = .ok (.getfield 78, 3) := by decide +kernel
theorem dX5_about_87 : decode cX5_about 87 = .ok (.iconst 0, 1) := by decide +kernel
theorem dX5_about_88 : decode cX5_about 88 = .ok (.aaload, 1) := by decide +kernel
theorem dX5_about_89 : decode cX5_about 89 = .ok (.getfield 82, 3) := by decide +kernel
theorem dX5_about_92 : decode cX5_about 92 = .ok (.ireturn, 1) := by decide +kernel
theorem dX5_about_93 : decode cX5_about 93 = .ok (.aload_n 0, 1) := by decide +kernel
theorem dX5_about_94 : decode cX5_about 94 = .ok (.getfield 19, 3) := by decide +kernel
theorem dX5_about_97 : decode cX5_about 97 = .ok (.getfield 78, 3) := by decide +kernel
theorem dX5_about_100 : decode cX5_about 100 = .ok (.iconst 1, 1) := by decide +kernel
theorem dX5_about_101 : decode cX5_about 101 = .ok (.aaload, 1) := by decide +kernel
theorem dX5_about_102 : decode cX5_about 102 = .ok (.getfield 82, 3) := by decide +kernel
theorem dX5_about_105 : decode cX5_about 105 = .ok (.ireturn, 1) := by decide +kernel
theorem dX5_about_106 : decode cX5_about 106 = .ok (.aload_n 0, 1) := by decide +kernel
theorem dX5_about_107 : decode cX5_about 107 = .ok (.getfield 19, 3) := by decide +kernel
theorem dX5_about_110 : decode cX5_about 110 = .ok (.getfield 87, 3) := by decide +kernel
theorem dX5_about_113 : decode cX5_about 113 = .ok (.ireturn, 1) := by decide +kernel
theorem dX5_about_114 : decode cX5_about 114 = .ok (.aload_n 0, 1) := by decide +kernel
theorem dX5_about_115 : decode cX5_about 115 = .ok (.getfield 19, 3) := by decide +kernel
theorem dX5_about_118 : decode cX5_about 118 = .ok (.getfield 90, 3) := by decide +kernel
theorem dX5_about_121 : decode cX5_about 121 = .ok (.ireturn, 1) := by decide +kernel
theorem dX5_about_122 : decode cX5_about 122 = .ok (.aload_n 0, 1) := by decide +kernel
theorem dX5_about_123 : decode cX5_about 123 = .ok (.getfield 19, 3) := by decide +kernel
theorem dX5_about_126 : decode cX5_about 126 = .ok (.getfield 93, 3) := by decide +kernel
theorem dX5_about_129 : decode cX5_about 129 = .ok (.iconst 0, 1) := by decide +kernel
theorem dX5_about_130 : decode cX5_about 130 = .ok (.iaload, 1) := by decide +kernel
theorem dX5_about_131 : decode cX5_about 131 = .ok (.ireturn, 1) := by decide +kernel
theorem dX5_about_132 : decode cX5_about 132 = .ok (.aload_n 0, 1) := by decide +kernel
theorem dX5_about_133 : decode cX5_about 133 = .ok (.getfield 19, 3) := by decide +kernel
theorem dX5_about_136 : decode cX5_about 136 = .ok (.getfield 93, 3) := by decide +kernel
theorem dX5_about_139 : decode cX5_about 139 = .ok (.iconst 1, 1) := by decide +kernel
theorem dX5_about_140 : decode cX5_about 140 = .ok (.iaload, 1) := by decide +kernel
theorem dX5_about_141 : decode cX5_about 141 = .ok (.ireturn, 1) := by decide +kernel
theorem dX5_about_142 : decode cX5_about 142 = .ok (.aload_n 0, 1) := by decide +kernel
theorem dX5_about_143 : decode cX5_about 143 = .ok (.getfield 19, 3) := by decide +kernel
theorem dX5_about_146 : decode cX5_about 146 = .ok (.getfield 93, 3) := by decide +kernel
theorem dX5_about_149 : decode cX5_about 149 = .ok (.iconst 2, 1) := by decide +kernel
theorem dX5_about_150 : decode cX5_about 150 = .ok (.iaload, 1) := by decide +kernel
theorem dX5_about_151 : decode cX5_about 151 = .ok (.ireturn, 1) := by decide +kernel
theorem dX5_about_152 : decode cX5_about 152 = .ok (.new 41, 3) := by decide +kernel
theorem dX5_about_155 : decode cX5_about 155 = .ok (.dup, 1) := by decide +kernel
theorem dX5_about_156 : decode cX5_about 156 = .ok (.ldc 97, 2) := by decide +kernel
theorem dX5_about_158 : decode cX5_about 158 = .ok (.invokespecial 45, 3) := by decide +kernel
theorem dX5_about_161 : decode cX5_about 161 = .ok (.athrow, 1) := by decide +kernel
set_option maxRecDepth 20000 in
theorem ggX5_desk_X5_checkDesk : GoodIn wsX5_desk wsX5_checkDesk := goodIn_ca (goodIn_r _ [10, 11, 12, 13, 14, 9, 15] (by decide +kernel) (by decide +kernel)) (goodIn_sub (fun _ h => List.mem_cons_of_mem _ (List.mem_append_right _ h)) (by decide +kernel))
set_option maxRecDepth 20000 in
theorem gX5_desk_X5_checkDesk : GoodIn wsX5_desk (va_wsS RX5 99 yX5_checkDesk wsX5_checkDesk) := goodIn_app (goodIn_of _ (by decide +kernel)) ggX5_desk_X5_checkDesk
set_option maxRecDepth 20000 in
theorem ggX5_desk_X0_countUsed : GoodIn wsX5_desk wsX0_countUsed := goodIn_r _ [20, 21, 39, 40, 41, 42, 43, 44, 45, 46] (by decide +kernel) (by decide +kernel)
set_option maxRecDepth 20000 in
theorem gX5_desk_X0_countUsed : GoodIn wsX5_desk (wsV RX5 105 RX0 yX0_countUsed wsX0_countUsed) := goodIn_app (goodIn_of _ (by decide +kernel)) ggX5_desk_X0_countUsed
theorem dX5_desk_0 : decode cX5_desk 0 = .ok (.iload_n 1, 1) := by decide +kernel
theorem dX5_desk_1 : decode cX5_desk 1 = .ok (.invokestatic 99, 3) := by decide +kernel
theorem dX5_desk_4 : decode cX5_desk 4 = .ok (.aload_n 0, 1) := by decide +kernel
theorem dX5_desk_5 : decode cX5_desk 5 = .ok (.getfield 19, 3) := by decide +kernel
theorem dX5_desk_8 : decode cX5_desk 8 = .ok (.getfield 78, 3) := by decide +kernel
theorem dX5_desk_11 : decode cX5_desk 11 = .ok (.iload_n 1, 1) := by decide +kernel
theorem dX5_desk_12 : decode cX5_desk 12 = .ok (.aaload, 1) := by decide +kernel
theorem dX5_desk_13 : decode cX5_desk 13 = .ok (.astore_n 3, 1) := by decide +kernel
theorem dX5_desk_14 : decode cX5_desk 14 = .ok (.iload_n 2, 1) := by decide +kernel
theorem dX5_desk_15 : decode cX5_desk 15 = .ok (.tableswitch 64 0 4 #[33, 40, 47, 54, 59], 33) := by decide +kernel
theorem dX5_desk_48 : decode cX5_desk 48 = .ok (.aload_n 3, 1) := by decide +kernel
theorem dX5_desk_49 : decode cX5_desk 49 = .ok (.getfield 103, 3) := by decide +kernel
theorem dX5_desk_52 : decode cX5_desk 52 = .ok (.iconst 0, 1) := by decide +kernel
theorem dX5_desk_53 : decode cX5_desk 53 = .ok (.iaload, 1) := by decide +kernel
theorem dX5_desk_54 : decode cX5_desk 54 = .ok (.ireturn, 1) := by decide +kernel
theorem dX5_desk_55 : decode cX5_desk 55 = .ok (.aload_n 3, 1) := by decide +kernel
theorem dX5_desk_56 : decode cX5_desk 56 = .ok (.getfield 103, 3) := by decide +kernel
theorem dX5_desk_59 : decode cX5_desk 59 = .ok (.iconst 1, 1) := by decide +kernel
theorem dX5_desk_60 : decode cX5_desk 60 = .ok (.iaload, 1) := by decide +kernel
theorem dX5_desk_61 : decode cX5_desk 61 = .ok (.ireturn, 1) := by decide +kernel
theorem dX5_desk_62 : decode cX5_desk 62 = .ok (.aload_n 3, 1) := by decide +kernel
theorem dX5_desk_63 : decode cX5_desk 63 = .ok (.getfield 103, 3) := by decide +kernel
theorem dX5_desk_66 : decode cX5_desk 66 = .ok (.iconst 2, 1) := by decide +kernel
theorem dX5_desk_67 : decode cX5_desk 67 = .ok (.iaload, 1) := by decide +kernel
theorem dX5_desk_68 : decode cX5_desk 68 = .ok (.ireturn, 1) := by decide +kernel
theorem dX5_desk_69 : decode cX5_desk 69 = .ok (.aload_n 3, 1) := by decide +kernel
theorem dX5_desk_70 : decode cX5_desk 70 = .ok (.getfield 104, 3) := by decide +kernel
theorem dX5_desk_73 : decode cX5_desk 73 = .ok (.ireturn, 1) := by decide +kernel
theorem dX5_desk_74 : decode cX5_desk 74 = .ok (.aload_n 3, 1) := by decide +kernel
theorem dX5_desk_75 : decode cX5_desk 75 = .ok (.invokevirtual 105, 3) := by decide +kernel
theorem dX5_desk_78 : decode cX5_desk 78 = .ok (.ireturn, 1) := by decide +kernel
theorem dX5_desk_79 : decode cX5_desk 79 = .ok (.new 41, 3) := by decide +kernel
theorem dX5_desk_82 : decode cX5_desk 82 = .ok (.dup, 1) := by decide +kernel
theorem dX5_desk_83 : decode cX5_desk 83 = .ok (.ldc 108, 2) := by decide +kernel
theorem dX5_desk_85 : decode cX5_desk 85 = .ok (.invokespecial 45, 3) := by decide +kernel
theorem dX5_desk_88 : decode cX5_desk 88 = .ok (.athrow, 1) := by decide +kernel
set_option maxRecDepth 20000 in
theorem ggX5_note_X5_checkDesk : GoodIn wsX5_note wsX5_checkDesk := goodIn_ca (goodIn_r _ [12, 13, 14, 15, 16, 11, 17] (by decide +kernel) (by decide +kernel)) (goodIn_sub (fun _ h => List.mem_cons_of_mem _ (List.mem_append_right _ h)) (by decide +kernel))
set_option maxRecDepth 20000 in
theorem gX5_note_X5_checkDesk : GoodIn wsX5_note (va_wsS RX5 99 yX5_checkDesk wsX5_checkDesk) := goodIn_app (goodIn_of _ (by decide +kernel)) ggX5_note_X5_checkDesk
set_option maxRecDepth 20000 in
theorem ggX5_note_X5_checkNote : GoodIn wsX5_note wsX5_checkNote := goodIn_ca (goodIn_r _ [21, 13, 14, 3, 22, 23, 24, 25, 26, 27, 28, 29, 30, 31, 32, 33, 34, 35, 36, 37, 38, 39, 40, 41, 42, 43, 44] (by decide +kernel) (by decide +kernel)) (goodIn_sub (fun _ h => List.mem_cons_of_mem _ (List.mem_append_right _ h)) (by decide +kernel))
set_option maxRecDepth 20000 in
theorem gX5_note_X5_checkNote : GoodIn wsX5_note (wsV RX5 110 RX5 yX5_checkNote wsX5_checkNote) := goodIn_app (goodIn_of _ (by decide +kernel)) ggX5_note_X5_checkNote
theorem dX5_note_0 : decode cX5_note 0 = .ok (.iload_n 1, 1) := by decide +kernel
theorem dX5_note_1 : decode cX5_note 1 = .ok (.invokestatic 99, 3) := by decide +kernel
theorem dX5_note_4 : decode cX5_note 4 = .ok (.aload_n 0, 1) := by decide +kernel
theorem dX5_note_5 : decode cX5_note 5 = .ok (.iload_n 2, 1) := by decide +kernel
theorem dX5_note_6 : decode cX5_note 6 = .ok (.invokevirtual 110, 3) := by decide +kernel
theorem dX5_note_9 : decode cX5_note 9 = .ok (.aload_n 0, 1) := by decide +kernel
theorem dX5_note_10 : decode cX5_note 10 = .ok (.getfield 19, 3) := by decide +kernel
theorem dX5_note_13 : decode cX5_note 13 = .ok (.getfield 78, 3) := by decide +kernel
theorem dX5_note_16 : decode cX5_note 16 = .ok (.iload_n 1, 1) := by decide +kernel
theorem dX5_note_17 : decode cX5_note 17 = .ok (.aaload, 1) := by decide +kernel
theorem dX5_note_18 : decode cX5_note 18 = .ok (.astore 4, 2) := by decide +kernel
theorem dX5_note_20 : decode cX5_note 20 = .ok (.iload_n 3, 1) := by decide +kernel
theorem dX5_note_21 : decode cX5_note 21 = .ok (.tableswitch 63 0 3 #[31, 39, 47, 55], 31) := by decide +kernel
theorem dX5_note_52 : decode cX5_note 52 = .ok (.aload 4, 2) := by decide +kernel
theorem dX5_note_54 : decode cX5_note 54 = .ok (.getfield 113, 3) := by decide +kernel
theorem dX5_note_57 : decode cX5_note 57 = .ok (.iload_n 2, 1) := by decide +kernel
theorem dX5_note_58 : decode cX5_note 58 = .ok (.iaload, 1) := by decide +kernel
theorem dX5_note_59 : decode cX5_note 59 = .ok (.ireturn, 1) := by decide +kernel
theorem dX5_note_60 : decode cX5_note 60 = .ok (.aload 4, 2) := by decide +kernel
theorem dX5_note_62 : decode cX5_note 62 = .ok (.getfield 116, 3) := by decide +kernel
theorem dX5_note_65 : decode cX5_note 65 = .ok (.iload_n 2, 1) := by decide +kernel
theorem dX5_note_66 : decode cX5_note 66 = .ok (.iaload, 1) := by decide +kernel
theorem dX5_note_67 : decode cX5_note 67 = .ok (.ireturn, 1) := by decide +kernel
theorem dX5_note_68 : decode cX5_note 68 = .ok (.aload 4, 2) := by decide +kernel
theorem dX5_note_70 : decode cX5_note 70 = .ok (.getfield 119, 3) := by decide +kernel
theorem dX5_note_73 : decode cX5_note 73 = .ok (.iload_n 2, 1) := by decide +kernel
theorem dX5_note_74 : decode cX5_note 74 = .ok (.iaload, 1) := by decide +kernel
theorem dX5_note_75 : decode cX5_note 75 = .ok (.ireturn, 1) := by decide +kernel
theorem dX5_note_76 : decode cX5_note 76 = .ok (.aload 4, 2) := by decide +kernel
theorem dX5_note_78 : decode cX5_note 78 = .ok (.getfield 122, 3) := by decide +kernel
theorem dX5_note_81 : decode cX5_note 81 = .ok (.iload_n 2, 1) := by decide +kernel
theorem dX5_note_82 : decode cX5_note 82 = .ok (.iaload, 1) := by decide +kernel
theorem dX5_note_83 : decode cX5_note 83 = .ok (.ireturn, 1) := by decide +kernel
theorem dX5_note_84 : decode cX5_note 84 = .ok (.new 41, 3) := by decide +kernel
theorem dX5_note_87 : decode cX5_note 87 = .ok (.dup, 1) := by decide +kernel
theorem dX5_note_88 : decode cX5_note 88 = .ok (.ldc 125, 2) := by decide +kernel
theorem dX5_note_90 : decode cX5_note 90 = .ok (.invokespecial 45, 3) := by decide +kernel
theorem dX5_note_93 : decode cX5_note 93 = .ok (.athrow, 1) := by decide +kernel
set_option maxRecDepth 20000 in
theorem ggX5_place_X5_checkPlace : GoodIn wsX5_place wsX5_checkPlace := goodIn_ca (goodIn_r _ [11, 12, 13, 14, 15, 10, 16] (by decide +kernel) (by decide +kernel)) (goodIn_sub (fun _ h => List.mem_cons_of_mem _ (List.mem_append_right _ h)) (by decide +kernel))
set_option maxRecDepth 20000 in
theorem gX5_place_X5_checkPlace : GoodIn wsX5_place (va_wsS RX5 127 yX5_checkPlace wsX5_checkPlace) := goodIn_app (goodIn_of _ (by decide +kernel)) ggX5_place_X5_checkPlace
set_option maxRecDepth 20000 in
theorem ggX5_place_X3_guessFor : GoodIn wsX5_place wsX3_guessFor := goodIn_r _ [21, 22, 23, 24, 25, 20, 26, 27, 28, 29, 30, 31, 32, 33, 34, 35, 36, 37, 38, 39, 40, 47, 48, 49, 50, 51, 52, 53, 54, 55, 56, 57, 58, 59, 60, 61, 62, 63, 64, 65] (by decide +kernel) (by decide +kernel)
set_option maxRecDepth 20000 in
theorem gX5_place_X3_guessFor : GoodIn wsX5_place (wsV RX5 142 RX3 yX3_guessFor wsX3_guessFor) := goodIn_app (goodIn_of _ (by decide +kernel)) ggX5_place_X3_guessFor
theorem dX5_place_0 : decode cX5_place 0 = .ok (.iload_n 1, 1) := by decide +kernel
theorem dX5_place_1 : decode cX5_place 1 = .ok (.invokestatic 127, 3) := by decide +kernel
theorem dX5_place_4 : decode cX5_place 4 = .ok (.iload_n 2, 1) := by decide +kernel
theorem dX5_place_5 : decode cX5_place 5 = .ok (.tableswitch 92 0 4 #[35, 45, 55, 65, 75], 35) := by decide +kernel
theorem dX5_place_40 : decode cX5_place 40 = .ok (.aload_n 0, 1) := by decide +kernel
theorem dX5_place_41 : decode cX5_place 41 = .ok (.getfield 19, 3) := by decide +kernel
theorem dX5_place_44 : decode cX5_place 44 = .ok (.getfield 130, 3) := by decide +kernel
theorem dX5_place_47 : decode cX5_place 47 = .ok (.iload_n 1, 1) := by decide +kernel
theorem dX5_place_48 : decode cX5_place 48 = .ok (.iaload, 1) := by decide +kernel
theorem dX5_place_49 : decode cX5_place 49 = .ok (.ireturn, 1) := by decide +kernel
theorem dX5_place_50 : decode cX5_place 50 = .ok (.aload_n 0, 1) := by decide +kernel
theorem dX5_place_51 : decode cX5_place 51 = .ok (.getfield 19, 3) := by decide +kernel
theorem dX5_place_54 : decode cX5_place 54 = .ok (.getfield 133, 3) := by decide +kernel
theorem dX5_place_57 : decode cX5_place 57 = .ok (.iload_n 1, 1) := by decide +kernel
theorem dX5_place_58 : decode cX5_place 58 = .ok (.iaload, 1) := by decide +kernel
theorem dX5_place_59 : decode cX5_place 59 = .ok (.ireturn, 1) := by decide +kernel
theorem dX5_place_60 : decode cX5_place 60 = .ok (.aload_n 0, 1) := by decide +kernel
theorem dX5_place_61 : decode cX5_place 61 = .ok (.getfield 19, 3) := by decide +kernel
theorem dX5_place_64 : decode cX5_place 64 = .ok (.getfield 136, 3) := by decide +kernel
theorem dX5_place_67 : decode cX5_place 67 = .ok (.iload_n 1, 1) := by decide +kernel
theorem dX5_place_68 : decode cX5_place 68 = .ok (.iaload, 1) := by decide +kernel
theorem dX5_place_69 : decode cX5_place 69 = .ok (.ireturn, 1) := by decide +kernel
theorem dX5_place_70 : decode cX5_place 70 = .ok (.aload_n 0, 1) := by decide +kernel
theorem dX5_place_71 : decode cX5_place 71 = .ok (.getfield 19, 3) := by decide +kernel
theorem dX5_place_74 : decode cX5_place 74 = .ok (.getfield 139, 3) := by decide +kernel
theorem dX5_place_77 : decode cX5_place 77 = .ok (.iload_n 1, 1) := by decide +kernel
theorem dX5_place_78 : decode cX5_place 78 = .ok (.iaload, 1) := by decide +kernel
theorem dX5_place_79 : decode cX5_place 79 = .ok (.ireturn, 1) := by decide +kernel
theorem dX5_place_80 : decode cX5_place 80 = .ok (.aload_n 0, 1) := by decide +kernel
theorem dX5_place_81 : decode cX5_place 81 = .ok (.getfield 19, 3) := by decide +kernel
theorem dX5_place_84 : decode cX5_place 84 = .ok (.iload_n 1, 1) := by decide +kernel
theorem dX5_place_85 : decode cX5_place 85 = .ok (.invokevirtual 142, 3) := by decide +kernel
theorem dX5_place_88 : decode cX5_place 88 = .ok (.ifCond .eq 7, 3) := by decide +kernel
theorem dX5_place_91 : decode cX5_place 91 = .ok (.iconst 1, 1) := by decide +kernel
theorem dX5_place_92 : decode cX5_place 92 = .ok (.goto 4, 3) := by decide +kernel
theorem dX5_place_95 : decode cX5_place 95 = .ok (.iconst 0, 1) := by decide +kernel
theorem dX5_place_96 : decode cX5_place 96 = .ok (.ireturn, 1) := by decide +kernel
theorem dX5_place_97 : decode cX5_place 97 = .ok (.new 41, 3) := by decide +kernel
theorem dX5_place_100 : decode cX5_place 100 = .ok (.dup, 1) := by decide +kernel
theorem dX5_place_101 : decode cX5_place 101 = .ok (.ldc 145, 2) := by decide +kernel
theorem dX5_place_103 : decode cX5_place 103 = .ok (.invokespecial 45, 3) := by decide +kernel
theorem dX5_place_106 : decode cX5_place 106 = .ok (.athrow, 1) := by decide +kernel
set_option maxRecDepth 20000 in
theorem ggX5_path_X5_checkDesk : GoodIn wsX5_path wsX5_checkDesk := goodIn_ca (goodIn_r _ [6, 7, 8, 9, 10, 5, 11] (by decide +kernel) (by decide +kernel)) (goodIn_sub (fun _ h => List.mem_cons_of_mem _ (List.mem_append_right _ h)) (by decide +kernel))
set_option maxRecDepth 20000 in
theorem gX5_path_X5_checkDesk : GoodIn wsX5_path (va_wsS RX5 99 yX5_checkDesk wsX5_checkDesk) := goodIn_app (goodIn_of _ (by decide +kernel)) ggX5_path_X5_checkDesk
set_option maxRecDepth 20000 in
theorem ggX5_path_X5_checkPlace : GoodIn wsX5_path wsX5_checkPlace := goodIn_ca (goodIn_r _ [14, 7, 8, 15, 16, 5, 17] (by decide +kernel) (by decide +kernel)) (goodIn_sub (fun _ h => List.mem_cons_of_mem _ (List.mem_append_right _ h)) (by decide +kernel))
set_option maxRecDepth 20000 in
theorem gX5_path_X5_checkPlace : GoodIn wsX5_path (va_wsS RX5 127 yX5_checkPlace wsX5_checkPlace) := goodIn_app (goodIn_of _ (by decide +kernel)) ggX5_path_X5_checkPlace
set_option maxRecDepth 20000 in
theorem ggX5_path_X0_pathFor : GoodIn wsX5_path wsX0_pathFor := goodIn_r _ [22, 23, 24, 42, 43, 44, 45, 46, 47, 48, 49] (by decide +kernel) (by decide +kernel)
set_option maxRecDepth 20000 in
theorem gX5_path_X0_pathFor : GoodIn wsX5_path (wsV RX5 147 RX0 yX0_pathFor wsX0_pathFor) := goodIn_app (goodIn_of _ (by decide +kernel)) ggX5_path_X0_pathFor
theorem dX5_path_0 : decode cX5_path 0 = .ok (.iload_n 1, 1) := by decide +kernel
theorem dX5_path_1 : decode cX5_path 1 = .ok (.invokestatic 99, 3) := by decide +kernel
theorem dX5_path_4 : decode cX5_path 4 = .ok (.iload_n 2, 1) := by decide +kernel
theorem dX5_path_5 : decode cX5_path 5 = .ok (.invokestatic 127, 3) := by decide +kernel
theorem dX5_path_8 : decode cX5_path 8 = .ok (.aload_n 0, 1) := by decide +kernel
theorem dX5_path_9 : decode cX5_path 9 = .ok (.getfield 19, 3) := by decide +kernel
theorem dX5_path_12 : decode cX5_path 12 = .ok (.getfield 78, 3) := by decide +kernel
theorem dX5_path_15 : decode cX5_path 15 = .ok (.iload_n 1, 1) := by decide +kernel
theorem dX5_path_16 : decode cX5_path 16 = .ok (.aaload, 1) := by decide +kernel
theorem dX5_path_17 : decode cX5_path 17 = .ok (.iload_n 2, 1) := by decide +kernel
theorem dX5_path_18 : decode cX5_path 18 = .ok (.invokevirtual 147, 3) := by decide +kernel
theorem dX5_path_21 : decode cX5_path 21 = .ok (.ireturn, 1) := by decide +kernel
set_option maxRecDepth 20000 in
theorem ggX5_noteOf_X5_checkDesk : GoodIn wsX5_noteOf wsX5_checkDesk := goodIn_ca (goodIn_r _ [5, 6, 7, 8, 9, 4, 10] (by decide +kernel) (by decide +kernel)) (goodIn_sub (fun _ h => List.mem_cons_of_mem _ (List.mem_append_right _ h)) (by decide +kernel))
set_option maxRecDepth 20000 in
theorem gX5_noteOf_X5_checkDesk : GoodIn wsX5_noteOf (va_wsS RX5 99 yX5_checkDesk wsX5_checkDesk) := goodIn_app (goodIn_of _ (by decide +kernel)) ggX5_noteOf_X5_checkDesk
set_option maxRecDepth 20000 in
theorem ggX5_noteOf_X5_checkPlace : GoodIn wsX5_noteOf wsX5_checkPlace := goodIn_ca (goodIn_r _ [13, 6, 7, 14, 15, 4, 16] (by decide +kernel) (by decide +kernel)) (goodIn_sub (fun _ h => List.mem_cons_of_mem _ (List.mem_append_right _ h)) (by decide +kernel))
set_option maxRecDepth 20000 in
theorem gX5_noteOf_X5_checkPlace : GoodIn wsX5_noteOf (va_wsS RX5 127 yX5_checkPlace wsX5_checkPlace) := goodIn_app (goodIn_of _ (by decide +kernel)) ggX5_noteOf_X5_checkPlace
set_option maxRecDepth 20000 in
theorem ggX5_noteOf_X3_noteFor : GoodIn wsX5_noteOf wsX3_noteFor := goodIn_r _ [21, 22, 23, 24, 25, 26, 27, 28, 29, 30, 31, 32, 33, 34, 41, 42, 43, 44, 45, 46, 47, 48, 49, 50, 51, 52, 53, 54, 55, 56, 57, 58, 59] (by decide +kernel) (by decide +kernel)
set_option maxRecDepth 20000 in
theorem gX5_noteOf_X3_noteFor : GoodIn wsX5_noteOf (wsV RX5 151 RX3 yX3_noteFor wsX3_noteFor) := goodIn_app (goodIn_of _ (by decide +kernel)) ggX5_noteOf_X3_noteFor
theorem dX5_noteOf_0 : decode cX5_noteOf 0 = .ok (.iload_n 1, 1) := by decide +kernel
theorem dX5_noteOf_1 : decode cX5_noteOf 1 = .ok (.invokestatic 99, 3) := by decide +kernel
theorem dX5_noteOf_4 : decode cX5_noteOf 4 = .ok (.iload_n 2, 1) := by decide +kernel
theorem dX5_noteOf_5 : decode cX5_noteOf 5 = .ok (.invokestatic 127, 3) := by decide +kernel
theorem dX5_noteOf_8 : decode cX5_noteOf 8 = .ok (.aload_n 0, 1) := by decide +kernel
theorem dX5_noteOf_9 : decode cX5_noteOf 9 = .ok (.getfield 19, 3) := by decide +kernel
theorem dX5_noteOf_12 : decode cX5_noteOf 12 = .ok (.iload_n 1, 1) := by decide +kernel
theorem dX5_noteOf_13 : decode cX5_noteOf 13 = .ok (.iload_n 2, 1) := by decide +kernel
theorem dX5_noteOf_14 : decode cX5_noteOf 14 = .ok (.invokevirtual 151, 3) := by decide +kernel
theorem dX5_noteOf_17 : decode cX5_noteOf 17 = .ok (.ireturn, 1) := by decide +kernel
set_option maxRecDepth 20000 in
theorem ggX5_share_X5_checkPlace : GoodIn wsX5_share wsX5_checkPlace := goodIn_ca (goodIn_r _ [8, 9, 10, 11, 12, 7, 13] (by decide +kernel) (by decide +kernel)) (goodIn_sub (fun _ h => List.mem_cons_of_mem _ (List.mem_append_right _ h)) (by decide +kernel))
set_option maxRecDepth 20000 in
theorem gX5_share_X5_checkPlace : GoodIn wsX5_share (va_wsS RX5 127 yX5_checkPlace wsX5_checkPlace) := goodIn_app (goodIn_of _ (by decide +kernel)) ggX5_share_X5_checkPlace
set_option maxRecDepth 20000 in
theorem ggX5_share_X5_quotientBits : GoodIn wsX5_share wsX5_quotientBits := goodIn_r _ [16, 17] (by decide +kernel) (by decide +kernel)
set_option maxRecDepth 20000 in
theorem gX5_share_X5_quotientBits : GoodIn wsX5_share (va_wsS RX5 155 yX5_quotientBits wsX5_quotientBits) := goodIn_app (goodIn_of _ (by decide +kernel)) ggX5_share_X5_quotientBits
theorem dX5_share_0 : decode cX5_share 0 = .ok (.iload_n 1, 1) := by decide +kernel
theorem dX5_share_1 : decode cX5_share 1 = .ok (.invokestatic 127, 3) := by decide +kernel
theorem dX5_share_4 : decode cX5_share 4 = .ok (.aload_n 0, 1) := by decide +kernel
theorem dX5_share_5 : decode cX5_share 5 = .ok (.getfield 19, 3) := by decide +kernel
theorem dX5_share_8 : decode cX5_share 8 = .ok (.getfield 130, 3) := by decide +kernel
theorem dX5_share_11 : decode cX5_share 11 = .ok (.iload_n 1, 1) := by decide +kernel
theorem dX5_share_12 : decode cX5_share 12 = .ok (.iaload, 1) := by decide +kernel
theorem dX5_share_13 : decode cX5_share 13 = .ok (.istore_n 2, 1) := by decide +kernel
theorem dX5_share_14 : decode cX5_share 14 = .ok (.iload_n 2, 1) := by decide +kernel
theorem dX5_share_15 : decode cX5_share 15 = .ok (.ifCond .le 19, 3) := by decide +kernel
theorem dX5_share_18 : decode cX5_share 18 = .ok (.aload_n 0, 1) := by decide +kernel
theorem dX5_share_19 : decode cX5_share 19 = .ok (.getfield 19, 3) := by decide +kernel
theorem dX5_share_22 : decode cX5_share 22 = .ok (.getfield 133, 3) := by decide +kernel
theorem dX5_share_25 : decode cX5_share 25 = .ok (.iload_n 1, 1) := by decide +kernel
theorem dX5_share_26 : decode cX5_share 26 = .ok (.iaload, 1) := by decide +kernel
theorem dX5_share_27 : decode cX5_share 27 = .ok (.iload_n 2, 1) := by decide +kernel
theorem dX5_share_28 : decode cX5_share 28 = .ok (.invokestatic 155, 3) := by decide +kernel
theorem dX5_share_31 : decode cX5_share 31 = .ok (.goto 5, 3) := by decide +kernel
theorem dX5_share_34 : decode cX5_share 34 = .ok (.ldc 65, 2) := by decide +kernel
theorem dX5_share_36 : decode cX5_share 36 = .ok (.ireturn, 1) := by decide +kernel
set_option maxRecDepth 20000 in
theorem ggX5_setDesk_X5_checkDesk : GoodIn wsX5_setDesk wsX5_checkDesk := goodIn_ca (goodIn_r _ [10, 11, 12, 13, 14, 9, 15] (by decide +kernel) (by decide +kernel)) (goodIn_sub (fun _ h => List.mem_cons_of_mem _ (List.mem_append_right _ h)) (by decide +kernel))
set_option maxRecDepth 20000 in
theorem gX5_setDesk_X5_checkDesk : GoodIn wsX5_setDesk (va_wsS RX5 99 yX5_checkDesk wsX5_checkDesk) := goodIn_app (goodIn_of _ (by decide +kernel)) ggX5_setDesk_X5_checkDesk
set_option maxRecDepth 20000 in
theorem ggX5_setDesk_X5_isDeskSetting : GoodIn wsX5_setDesk wsX5_isDeskSetting := goodIn_r _ [18, 19] (by decide +kernel) (by decide +kernel)
set_option maxRecDepth 20000 in
theorem gX5_setDesk_X5_isDeskSetting : GoodIn wsX5_setDesk (va_wsS RX5 158 yX5_isDeskSetting wsX5_isDeskSetting) := goodIn_app (goodIn_of _ (by decide +kernel)) ggX5_setDesk_X5_isDeskSetting
set_option maxRecDepth 20000 in
theorem ggX5_setDesk_X1_remember : GoodIn wsX5_setDesk wsX1_remember := goodIn_r _ [24, 25, 26, 27, 28, 29, 30, 31, 32, 33, 34, 35, 36, 37, 38, 39, 40, 41, 42, 43, 44, 45, 46, 47, 48, 49, 50, 51, 52, 53, 54, 55, 56, 57, 58, 59, 60, 61, 106, 107, 108, 87, 88, 89, 90, 91, 92, 93, 94, 95, 96, 97, 98, 99, 100, 101, 102, 103, 104, 105] (by decide +kernel) (by decide +kernel)
set_option maxRecDepth 20000 in
theorem gX5_setDesk_X1_remember : GoodIn wsX5_setDesk (wsV RX5 164 RX1 yX1_remember wsX1_remember) := goodIn_app (goodIn_of _ (by decide +kernel)) ggX5_setDesk_X1_remember
set_option maxRecDepth 20000 in
theorem ggX5_setDesk_X3_changeDesk : GoodIn wsX5_setDesk wsX3_changeDesk := goodIn_r _ [65, 38, 66, 67, 68, 69, 31, 70, 33, 39, 40, 41, 42, 43, 44, 45, 46, 47, 71, 72, 73, 51, 74, 55, 56, 75, 57, 58, 59, 60, 61, 76, 77, 78, 79, 80, 87, 88, 89, 90, 91, 92, 93, 94, 95, 96, 97, 98, 99, 100, 101, 102, 103, 104, 105] (by decide +kernel) (by decide +kernel)
set_option maxRecDepth 20000 in
theorem gX5_setDesk_X3_changeDesk : GoodIn wsX5_setDesk (wsV RX5 168 RX3 yX3_changeDesk wsX3_changeDesk) := goodIn_app (goodIn_of _ (by decide +kernel)) ggX5_setDesk_X3_changeDesk
theorem dX5_setDesk_0 : decode cX5_setDesk 0 = .ok (.iload_n 1, 1) := by decide +kernel
theorem dX5_setDesk_1 : decode cX5_setDesk 1 = .ok (.invokestatic 99, 3) := by decide +kernel
theorem dX5_setDesk_4 : decode cX5_setDesk 4 = .ok (.iload_n 2, 1) := by decide +kernel
theorem dX5_setDesk_5 : decode cX5_setDesk 5 = .ok (.iload_n 3, 1) := by decide +kernel
theorem dX5_setDesk_6 : decode cX5_setDesk 6 = .ok (.invokestatic 158, 3) := by decide +kernel
theorem dX5_setDesk_9 : decode cX5_setDesk 9 = .ok (.ifCond .ne 13, 3) := by decide +kernel
theorem dX5_setDesk_12 : decode cX5_setDesk 12 = .ok (.new 41, 3) := by decide +kernel
theorem dX5_setDesk_15 : decode cX5_setDesk 15 = .ok (.dup, 1) := by decide +kernel
theorem dX5_setDesk_16 : decode cX5_setDesk 16 = .ok (.ldc 162, 2) := by decide +kernel
theorem dX5_setDesk_18 : decode cX5_setDesk 18 = .ok (.invokespecial 45, 3) := by decide +kernel
theorem dX5_setDesk_21 : decode cX5_setDesk 21 = .ok (.athrow, 1) := by decide +kernel
theorem dX5_setDesk_22 : decode cX5_setDesk 22 = .ok (.aload_n 0, 1) := by decide +kernel
theorem dX5_setDesk_23 : decode cX5_setDesk 23 = .ok (.getfield 29, 3) := by decide +kernel
theorem dX5_setDesk_26 : decode cX5_setDesk 26 = .ok (.aload_n 0, 1) := by decide +kernel
theorem dX5_setDesk_27 : decode cX5_setDesk 27 = .ok (.getfield 19, 3) := by decide +kernel
theorem dX5_setDesk_30 : decode cX5_setDesk 30 = .ok (.invokevirtual 164, 3) := by decide +kernel
theorem dX5_setDesk_33 : decode cX5_setDesk 33 = .ok (.aload_n 0, 1) := by decide +kernel
theorem dX5_setDesk_34 : decode cX5_setDesk 34 = .ok (.getfield 19, 3) := by decide +kernel
theorem dX5_setDesk_37 : decode cX5_setDesk 37 = .ok (.getfield 78, 3) := by decide +kernel
theorem dX5_setDesk_40 : decode cX5_setDesk 40 = .ok (.iload_n 1, 1) := by decide +kernel
theorem dX5_setDesk_41 : decode cX5_setDesk 41 = .ok (.aaload, 1) := by decide +kernel
theorem dX5_setDesk_42 : decode cX5_setDesk 42 = .ok (.getfield 103, 3) := by decide +kernel
theorem dX5_setDesk_45 : decode cX5_setDesk 45 = .ok (.iload_n 2, 1) := by decide +kernel
theorem dX5_setDesk_46 : decode cX5_setDesk 46 = .ok (.iaload, 1) := by decide +kernel
theorem dX5_setDesk_47 : decode cX5_setDesk 47 = .ok (.istore 4, 2) := by decide +kernel
theorem dX5_setDesk_49 : decode cX5_setDesk 49 = .ok (.aload_n 0, 1) := by decide +kernel
theorem dX5_setDesk_50 : decode cX5_setDesk 50 = .ok (.getfield 19, 3) := by decide +kernel
theorem dX5_setDesk_53 : decode cX5_setDesk 53 = .ok (.iload_n 1, 1) := by decide +kernel
theorem dX5_setDesk_54 : decode cX5_setDesk 54 = .ok (.iload_n 2, 1) := by decide +kernel
theorem dX5_setDesk_55 : decode cX5_setDesk 55 = .ok (.iload_n 3, 1) := by decide +kernel
theorem dX5_setDesk_56 : decode cX5_setDesk 56 = .ok (.invokevirtual 168, 3) := by decide +kernel
theorem dX5_setDesk_59 : decode cX5_setDesk 59 = .ok (.iload 4, 2) := by decide +kernel
theorem dX5_setDesk_61 : decode cX5_setDesk 61 = .ok (.ireturn, 1) := by decide +kernel
set_option maxRecDepth 20000 in
theorem ggX5_set_X5_isCommonSetting : GoodIn wsX5_set wsX5_isCommonSetting := goodIn_r _ [9, 10, 11] (by decide +kernel) (by decide +kernel)
set_option maxRecDepth 20000 in
theorem gX5_set_X5_isCommonSetting : GoodIn wsX5_set (va_wsS RX5 172 yX5_isCommonSetting wsX5_isCommonSetting) := goodIn_app (goodIn_of _ (by decide +kernel)) ggX5_set_X5_isCommonSetting
set_option maxRecDepth 20000 in
theorem ggX5_set_X1_remember : GoodIn wsX5_set wsX1_remember := goodIn_r _ [16, 17, 18, 19, 20, 21, 22, 23, 24, 25, 26, 27, 28, 29, 30, 31, 32, 33, 34, 35, 36, 37, 38, 39, 40, 41, 42, 43, 44, 45, 46, 47, 48, 49, 50, 51, 52, 53, 89, 90, 91, 78, 79, 80, 81, 82, 83, 84, 85, 86, 87, 88, 92, 93, 94, 95, 96, 97, 98, 99] (by decide +kernel) (by decide +kernel)
set_option maxRecDepth 20000 in
theorem gX5_set_X1_remember : GoodIn wsX5_set (wsV RX5 164 RX1 yX1_remember wsX1_remember) := goodIn_app (goodIn_of _ (by decide +kernel)) ggX5_set_X1_remember
set_option maxRecDepth 20000 in
theorem ggX5_set_X3_changeBoth : GoodIn wsX5_set wsX3_changeBoth := goodIn_r _ [57, 25, 58, 59, 60, 23, 61, 30, 31, 32, 33, 34, 35, 36, 37, 38, 39, 62, 63, 64, 43, 65, 47, 48, 66, 49, 50, 51, 52, 53, 67, 68, 69, 70, 71, 78, 79, 80, 81, 82, 83, 84, 85, 86, 87, 88, 92, 93, 94, 95, 96, 97, 98, 99] (by decide +kernel) (by decide +kernel)
set_option maxRecDepth 20000 in
theorem gX5_set_X3_changeBoth : GoodIn wsX5_set (wsV RX5 177 RX3 yX3_changeBoth wsX3_changeBoth) := goodIn_app (goodIn_of _ (by decide +kernel)) ggX5_set_X3_changeBoth
theorem dX5_set_0 : decode cX5_set 0 = .ok (.iload_n 1, 1) := by decide +kernel
theorem dX5_set_1 : decode cX5_set 1 = .ok (.iload_n 2, 1) := by decide +kernel
theorem dX5_set_2 : decode cX5_set 2 = .ok (.invokestatic 172, 3) := by decide +kernel
theorem dX5_set_5 : decode cX5_set 5 = .ok (.ifCond .ne 13, 3) := by decide +kernel
theorem dX5_set_8 : decode cX5_set 8 = .ok (.new 41, 3) := by decide +kernel
theorem dX5_set_11 : decode cX5_set 11 = .ok (.dup, 1) := by decide +kernel
theorem dX5_set_12 : decode cX5_set 12 = .ok (.ldc 175, 2) := by decide +kernel
theorem dX5_set_14 : decode cX5_set 14 = .ok (.invokespecial 45, 3) := by decide +kernel
theorem dX5_set_17 : decode cX5_set 17 = .ok (.athrow, 1) := by decide +kernel
theorem dX5_set_18 : decode cX5_set 18 = .ok (.aload_n 0, 1) := by decide +kernel
theorem dX5_set_19 : decode cX5_set 19 = .ok (.getfield 29, 3) := by decide +kernel
theorem dX5_set_22 : decode cX5_set 22 = .ok (.aload_n 0, 1) := by decide +kernel
theorem dX5_set_23 : decode cX5_set 23 = .ok (.getfield 19, 3) := by decide +kernel
theorem dX5_set_26 : decode cX5_set 26 = .ok (.invokevirtual 164, 3) := by decide +kernel
theorem dX5_set_29 : decode cX5_set 29 = .ok (.aload_n 0, 1) := by decide +kernel
theorem dX5_set_30 : decode cX5_set 30 = .ok (.getfield 19, 3) := by decide +kernel
theorem dX5_set_33 : decode cX5_set 33 = .ok (.getfield 93, 3) := by decide +kernel
theorem dX5_set_36 : decode cX5_set 36 = .ok (.iload_n 1, 1) := by decide +kernel
theorem dX5_set_37 : decode cX5_set 37 = .ok (.iaload, 1) := by decide +kernel
theorem dX5_set_38 : decode cX5_set 38 = .ok (.istore_n 3, 1) := by decide +kernel
theorem dX5_set_39 : decode cX5_set 39 = .ok (.aload_n 0, 1) := by decide +kernel
theorem dX5_set_40 : decode cX5_set 40 = .ok (.getfield 19, 3) := by decide +kernel
theorem dX5_set_43 : decode cX5_set 43 = .ok (.iload_n 1, 1) := by decide +kernel
theorem dX5_set_44 : decode cX5_set 44 = .ok (.iload_n 2, 1) := by decide +kernel
theorem dX5_set_45 : decode cX5_set 45 = .ok (.invokevirtual 177, 3) := by decide +kernel
theorem dX5_set_48 : decode cX5_set 48 = .ok (.iload_n 3, 1) := by decide +kernel
theorem dX5_set_49 : decode cX5_set 49 = .ok (.ireturn, 1) := by decide +kernel
set_option maxRecDepth 20000 in
theorem ggX5_strengthen_X5_checkDesk : GoodIn wsX5_strengthen wsX5_checkDesk := goodIn_ca (goodIn_r _ [10, 11, 12, 13, 14, 9, 15] (by decide +kernel) (by decide +kernel)) (goodIn_sub (fun _ h => List.mem_cons_of_mem _ (List.mem_append_right _ h)) (by decide +kernel))
set_option maxRecDepth 20000 in
theorem gX5_strengthen_X5_checkDesk : GoodIn wsX5_strengthen (va_wsS RX5 99 yX5_checkDesk wsX5_checkDesk) := goodIn_app (goodIn_of _ (by decide +kernel)) ggX5_strengthen_X5_checkDesk
set_option maxRecDepth 20000 in
theorem ggX5_strengthen_X5_checkNote : GoodIn wsX5_strengthen wsX5_checkNote := goodIn_ca (goodIn_r _ [19, 11, 12, 3, 20, 21, 22, 23, 24, 25, 70, 71, 72, 73, 74, 75, 76, 77, 78, 79, 80, 81, 82, 83, 84, 85, 86] (by decide +kernel) (by decide +kernel)) (goodIn_sub (fun _ h => List.mem_cons_of_mem _ (List.mem_append_right _ h)) (by decide +kernel))
set_option maxRecDepth 20000 in
theorem gX5_strengthen_X5_checkNote : GoodIn wsX5_strengthen (wsV RX5 110 RX5 yX5_checkNote wsX5_checkNote) := goodIn_app (goodIn_of _ (by decide +kernel)) ggX5_strengthen_X5_checkNote
set_option maxRecDepth 20000 in
theorem ggX5_strengthen_X3_isStrength : GoodIn wsX5_strengthen wsX3_isStrength := goodIn_r _ [29, 25, 76, 77, 78, 79, 80, 81, 82, 83, 84, 85, 86] (by decide +kernel) (by decide +kernel)
set_option maxRecDepth 20000 in
theorem gX5_strengthen_X3_isStrength : GoodIn wsX5_strengthen (wsV RX5 184 RX3 yX3_isStrength wsX3_isStrength) := goodIn_app (goodIn_of _ (by decide +kernel)) ggX5_strengthen_X3_isStrength
set_option maxRecDepth 20000 in
theorem ggX5_strengthen_X1_remember : GoodIn wsX5_strengthen wsX1_remember := goodIn_r _ [34, 35, 36, 37, 38, 39, 40, 23, 41, 25, 42, 43, 44, 45, 46, 47, 48, 49, 50, 51, 52, 53, 54, 55, 56, 57, 58, 59, 60, 61, 62, 63, 64, 65, 66, 67, 68, 69, 95, 96, 97, 76, 77, 78, 79, 80, 81, 82, 83, 84, 85, 86, 87, 88, 89, 90, 91, 92, 93, 94] (by decide +kernel) (by decide +kernel)
set_option maxRecDepth 20000 in
theorem gX5_strengthen_X1_remember : GoodIn wsX5_strengthen (wsV RX5 164 RX1 yX1_remember wsX1_remember) := goodIn_app (goodIn_of _ (by decide +kernel)) ggX5_strengthen_X1_remember
theorem dX5_strengthen_0 : decode cX5_strengthen 0 = .ok (.iload_n 1, 1) := by decide +kernel
theorem dX5_strengthen_1 : decode cX5_strengthen 1 = .ok (.invokestatic 99, 3) := by decide +kernel
theorem dX5_strengthen_4 : decode cX5_strengthen 4 = .ok (.aload_n 0, 1) := by decide +kernel
theorem dX5_strengthen_5 : decode cX5_strengthen 5 = .ok (.iload_n 2, 1) := by decide +kernel
theorem dX5_strengthen_6 : decode cX5_strengthen 6 = .ok (.invokevirtual 110, 3) := by decide +kernel
theorem dX5_strengthen_9 : decode cX5_strengthen 9 = .ok (.aload_n 0, 1) := by decide +kernel
theorem dX5_strengthen_10 : decode cX5_strengthen 10 = .ok (.getfield 19, 3) := by decide +kernel
theorem dX5_strengthen_13 : decode cX5_strengthen 13 = .ok (.iload_n 3, 1) := by decide +kernel
theorem dX5_strengthen_14 : decode cX5_strengthen 14 = .ok (.invokevirtual 184, 3) := by decide +kernel
theorem dX5_strengthen_17 : decode cX5_strengthen 17 = .ok (.ifCond .ne 13, 3) := by decide +kernel
theorem dX5_strengthen_20 : decode cX5_strengthen 20 = .ok (.new 41, 3) := by decide +kernel
theorem dX5_strengthen_23 : decode cX5_strengthen 23 = .ok (.dup, 1) := by decide +kernel
theorem dX5_strengthen_24 : decode cX5_strengthen 24 = .ok (.ldc 187, 2) := by decide +kernel
theorem dX5_strengthen_26 : decode cX5_strengthen 26 = .ok (.invokespecial 45, 3) := by decide +kernel
theorem dX5_strengthen_29 : decode cX5_strengthen 29 = .ok (.athrow, 1) := by decide +kernel
theorem dX5_strengthen_30 : decode cX5_strengthen 30 = .ok (.aload_n 0, 1) := by decide +kernel
theorem dX5_strengthen_31 : decode cX5_strengthen 31 = .ok (.getfield 29, 3) := by decide +kernel
theorem dX5_strengthen_34 : decode cX5_strengthen 34 = .ok (.aload_n 0, 1) := by decide +kernel
theorem dX5_strengthen_35 : decode cX5_strengthen 35 = .ok (.getfield 19, 3) := by decide +kernel
theorem dX5_strengthen_38 : decode cX5_strengthen 38 = .ok (.invokevirtual 164, 3) := by decide +kernel
theorem dX5_strengthen_41 : decode cX5_strengthen 41 = .ok (.aload_n 0, 1) := by decide +kernel
theorem dX5_strengthen_42 : decode cX5_strengthen 42 = .ok (.getfield 19, 3) := by decide +kernel
theorem dX5_strengthen_45 : decode cX5_strengthen 45 = .ok (.getfield 78, 3) := by decide +kernel
theorem dX5_strengthen_48 : decode cX5_strengthen 48 = .ok (.iload_n 1, 1) := by decide +kernel
theorem dX5_strengthen_49 : decode cX5_strengthen 49 = .ok (.aaload, 1) := by decide +kernel
theorem dX5_strengthen_50 : decode cX5_strengthen 50 = .ok (.getfield 113, 3) := by decide +kernel
theorem dX5_strengthen_53 : decode cX5_strengthen 53 = .ok (.iload_n 2, 1) := by decide +kernel
theorem dX5_strengthen_54 : decode cX5_strengthen 54 = .ok (.iaload, 1) := by decide +kernel
theorem dX5_strengthen_55 : decode cX5_strengthen 55 = .ok (.istore 4, 2) := by decide +kernel
theorem dX5_strengthen_57 : decode cX5_strengthen 57 = .ok (.aload_n 0, 1) := by decide +kernel
theorem dX5_strengthen_58 : decode cX5_strengthen 58 = .ok (.getfield 19, 3) := by decide +kernel
theorem dX5_strengthen_61 : decode cX5_strengthen 61 = .ok (.getfield 78, 3) := by decide +kernel
theorem dX5_strengthen_64 : decode cX5_strengthen 64 = .ok (.iload_n 1, 1) := by decide +kernel
theorem dX5_strengthen_65 : decode cX5_strengthen 65 = .ok (.aaload, 1) := by decide +kernel
theorem dX5_strengthen_66 : decode cX5_strengthen 66 = .ok (.getfield 113, 3) := by decide +kernel
theorem dX5_strengthen_69 : decode cX5_strengthen 69 = .ok (.iload_n 2, 1) := by decide +kernel
theorem dX5_strengthen_70 : decode cX5_strengthen 70 = .ok (.iload_n 3, 1) := by decide +kernel
theorem dX5_strengthen_71 : decode cX5_strengthen 71 = .ok (.iastore, 1) := by decide +kernel
theorem dX5_strengthen_72 : decode cX5_strengthen 72 = .ok (.iload 4, 2) := by decide +kernel
theorem dX5_strengthen_74 : decode cX5_strengthen 74 = .ok (.ireturn, 1) := by decide +kernel
set_option maxRecDepth 20000 in
theorem ggX5_branch_X5_checkPlace : GoodIn wsX5_branch wsX5_checkPlace := goodIn_ca (goodIn_r _ [6, 7, 8, 9, 10, 5, 11] (by decide +kernel) (by decide +kernel)) (goodIn_sub (fun _ h => List.mem_cons_of_mem _ (List.mem_append_right _ h)) (by decide +kernel))
set_option maxRecDepth 20000 in
theorem gX5_branch_X5_checkPlace : GoodIn wsX5_branch (va_wsS RX5 127 yX5_checkPlace wsX5_checkPlace) := goodIn_app (goodIn_of _ (by decide +kernel)) ggX5_branch_X5_checkPlace
set_option maxRecDepth 20000 in
theorem ggX5_branch_X1_remember : GoodIn wsX5_branch wsX1_remember := goodIn_r _ [16, 17, 18, 19, 20, 21, 22, 23, 24, 25, 26, 27, 28, 29, 30, 31, 32, 33, 34, 35, 36, 37, 38, 39, 40, 41, 42, 43, 44, 45, 46, 47, 48, 49, 50, 51, 52, 53, 106, 107, 108, 109, 110, 111, 112, 113, 114, 115, 116, 117, 118, 119, 120, 121, 122, 123, 124, 125, 126, 127] (by decide +kernel) (by decide +kernel)
set_option maxRecDepth 20000 in
theorem gX5_branch_X1_remember : GoodIn wsX5_branch (wsV RX5 164 RX1 yX1_remember wsX1_remember) := goodIn_app (goodIn_of _ (by decide +kernel)) ggX5_branch_X1_remember
set_option maxRecDepth 20000 in
theorem ggX5_branch_X3_go : GoodIn wsX5_branch wsX3_go := goodIn_r _ [57, 31, 30, 25, 58, 59, 60, 23, 61, 62, 63, 64, 65, 43, 66, 45, 67, 68, 69, 70, 51, 71, 72, 73, 74, 35, 32, 33, 36, 34, 37, 38, 39, 75, 76, 77, 78, 79, 80, 81, 82, 83, 84, 85, 86, 87, 88, 89, 90, 91, 92, 93, 49, 48, 52, 47, 50, 53, 94, 95, 96, 97, 98, 99, 109, 110, 111, 112, 113, 114, 115, 116, 117, 118, 119, 120, 121, 122, 123, 124, 125, 126, 127] (by decide +kernel) (by decide +kernel)
set_option maxRecDepth 20000 in
theorem gX5_branch_X3_go : GoodIn wsX5_branch (wsV RX5 189 RX3 yX3_go wsX3_go) := goodIn_app (goodIn_of _ (by decide +kernel)) ggX5_branch_X3_go
theorem dX5_branch_0 : decode cX5_branch 0 = .ok (.iload_n 1, 1) := by decide +kernel
theorem dX5_branch_1 : decode cX5_branch 1 = .ok (.invokestatic 127, 3) := by decide +kernel
theorem dX5_branch_4 : decode cX5_branch 4 = .ok (.aload_n 0, 1) := by decide +kernel
theorem dX5_branch_5 : decode cX5_branch 5 = .ok (.getfield 29, 3) := by decide +kernel
theorem dX5_branch_8 : decode cX5_branch 8 = .ok (.aload_n 0, 1) := by decide +kernel
theorem dX5_branch_9 : decode cX5_branch 9 = .ok (.getfield 19, 3) := by decide +kernel
theorem dX5_branch_12 : decode cX5_branch 12 = .ok (.invokevirtual 164, 3) := by decide +kernel
theorem dX5_branch_15 : decode cX5_branch 15 = .ok (.aload_n 0, 1) := by decide +kernel
theorem dX5_branch_16 : decode cX5_branch 16 = .ok (.getfield 19, 3) := by decide +kernel
theorem dX5_branch_19 : decode cX5_branch 19 = .ok (.iload_n 1, 1) := by decide +kernel
theorem dX5_branch_20 : decode cX5_branch 20 = .ok (.iload_n 2, 1) := by decide +kernel
theorem dX5_branch_21 : decode cX5_branch 21 = .ok (.invokevirtual 189, 3) := by decide +kernel
theorem dX5_branch_24 : decode cX5_branch 24 = .ok (.ireturn, 1) := by decide +kernel
set_option maxRecDepth 20000 in
theorem ggX5_play_X4_isPlayable : GoodIn wsX5_play wsX4_isPlayable := goodIn_r _ [11, 12, 13, 14, 15, 16, 10, 17, 18, 19, 20, 21, 22, 23, 24, 25, 26, 27, 28, 29, 30, 31, 32, 33, 34, 35, 36, 37, 38, 39, 40, 41, 42, 43, 44, 156, 157, 158, 159, 160, 161, 162, 163] (by decide +kernel) (by decide +kernel)
set_option maxRecDepth 20000 in
theorem gX5_play_X4_isPlayable : GoodIn wsX5_play (wsV RX5 193 RX4 yX4_isPlayable wsX4_isPlayable) := goodIn_app (goodIn_of _ (by decide +kernel)) ggX5_play_X4_isPlayable
set_option maxRecDepth 20000 in
theorem ggX5_play_X1_remember : GoodIn wsX5_play wsX1_remember := goodIn_r _ [49, 50, 51, 52, 53, 54, 55, 56, 57, 58, 59, 60, 61, 62, 63, 64, 65, 66, 67, 68, 69, 70, 71, 72, 73, 74, 75, 76, 77, 78, 79, 80, 81, 82, 83, 84, 85, 86, 164, 165, 166, 145, 146, 147, 148, 149, 150, 151, 152, 153, 154, 155, 167, 168, 169, 170, 171, 172, 173, 174] (by decide +kernel) (by decide +kernel)
set_option maxRecDepth 20000 in
theorem gX5_play_X1_remember : GoodIn wsX5_play (wsV RX5 164 RX1 yX1_remember wsX1_remember) := goodIn_app (goodIn_of _ (by decide +kernel)) ggX5_play_X1_remember
set_option maxRecDepth 20000 in
theorem ggX5_play_X3_goAll : GoodIn wsX5_play wsX3_goAll := goodIn_r _ [90, 91, 92, 93, 94, 95, 56, 96, 64, 63, 58, 97, 98, 99, 100, 101, 102, 103, 104, 76, 105, 78, 106, 107, 108, 109, 84, 110, 111, 112, 113, 68, 65, 66, 69, 67, 70, 71, 72, 114, 115, 116, 117, 118, 119, 120, 121, 122, 123, 124, 125, 126, 127, 128, 129, 130, 131, 132, 82, 81, 85, 80, 83, 86, 133, 134, 135, 136, 137, 138, 156, 157, 158, 159, 160, 161, 162, 163, 145, 146, 147, 148, 149, 150, 151, 152, 153, 154, 155, 167, 168, 169, 170, 171, 172, 173, 174] (by decide +kernel) (by decide +kernel)
set_option maxRecDepth 20000 in
theorem gX5_play_X3_goAll : GoodIn wsX5_play (wsV RX5 199 RX3 yX3_goAll wsX3_goAll) := goodIn_app (goodIn_of _ (by decide +kernel)) ggX5_play_X3_goAll
theorem dX5_play_0 : decode cX5_play 0 = .ok (.aload_n 0, 1) := by decide +kernel
theorem dX5_play_1 : decode cX5_play 1 = .ok (.getfield 10, 3) := by decide +kernel
theorem dX5_play_4 : decode cX5_play 4 = .ok (.invokevirtual 193, 3) := by decide +kernel
theorem dX5_play_7 : decode cX5_play 7 = .ok (.ifCond .ne 13, 3) := by decide +kernel
theorem dX5_play_10 : decode cX5_play 10 = .ok (.new 52, 3) := by decide +kernel
theorem dX5_play_13 : decode cX5_play 13 = .ok (.dup, 1) := by decide +kernel
theorem dX5_play_14 : decode cX5_play 14 = .ok (.ldc 197, 2) := by decide +kernel
theorem dX5_play_16 : decode cX5_play 16 = .ok (.invokespecial 56, 3) := by decide +kernel
theorem dX5_play_19 : decode cX5_play 19 = .ok (.athrow, 1) := by decide +kernel
theorem dX5_play_20 : decode cX5_play 20 = .ok (.aload_n 0, 1) := by decide +kernel
theorem dX5_play_21 : decode cX5_play 21 = .ok (.getfield 29, 3) := by decide +kernel
theorem dX5_play_24 : decode cX5_play 24 = .ok (.aload_n 0, 1) := by decide +kernel
theorem dX5_play_25 : decode cX5_play 25 = .ok (.getfield 19, 3) := by decide +kernel
theorem dX5_play_28 : decode cX5_play 28 = .ok (.invokevirtual 164, 3) := by decide +kernel
theorem dX5_play_31 : decode cX5_play 31 = .ok (.aload_n 0, 1) := by decide +kernel
theorem dX5_play_32 : decode cX5_play 32 = .ok (.getfield 19, 3) := by decide +kernel
theorem dX5_play_35 : decode cX5_play 35 = .ok (.getfield 72, 3) := by decide +kernel
theorem dX5_play_38 : decode cX5_play 38 = .ok (.istore_n 1, 1) := by decide +kernel
theorem dX5_play_39 : decode cX5_play 39 = .ok (.aload_n 0, 1) := by decide +kernel
theorem dX5_play_40 : decode cX5_play 40 = .ok (.getfield 19, 3) := by decide +kernel
theorem dX5_play_43 : decode cX5_play 43 = .ok (.aload_n 0, 1) := by decide +kernel
theorem dX5_play_44 : decode cX5_play 44 = .ok (.getfield 10, 3) := by decide +kernel
theorem dX5_play_47 : decode cX5_play 47 = .ok (.invokevirtual 199, 3) := by decide +kernel
theorem dX5_play_50 : decode cX5_play 50 = .ok (.aload_n 0, 1) := by decide +kernel
theorem dX5_play_51 : decode cX5_play 51 = .ok (.getfield 19, 3) := by decide +kernel
theorem dX5_play_54 : decode cX5_play 54 = .ok (.getfield 72, 3) := by decide +kernel
theorem dX5_play_57 : decode cX5_play 57 = .ok (.iload_n 1, 1) := by decide +kernel
theorem dX5_play_58 : decode cX5_play 58 = .ok (.isub, 1) := by decide +kernel
theorem dX5_play_59 : decode cX5_play 59 = .ok (.ireturn, 1) := by decide +kernel
set_option maxRecDepth 20000 in
theorem ggX5_undo_X1_takeBack : GoodIn wsX5_undo wsX1_takeBack := goodIn_r _ [10, 11, 12, 13, 14, 15, 16, 17, 18, 19, 20, 21, 22, 23, 24, 25, 26, 27, 28, 29, 30, 31, 32, 33, 34, 35, 36, 37, 38, 39, 40, 41, 42, 43, 44, 45, 46, 47, 54, 55, 56, 57, 58, 59, 60, 61, 62, 63, 64, 65, 66, 67, 68, 69, 70, 71, 72, 73, 74, 75] (by decide +kernel) (by decide +kernel)
set_option maxRecDepth 20000 in
theorem gX5_undo_X1_takeBack : GoodIn wsX5_undo (wsV RX5 203 RX1 yX1_takeBack wsX1_takeBack) := goodIn_app (goodIn_of _ (by decide +kernel)) ggX5_undo_X1_takeBack
theorem dX5_undo_0 : decode cX5_undo 0 = .ok (.aload_n 0, 1) := by decide +kernel
theorem dX5_undo_1 : decode cX5_undo 1 = .ok (.getfield 29, 3) := by decide +kernel
theorem dX5_undo_4 : decode cX5_undo 4 = .ok (.aload_n 0, 1) := by decide +kernel
theorem dX5_undo_5 : decode cX5_undo 5 = .ok (.getfield 19, 3) := by decide +kernel
theorem dX5_undo_8 : decode cX5_undo 8 = .ok (.invokevirtual 203, 3) := by decide +kernel
theorem dX5_undo_11 : decode cX5_undo 11 = .ok (.ifCond .ne 13, 3) := by decide +kernel
theorem dX5_undo_14 : decode cX5_undo 14 = .ok (.new 52, 3) := by decide +kernel
theorem dX5_undo_17 : decode cX5_undo 17 = .ok (.dup, 1) := by decide +kernel
theorem dX5_undo_18 : decode cX5_undo 18 = .ok (.ldc 207, 2) := by decide +kernel
theorem dX5_undo_20 : decode cX5_undo 20 = .ok (.invokespecial 56, 3) := by decide +kernel
theorem dX5_undo_23 : decode cX5_undo 23 = .ok (.athrow, 1) := by decide +kernel
theorem dX5_undo_24 : decode cX5_undo 24 = .ok (.aload_n 0, 1) := by decide +kernel
theorem dX5_undo_25 : decode cX5_undo 25 = .ok (.getfield 29, 3) := by decide +kernel
theorem dX5_undo_28 : decode cX5_undo 28 = .ok (.getfield 209, 3) := by decide +kernel
theorem dX5_undo_31 : decode cX5_undo 31 = .ok (.ireturn, 1) := by decide +kernel
set_option maxRecDepth 20000 in
theorem ggX5_wouldBring_X4_isPlayable : GoodIn wsX5_wouldBring wsX4_isPlayable := goodIn_r _ [10, 11, 12, 13, 14, 15, 9, 16, 17, 18, 19, 20, 21, 22, 23, 24, 25, 26, 27, 28, 29, 30, 31, 32, 33, 34, 35, 36, 37, 38, 39, 40, 41, 42, 43, 147, 148, 149, 150, 151, 152, 153, 154] (by decide +kernel) (by decide +kernel)
set_option maxRecDepth 20000 in
theorem gX5_wouldBring_X4_isPlayable : GoodIn wsX5_wouldBring (wsV RX5 193 RX4 yX4_isPlayable wsX4_isPlayable) := goodIn_app (goodIn_of _ (by decide +kernel)) ggX5_wouldBring_X4_isPlayable
set_option maxRecDepth 20000 in
theorem ggX5_wouldBring_X3_copyFrom : GoodIn wsX5_wouldBring wsX3_copyFrom := goodIn_r _ [48, 49, 50, 51, 52, 53, 54, 55, 56, 57, 58, 59, 60, 61, 62, 63, 64, 65, 66, 67, 68, 69, 70, 71, 72, 73, 74, 75, 76, 77, 136, 137, 138, 139, 140, 141, 142, 143, 144, 145, 146, 155, 156, 157, 158, 159, 160, 161, 162] (by decide +kernel) (by decide +kernel)
set_option maxRecDepth 20000 in
theorem gX5_wouldBring_X3_copyFrom : GoodIn wsX5_wouldBring (wsV RX5 212 RX3 yX3_copyFrom wsX3_copyFrom) := goodIn_app (goodIn_of _ (by decide +kernel)) ggX5_wouldBring_X3_copyFrom
set_option maxRecDepth 20000 in
theorem ggX5_wouldBring_X3_goAll : GoodIn wsX5_wouldBring wsX3_goAll := goodIn_r _ [81, 82, 83, 84, 85, 86, 47, 87, 55, 54, 49, 88, 89, 90, 91, 92, 93, 94, 95, 67, 96, 69, 97, 98, 99, 100, 75, 101, 102, 103, 104, 59, 56, 57, 60, 58, 61, 62, 63, 105, 106, 107, 108, 109, 110, 111, 112, 113, 114, 115, 116, 117, 118, 119, 120, 121, 122, 123, 73, 72, 76, 71, 74, 77, 124, 125, 126, 127, 128, 129, 147, 148, 149, 150, 151, 152, 153, 154, 136, 137, 138, 139, 140, 141, 142, 143, 144, 145, 146, 155, 156, 157, 158, 159, 160, 161, 162] (by decide +kernel) (by decide +kernel)
set_option maxRecDepth 20000 in
theorem gX5_wouldBring_X3_goAll : GoodIn wsX5_wouldBring (wsV RX5 199 RX3 yX3_goAll wsX3_goAll) := goodIn_app (goodIn_of _ (by decide +kernel)) ggX5_wouldBring_X3_goAll
theorem dX5_wouldBring_0 : decode cX5_wouldBring 0 = .ok (.aload_n 0, 1) := by decide +kernel
theorem dX5_wouldBring_1 : decode cX5_wouldBring 1 = .ok (.getfield 10, 3) := by decide +kernel
theorem dX5_wouldBring_4 : decode cX5_wouldBring 4 = .ok (.invokevirtual 193, 3) := by decide +kernel
theorem dX5_wouldBring_7 : decode cX5_wouldBring 7 = .ok (.ifCond .ne 6, 3) := by decide +kernel
theorem dX5_wouldBring_10 : decode cX5_wouldBring 10 = .ok (.ldc 65, 2) := by decide +kernel
theorem dX5_wouldBring_12 : decode cX5_wouldBring 12 = .ok (.ireturn, 1) := by decide +kernel
theorem dX5_wouldBring_13 : decode cX5_wouldBring 13 = .ok (.aload_n 0, 1) := by decide +kernel
theorem dX5_wouldBring_14 : decode cX5_wouldBring 14 = .ok (.getfield 23, 3) := by decide +kernel
theorem dX5_wouldBring_17 : decode cX5_wouldBring 17 = .ok (.aload_n 0, 1) := by decide +kernel
theorem dX5_wouldBring_18 : decode cX5_wouldBring 18 = .ok (.getfield 19, 3) := by decide +kernel
theorem dX5_wouldBring_21 : decode cX5_wouldBring 21 = .ok (.invokevirtual 212, 3) := by decide +kernel
theorem dX5_wouldBring_24 : decode cX5_wouldBring 24 = .ok (.aload_n 0, 1) := by decide +kernel
theorem dX5_wouldBring_25 : decode cX5_wouldBring 25 = .ok (.getfield 23, 3) := by decide +kernel
theorem dX5_wouldBring_28 : decode cX5_wouldBring 28 = .ok (.aload_n 0, 1) := by decide +kernel
theorem dX5_wouldBring_29 : decode cX5_wouldBring 29 = .ok (.getfield 10, 3) := by decide +kernel
theorem dX5_wouldBring_32 : decode cX5_wouldBring 32 = .ok (.invokevirtual 199, 3) := by decide +kernel
theorem dX5_wouldBring_35 : decode cX5_wouldBring 35 = .ok (.aload_n 0, 1) := by decide +kernel
theorem dX5_wouldBring_36 : decode cX5_wouldBring 36 = .ok (.getfield 23, 3) := by decide +kernel
theorem dX5_wouldBring_39 : decode cX5_wouldBring 39 = .ok (.getfield 75, 3) := by decide +kernel
theorem dX5_wouldBring_42 : decode cX5_wouldBring 42 = .ok (.aload_n 0, 1) := by decide +kernel
theorem dX5_wouldBring_43 : decode cX5_wouldBring 43 = .ok (.getfield 19, 3) := by decide +kernel
theorem dX5_wouldBring_46 : decode cX5_wouldBring 46 = .ok (.getfield 75, 3) := by decide +kernel
theorem dX5_wouldBring_49 : decode cX5_wouldBring 49 = .ok (.isub, 1) := by decide +kernel
theorem dX5_wouldBring_50 : decode cX5_wouldBring 50 = .ok (.ireturn, 1) := by decide +kernel
set_option maxRecDepth 20000 in
theorem ggX5_bestMixing_X5_checkDesk : GoodIn wsX5_bestMixing wsX5_checkDesk := goodIn_ca (goodIn_r _ [4, 5, 6, 7, 8, 3, 9] (by decide +kernel) (by decide +kernel)) (goodIn_sub (fun _ h => List.mem_cons_of_mem _ (List.mem_append_right _ h)) (by decide +kernel))
set_option maxRecDepth 20000 in
theorem gX5_bestMixing_X5_checkDesk : GoodIn wsX5_bestMixing (va_wsS RX5 99 yX5_checkDesk wsX5_checkDesk) := goodIn_app (goodIn_of _ (by decide +kernel)) ggX5_bestMixing_X5_checkDesk
set_option maxRecDepth 20000 in
theorem ggX5_bestMixing_X5_bestSetting : GoodIn wsX5_bestMixing wsX5_bestSetting := goodIn_r _ [13, 14, 15, 16, 17, 18, 19, 20, 21, 22, 23, 24, 25, 26, 27, 28, 29, 30, 31, 32, 33, 34, 35, 36, 37, 38, 39, 40, 41, 42, 43, 44, 45, 46, 47, 48, 49, 50, 51, 52, 53, 54, 55, 56, 57, 58, 59, 60, 61, 62, 63, 64, 65, 66, 67, 68, 69, 70, 71, 72, 73, 74, 75, 76, 77, 78, 79, 80, 81, 82, 83, 84, 85, 86, 87, 88, 89, 90, 91, 92, 93, 94, 95, 96, 97, 98, 99, 100, 101, 102, 103, 104, 105, 106, 107, 108, 109, 110, 111, 112, 113, 114, 115, 116, 117, 118, 119, 120, 121, 122, 123, 124, 125, 126, 127, 128, 129, 130, 131, 132, 133, 134, 135, 136, 137, 138, 139, 140, 141, 142, 143, 144, 145, 146, 147, 148, 149, 150, 151, 152, 153, 154, 155, 156, 157, 158, 159, 160, 161, 162, 163, 164, 165, 166, 167, 168, 169, 170, 171, 172, 173, 174, 175, 176, 177, 178, 179, 180, 181, 182, 183, 184, 185, 186, 187, 188, 189, 190, 191, 192, 193, 194, 195] (by decide +kernel) (by decide +kernel)
set_option maxRecDepth 20000 in
theorem gX5_bestMixing_X5_bestSetting : GoodIn wsX5_bestMixing (wsV RX5 215 RX5 yX5_bestSetting wsX5_bestSetting) := goodIn_app (goodIn_of _ (by decide +kernel)) ggX5_bestMixing_X5_bestSetting
theorem dX5_bestMixing_0 : decode cX5_bestMixing 0 = .ok (.iload_n 1, 1) := by decide +kernel
theorem dX5_bestMixing_1 : decode cX5_bestMixing 1 = .ok (.invokestatic 99, 3) := by decide +kernel
theorem dX5_bestMixing_4 : decode cX5_bestMixing 4 = .ok (.aload_n 0, 1) := by decide +kernel
theorem dX5_bestMixing_5 : decode cX5_bestMixing 5 = .ok (.iload_n 1, 1) := by decide +kernel
theorem dX5_bestMixing_6 : decode cX5_bestMixing 6 = .ok (.iconst 0, 1) := by decide +kernel
theorem dX5_bestMixing_7 : decode cX5_bestMixing 7 = .ok (.invokevirtual 215, 3) := by decide +kernel
theorem dX5_bestMixing_10 : decode cX5_bestMixing 10 = .ok (.ireturn, 1) := by decide +kernel
set_option maxRecDepth 20000 in
theorem ggX5_bestLength_X5_checkDesk : GoodIn wsX5_bestLength wsX5_checkDesk := goodIn_ca (goodIn_r _ [4, 5, 6, 7, 8, 3, 9] (by decide +kernel) (by decide +kernel)) (goodIn_sub (fun _ h => List.mem_cons_of_mem _ (List.mem_append_right _ h)) (by decide +kernel))
set_option maxRecDepth 20000 in
theorem gX5_bestLength_X5_checkDesk : GoodIn wsX5_bestLength (va_wsS RX5 99 yX5_checkDesk wsX5_checkDesk) := goodIn_app (goodIn_of _ (by decide +kernel)) ggX5_bestLength_X5_checkDesk
set_option maxRecDepth 20000 in
theorem ggX5_bestLength_X5_bestSetting : GoodIn wsX5_bestLength wsX5_bestSetting := goodIn_r _ [13, 14, 15, 16, 17, 18, 19, 20, 21, 22, 23, 24, 25, 26, 27, 28, 29, 30, 31, 32, 33, 34, 35, 36, 37, 38, 39, 40, 41, 42, 43, 44, 45, 46, 47, 48, 49, 50, 51, 52, 53, 54, 55, 56, 57, 58, 59, 60, 61, 62, 63, 64, 65, 66, 67, 68, 69, 70, 71, 72, 73, 74, 75, 76, 77, 78, 79, 80, 81, 82, 83, 84, 85, 86, 87, 88, 89, 90, 91, 92, 93, 94, 95, 96, 97, 98, 99, 100, 101, 102, 103, 104, 105, 106, 107, 108, 109, 110, 111, 112, 113, 114, 115, 116, 117, 118, 119, 120, 121, 122, 123, 124, 125, 126, 127, 128, 129, 130, 131, 132, 133, 134, 135, 136, 137, 138, 139, 140, 141, 142, 143, 144, 145, 146, 147, 148, 149, 150, 151, 152, 153, 154, 155, 156, 157, 158, 159, 160, 161, 162, 163, 164, 165, 166, 167, 168, 169, 170, 171, 172, 173, 174, 175, 176, 177, 178, 179, 180, 181, 182, 183, 184, 185, 186, 187, 188, 189, 190, 191, 192, 193, 194, 195] (by decide +kernel) (by decide +kernel)
set_option maxRecDepth 20000 in
theorem gX5_bestLength_X5_bestSetting : GoodIn wsX5_bestLength (wsV RX5 215 RX5 yX5_bestSetting wsX5_bestSetting) := goodIn_app (goodIn_of _ (by decide +kernel)) ggX5_bestLength_X5_bestSetting
theorem dX5_bestLength_0 : decode cX5_bestLength 0 = .ok (.iload_n 1, 1) := by decide +kernel
theorem dX5_bestLength_1 : decode cX5_bestLength 1 = .ok (.invokestatic 99, 3) := by decide +kernel
theorem dX5_bestLength_4 : decode cX5_bestLength 4 = .ok (.aload_n 0, 1) := by decide +kernel
theorem dX5_bestLength_5 : decode cX5_bestLength 5 = .ok (.iload_n 1, 1) := by decide +kernel
theorem dX5_bestLength_6 : decode cX5_bestLength 6 = .ok (.iconst 1, 1) := by decide +kernel
theorem dX5_bestLength_7 : decode cX5_bestLength 7 = .ok (.invokevirtual 215, 3) := by decide +kernel
theorem dX5_bestLength_10 : decode cX5_bestLength 10 = .ok (.ireturn, 1) := by decide +kernel
set_option maxRecDepth 20000 in
theorem ggX5_sharing_X5_checkDesk : GoodIn wsX5_sharing wsX5_checkDesk := goodIn_ca (goodIn_r _ [5, 6, 7, 8, 9, 4, 10] (by decide +kernel) (by decide +kernel)) (goodIn_sub (fun _ h => List.mem_cons_of_mem _ (List.mem_append_right _ h)) (by decide +kernel))
set_option maxRecDepth 20000 in
theorem gX5_sharing_X5_checkDesk : GoodIn wsX5_sharing (va_wsS RX5 99 yX5_checkDesk wsX5_checkDesk) := goodIn_app (goodIn_of _ (by decide +kernel)) ggX5_sharing_X5_checkDesk
set_option maxRecDepth 20000 in
theorem ggX5_sharing_X5_checkPlace : GoodIn wsX5_sharing wsX5_checkPlace := goodIn_ca (goodIn_r _ [13, 6, 7, 14, 15, 4, 16] (by decide +kernel) (by decide +kernel)) (goodIn_sub (fun _ h => List.mem_cons_of_mem _ (List.mem_append_right _ h)) (by decide +kernel))
set_option maxRecDepth 20000 in
theorem gX5_sharing_X5_checkPlace : GoodIn wsX5_sharing (va_wsS RX5 127 yX5_checkPlace wsX5_checkPlace) := goodIn_app (goodIn_of _ (by decide +kernel)) ggX5_sharing_X5_checkPlace
set_option maxRecDepth 20000 in
theorem ggX5_sharing_X3_noteFor : GoodIn wsX5_sharing wsX3_noteFor := goodIn_r _ [21, 22, 23, 24, 25, 26, 27, 28, 29, 30, 31, 32, 33, 34, 41, 42, 43, 44, 45, 46, 47, 48, 49, 50, 51, 52, 53, 54, 55, 56, 57, 58, 59] (by decide +kernel) (by decide +kernel)
set_option maxRecDepth 20000 in
theorem gX5_sharing_X3_noteFor : GoodIn wsX5_sharing (wsV RX5 151 RX3 yX3_noteFor wsX3_noteFor) := goodIn_app (goodIn_of _ (by decide +kernel)) ggX5_sharing_X3_noteFor
theorem dX5_sharing_0 : decode cX5_sharing 0 = .ok (.iload_n 1, 1) := by decide +kernel
theorem dX5_sharing_1 : decode cX5_sharing 1 = .ok (.invokestatic 99, 3) := by decide +kernel
theorem dX5_sharing_4 : decode cX5_sharing 4 = .ok (.iload_n 2, 1) := by decide +kernel
theorem dX5_sharing_5 : decode cX5_sharing 5 = .ok (.invokestatic 127, 3) := by decide +kernel
theorem dX5_sharing_8 : decode cX5_sharing 8 = .ok (.aload_n 0, 1) := by decide +kernel
theorem dX5_sharing_9 : decode cX5_sharing 9 = .ok (.getfield 19, 3) := by decide +kernel
theorem dX5_sharing_12 : decode cX5_sharing 12 = .ok (.iload_n 1, 1) := by decide +kernel
theorem dX5_sharing_13 : decode cX5_sharing 13 = .ok (.iload_n 2, 1) := by decide +kernel
theorem dX5_sharing_14 : decode cX5_sharing 14 = .ok (.invokevirtual 151, 3) := by decide +kernel
theorem dX5_sharing_17 : decode cX5_sharing 17 = .ok (.istore_n 3, 1) := by decide +kernel
theorem dX5_sharing_18 : decode cX5_sharing 18 = .ok (.iconst 0, 1) := by decide +kernel
theorem dX5_sharing_19 : decode cX5_sharing 19 = .ok (.istore 4, 2) := by decide +kernel
theorem dX5_sharing_21 : decode cX5_sharing 21 = .ok (.iconst 0, 1) := by decide +kernel
theorem dX5_sharing_22 : decode cX5_sharing 22 = .ok (.istore 5, 2) := by decide +kernel
theorem dX5_sharing_24 : decode cX5_sharing 24 = .ok (.iload 5, 2) := by decide +kernel
theorem dX5_sharing_26 : decode cX5_sharing 26 = .ok (.bipush 26, 2) := by decide +kernel
theorem dX5_sharing_28 : decode cX5_sharing 28 = .ok (.if_icmp .ge 38, 3) := by decide +kernel
theorem dX5_sharing_31 : decode cX5_sharing 31 = .ok (.iload 5, 2) := by decide +kernel
theorem dX5_sharing_33 : decode cX5_sharing 33 = .ok (.iload_n 2, 1) := by decide +kernel
theorem dX5_sharing_34 : decode cX5_sharing 34 = .ok (.if_icmp .eq 26, 3) := by decide +kernel
theorem dX5_sharing_37 : decode cX5_sharing 37 = .ok (.aload_n 0, 1) := by decide +kernel
theorem dX5_sharing_38 : decode cX5_sharing 38 = .ok (.getfield 19, 3) := by decide +kernel
theorem dX5_sharing_41 : decode cX5_sharing 41 = .ok (.iload_n 1, 1) := by decide +kernel
theorem dX5_sharing_42 : decode cX5_sharing 42 = .ok (.iload 5, 2) := by decide +kernel
theorem dX5_sharing_44 : decode cX5_sharing 44 = .ok (.invokevirtual 151, 3) := by decide +kernel
theorem dX5_sharing_47 : decode cX5_sharing 47 = .ok (.iload_n 3, 1) := by decide +kernel
theorem dX5_sharing_48 : decode cX5_sharing 48 = .ok (.if_icmp .ne 12, 3) := by decide +kernel
theorem dX5_sharing_51 : decode cX5_sharing 51 = .ok (.iload 4, 2) := by decide +kernel
theorem dX5_sharing_53 : decode cX5_sharing 53 = .ok (.iconst 1, 1) := by decide +kernel
theorem dX5_sharing_54 : decode cX5_sharing 54 = .ok (.iload 5, 2) := by decide +kernel
theorem dX5_sharing_56 : decode cX5_sharing 56 = .ok (.ishl, 1) := by decide +kernel
theorem dX5_sharing_57 : decode cX5_sharing 57 = .ok (.ior, 1) := by decide +kernel
theorem dX5_sharing_58 : decode cX5_sharing 58 = .ok (.istore 4, 2) := by decide +kernel
theorem dX5_sharing_60 : decode cX5_sharing 60 = .ok (.iinc 5 1, 3) := by decide +kernel
theorem dX5_sharing_63 : decode cX5_sharing 63 = .ok (.goto (-39), 3) := by decide +kernel
theorem dX5_sharing_66 : decode cX5_sharing 66 = .ok (.iload 4, 2) := by decide +kernel
theorem dX5_sharing_68 : decode cX5_sharing 68 = .ok (.ireturn, 1) := by decide +kernel
set_option maxRecDepth 20000 in
theorem ggX5_holds_X5_checkPlace : GoodIn wsX5_holds wsX5_checkPlace := goodIn_ca (goodIn_r _ [6, 7, 8, 9, 10, 5, 11] (by decide +kernel) (by decide +kernel)) (goodIn_sub (fun _ h => List.mem_cons_of_mem _ (List.mem_append_right _ h)) (by decide +kernel))
set_option maxRecDepth 20000 in
theorem gX5_holds_X5_checkPlace : GoodIn wsX5_holds (va_wsS RX5 127 yX5_checkPlace wsX5_checkPlace) := goodIn_app (goodIn_of _ (by decide +kernel)) ggX5_holds_X5_checkPlace
set_option maxRecDepth 20000 in
theorem ggX5_holds_X3_copyFrom : GoodIn wsX5_holds wsX3_copyFrom := goodIn_r _ [16, 17, 18, 19, 20, 21, 22, 23, 24, 25, 26, 27, 28, 29, 30, 31, 32, 33, 34, 35, 36, 37, 38, 39, 40, 41, 42, 43, 44, 45, 102, 103, 104, 105, 106, 107, 108, 109, 110, 111, 112, 113, 114, 115, 116, 117, 118, 119, 120] (by decide +kernel) (by decide +kernel)
set_option maxRecDepth 20000 in
theorem gX5_holds_X3_copyFrom : GoodIn wsX5_holds (wsV RX5 212 RX3 yX3_copyFrom wsX3_copyFrom) := goodIn_app (goodIn_of _ (by decide +kernel)) ggX5_holds_X3_copyFrom
set_option maxRecDepth 20000 in
theorem ggX5_holds_X3_guessFor : GoodIn wsX5_holds wsX3_guessFor := goodIn_r _ [49, 23, 50, 51, 52, 15, 53, 22, 54, 17, 55, 56, 57, 35, 58, 37, 59, 60, 61, 62, 43, 102, 103, 104, 105, 106, 107, 108, 109, 110, 111, 112, 113, 114, 115, 116, 117, 118, 119, 120] (by decide +kernel) (by decide +kernel)
set_option maxRecDepth 20000 in
theorem gX5_holds_X3_guessFor : GoodIn wsX5_holds (wsV RX5 142 RX3 yX3_guessFor wsX3_guessFor) := goodIn_app (goodIn_of _ (by decide +kernel)) ggX5_holds_X3_guessFor
set_option maxRecDepth 20000 in
theorem ggX5_holds_X3_go : GoodIn wsX5_holds wsX3_go := goodIn_r _ [66, 23, 22, 17, 50, 51, 52, 15, 53, 54, 55, 56, 57, 35, 58, 37, 59, 60, 61, 62, 43, 67, 68, 69, 70, 27, 24, 25, 28, 26, 29, 30, 31, 71, 72, 73, 74, 75, 76, 77, 78, 79, 80, 81, 82, 83, 84, 85, 86, 87, 88, 89, 41, 40, 44, 39, 42, 45, 90, 91, 92, 93, 94, 95, 102, 103, 104, 105, 106, 107, 108, 109, 110, 111, 112, 113, 114, 115, 116, 117, 118, 119, 120] (by decide +kernel) (by decide +kernel)
set_option maxRecDepth 20000 in
theorem gX5_holds_X3_go : GoodIn wsX5_holds (wsV RX5 189 RX3 yX3_go wsX3_go) := goodIn_app (goodIn_of _ (by decide +kernel)) ggX5_holds_X3_go
theorem dX5_holds_0 : decode cX5_holds 0 = .ok (.iload_n 1, 1) := by decide +kernel
theorem dX5_holds_1 : decode cX5_holds 1 = .ok (.invokestatic 127, 3) := by decide +kernel
theorem dX5_holds_4 : decode cX5_holds 4 = .ok (.aload_n 0, 1) := by decide +kernel
theorem dX5_holds_5 : decode cX5_holds 5 = .ok (.getfield 23, 3) := by decide +kernel
theorem dX5_holds_8 : decode cX5_holds 8 = .ok (.aload_n 0, 1) := by decide +kernel
theorem dX5_holds_9 : decode cX5_holds 9 = .ok (.getfield 19, 3) := by decide +kernel
theorem dX5_holds_12 : decode cX5_holds 12 = .ok (.invokevirtual 212, 3) := by decide +kernel
theorem dX5_holds_15 : decode cX5_holds 15 = .ok (.aload_n 0, 1) := by decide +kernel
theorem dX5_holds_16 : decode cX5_holds 16 = .ok (.getfield 23, 3) := by decide +kernel
theorem dX5_holds_19 : decode cX5_holds 19 = .ok (.iload_n 1, 1) := by decide +kernel
theorem dX5_holds_20 : decode cX5_holds 20 = .ok (.invokevirtual 142, 3) := by decide +kernel
theorem dX5_holds_23 : decode cX5_holds 23 = .ok (.istore_n 2, 1) := by decide +kernel
theorem dX5_holds_24 : decode cX5_holds 24 = .ok (.iconst 1, 1) := by decide +kernel
theorem dX5_holds_25 : decode cX5_holds 25 = .ok (.istore_n 3, 1) := by decide +kernel
theorem dX5_holds_26 : decode cX5_holds 26 = .ok (.iload_n 3, 1) := by decide +kernel
theorem dX5_holds_27 : decode cX5_holds 27 = .ok (.bipush 98, 2) := by decide +kernel
theorem dX5_holds_29 : decode cX5_holds 29 = .ok (.if_icmp .gt 41, 3) := by decide +kernel
theorem dX5_holds_32 : decode cX5_holds 32 = .ok (.aload_n 0, 1) := by decide +kernel
theorem dX5_holds_33 : decode cX5_holds 33 = .ok (.getfield 23, 3) := by decide +kernel
theorem dX5_holds_36 : decode cX5_holds 36 = .ok (.iload_n 1, 1) := by decide +kernel
theorem dX5_holds_37 : decode cX5_holds 37 = .ok (.iload_n 2, 1) := by decide +kernel
theorem dX5_holds_38 : decode cX5_holds 38 = .ok (.ifCond .ne 7, 3) := by decide +kernel
theorem dX5_holds_41 : decode cX5_holds 41 = .ok (.iconst 1, 1) := by decide +kernel
theorem dX5_holds_42 : decode cX5_holds 42 = .ok (.goto 4, 3) := by decide +kernel
theorem dX5_holds_45 : decode cX5_holds 45 = .ok (.iconst 0, 1) := by decide +kernel
theorem dX5_holds_46 : decode cX5_holds 46 = .ok (.invokevirtual 189, 3) := by decide +kernel
theorem dX5_holds_49 : decode cX5_holds 49 = .ok (.pop, 1) := by decide +kernel
theorem dX5_holds_50 : decode cX5_holds 50 = .ok (.aload_n 0, 1) := by decide +kernel
theorem dX5_holds_51 : decode cX5_holds 51 = .ok (.getfield 23, 3) := by decide +kernel
theorem dX5_holds_54 : decode cX5_holds 54 = .ok (.iload_n 1, 1) := by decide +kernel
theorem dX5_holds_55 : decode cX5_holds 55 = .ok (.invokevirtual 142, 3) := by decide +kernel
theorem dX5_holds_58 : decode cX5_holds 58 = .ok (.iload_n 2, 1) := by decide +kernel
theorem dX5_holds_59 : decode cX5_holds 59 = .ok (.if_icmp .eq 5, 3) := by decide +kernel
theorem dX5_holds_62 : decode cX5_holds 62 = .ok (.iload_n 3, 1) := by decide +kernel
theorem dX5_holds_63 : decode cX5_holds 63 = .ok (.ireturn, 1) := by decide +kernel
theorem dX5_holds_64 : decode cX5_holds 64 = .ok (.iinc 3 1, 3) := by decide +kernel
theorem dX5_holds_67 : decode cX5_holds 67 = .ok (.goto (-41), 3) := by decide +kernel
theorem dX5_holds_70 : decode cX5_holds 70 = .ok (.bipush 99, 2) := by decide +kernel
theorem dX5_holds_72 : decode cX5_holds 72 = .ok (.ireturn, 1) := by decide +kernel
theorem dX5_worst_0 : decode cX5_worst 0 = .ok (.ldc 65, 2) := by decide +kernel
theorem dX5_worst_2 : decode cX5_worst 2 = .ok (.istore_n 1, 1) := by decide +kernel
theorem dX5_worst_3 : decode cX5_worst 3 = .ok (.iconst 0, 1) := by decide +kernel
theorem dX5_worst_4 : decode cX5_worst 4 = .ok (.istore_n 2, 1) := by decide +kernel
theorem dX5_worst_5 : decode cX5_worst 5 = .ok (.iconst 0, 1) := by decide +kernel
theorem dX5_worst_6 : decode cX5_worst 6 = .ok (.istore_n 3, 1) := by decide +kernel
theorem dX5_worst_7 : decode cX5_worst 7 = .ok (.iload_n 3, 1) := by decide +kernel
theorem dX5_worst_8 : decode cX5_worst 8 = .ok (.bipush 26, 2) := by decide +kernel
theorem dX5_worst_10 : decode cX5_worst 10 = .ok (.if_icmp .ge 41, 3) := by decide +kernel
theorem dX5_worst_13 : decode cX5_worst 13 = .ok (.aload_n 0, 1) := by decide +kernel
theorem dX5_worst_14 : decode cX5_worst 14 = .ok (.getfield 19, 3) := by decide +kernel
theorem dX5_worst_17 : decode cX5_worst 17 = .ok (.getfield 130, 3) := by decide +kernel
theorem dX5_worst_20 : decode cX5_worst 20 = .ok (.iload_n 3, 1) := by decide +kernel
theorem dX5_worst_21 : decode cX5_worst 21 = .ok (.iaload, 1) := by decide +kernel
theorem dX5_worst_22 : decode cX5_worst 22 = .ok (.aload_n 0, 1) := by decide +kernel
theorem dX5_worst_23 : decode cX5_worst 23 = .ok (.getfield 19, 3) := by decide +kernel
theorem dX5_worst_26 : decode cX5_worst 26 = .ok (.getfield 136, 3) := by decide +kernel
theorem dX5_worst_29 : decode cX5_worst 29 = .ok (.iload_n 3, 1) := by decide +kernel
theorem dX5_worst_30 : decode cX5_worst 30 = .ok (.iaload, 1) := by decide +kernel
theorem dX5_worst_31 : decode cX5_worst 31 = .ok (.isub, 1) := by decide +kernel
theorem dX5_worst_32 : decode cX5_worst 32 = .ok (.istore 4, 2) := by decide +kernel
theorem dX5_worst_34 : decode cX5_worst 34 = .ok (.iload 4, 2) := by decide +kernel
theorem dX5_worst_36 : decode cX5_worst 36 = .ok (.iload_n 2, 1) := by decide +kernel
theorem dX5_worst_37 : decode cX5_worst 37 = .ok (.if_icmp .le 8, 3) := by decide +kernel
theorem dX5_worst_40 : decode cX5_worst 40 = .ok (.iload 4, 2) := by decide +kernel
theorem dX5_worst_42 : decode cX5_worst 42 = .ok (.istore_n 2, 1) := by decide +kernel
theorem dX5_worst_43 : decode cX5_worst 43 = .ok (.iload_n 3, 1) := by decide +kernel
theorem dX5_worst_44 : decode cX5_worst 44 = .ok (.istore_n 1, 1) := by decide +kernel
theorem dX5_worst_45 : decode cX5_worst 45 = .ok (.iinc 3 1, 3) := by decide +kernel
theorem dX5_worst_48 : decode cX5_worst 48 = .ok (.goto (-41), 3) := by decide +kernel
theorem dX5_worst_51 : decode cX5_worst 51 = .ok (.iload_n 1, 1) := by decide +kernel
theorem dX5_worst_52 : decode cX5_worst 52 = .ok (.ireturn, 1) := by decide +kernel
set_option maxRecDepth 20000 in
theorem ggX5_runScript_X5_withoutLastGroups : GoodIn wsX5_runScript wsX5_withoutLastGroups := goodIn_r _ [10, 5] (by decide +kernel) (by decide +kernel)
set_option maxRecDepth 20000 in
theorem gX5_runScript_X5_withoutLastGroups : GoodIn wsX5_runScript (va_wsS RX5 220 yX5_withoutLastGroups wsX5_withoutLastGroups) := goodIn_app (goodIn_of _ (by decide +kernel)) ggX5_runScript_X5_withoutLastGroups
set_option maxRecDepth 20000 in
theorem ggX5_runScript_X3_copyFrom : GoodIn wsX5_runScript wsX3_copyFrom := goodIn_r _ [15, 16, 17, 18, 19, 20, 21, 22, 23, 24, 25, 26, 27, 28, 29, 30, 31, 32, 33, 34, 35, 36, 37, 38, 39, 40, 41, 42, 43, 44, 170, 171, 172, 173, 174, 175, 176, 177, 178, 179, 180, 181, 182, 183, 184, 185, 186, 187, 188] (by decide +kernel) (by decide +kernel)
set_option maxRecDepth 20000 in
theorem gX5_runScript_X3_copyFrom : GoodIn wsX5_runScript (wsV RX5 212 RX3 yX3_copyFrom wsX3_copyFrom) := goodIn_app (goodIn_of _ (by decide +kernel)) ggX5_runScript_X3_copyFrom
set_option maxRecDepth 20000 in
theorem ggX5_runScript_X2_succeeds : GoodIn wsX5_runScript wsX2_succeeds := goodIn_r _ [48, 49, 50, 51, 52, 53, 54, 47, 55, 56, 9, 57, 58, 59, 60, 14, 61, 22, 21, 16, 62, 63, 64, 65, 66, 67, 68, 69, 34, 70, 36, 71, 72, 73, 74, 42, 75, 76, 77, 78, 26, 23, 24, 27, 25, 28, 29, 30, 79, 80, 81, 82, 83, 84, 85, 86, 87, 88, 89, 90, 91, 92, 93, 94, 95, 96, 97, 40, 39, 43, 38, 41, 44, 98, 99, 100, 101, 102, 103, 104, 105, 106, 107, 108, 109, 110, 111, 112, 113, 114, 115, 116, 117, 118, 119, 120, 121, 122, 123, 124, 125, 126, 127, 128, 129, 130, 131, 132, 133, 134, 135, 136, 137, 138, 139, 140, 141, 142, 143, 144, 145, 146, 147, 148, 149, 150, 151, 152, 153, 154, 155, 156, 157, 158, 159, 160, 161, 162, 163, 170, 171, 172, 173, 174, 175, 176, 177, 178, 179, 180, 181, 182, 183, 184, 185, 186, 187, 188] (by decide +kernel) (by decide +kernel)
set_option maxRecDepth 20000 in
theorem gX5_runScript_X2_succeeds : GoodIn wsX5_runScript (va_wsS RX5 228 yX2_succeeds wsX2_succeeds) := goodIn_app (goodIn_of _ (by decide +kernel)) ggX5_runScript_X2_succeeds
theorem dX5_runScript_0 : decode cX5_runScript 0 = .ok (.iload_n 1, 1) := by decide +kernel
theorem dX5_runScript_1 : decode cX5_runScript 1 = .ok (.iconst 1, 1) := by decide +kernel
theorem dX5_runScript_2 : decode cX5_runScript 2 = .ok (.if_icmp .lt 8, 3) := by decide +kernel
theorem dX5_runScript_5 : decode cX5_runScript 5 = .ok (.iload_n 1, 1) := by decide +kernel
theorem dX5_runScript_6 : decode cX5_runScript 6 = .ok (.iconst 3, 1) := by decide +kernel
theorem dX5_runScript_7 : decode cX5_runScript 7 = .ok (.if_icmp .le 13, 3) := by decide +kernel
theorem dX5_runScript_10 : decode cX5_runScript 10 = .ok (.new 41, 3) := by decide +kernel
theorem dX5_runScript_13 : decode cX5_runScript 13 = .ok (.dup, 1) := by decide +kernel
theorem dX5_runScript_14 : decode cX5_runScript 14 = .ok (.ldc 218, 2) := by decide +kernel
theorem dX5_runScript_16 : decode cX5_runScript 16 = .ok (.invokespecial 45, 3) := by decide +kernel
theorem dX5_runScript_19 : decode cX5_runScript 19 = .ok (.athrow, 1) := by decide +kernel
theorem dX5_runScript_20 : decode cX5_runScript 20 = .ok (.lload_n 2, 1) := by decide +kernel
theorem dX5_runScript_21 : decode cX5_runScript 21 = .ok (.lconst 0, 1) := by decide +kernel
theorem dX5_runScript_22 : decode cX5_runScript 22 = .ok (.lcmp, 1) := by decide +kernel
theorem dX5_runScript_23 : decode cX5_runScript 23 = .ok (.ifCond .lt 13, 3) := by decide +kernel
theorem dX5_runScript_26 : decode cX5_runScript 26 = .ok (.lload_n 2, 1) := by decide +kernel
theorem dX5_runScript_27 : decode cX5_runScript 27 = .ok (.iload_n 1, 1) := by decide +kernel
theorem dX5_runScript_28 : decode cX5_runScript 28 = .ok (.invokestatic 220, 3) := by decide +kernel
theorem dX5_runScript_31 : decode cX5_runScript 31 = .ok (.lconst 0, 1) := by decide +kernel
theorem dX5_runScript_32 : decode cX5_runScript 32 = .ok (.lcmp, 1) := by decide +kernel
theorem dX5_runScript_33 : decode cX5_runScript 33 = .ok (.ifCond .eq 13, 3) := by decide +kernel
theorem dX5_runScript_36 : decode cX5_runScript 36 = .ok (.new 41, 3) := by decide +kernel
theorem dX5_runScript_39 : decode cX5_runScript 39 = .ok (.dup, 1) := by decide +kernel
theorem dX5_runScript_40 : decode cX5_runScript 40 = .ok (.ldc 224, 2) := by decide +kernel
theorem dX5_runScript_42 : decode cX5_runScript 42 = .ok (.invokespecial 45, 3) := by decide +kernel
theorem dX5_runScript_45 : decode cX5_runScript 45 = .ok (.athrow, 1) := by decide +kernel
theorem dX5_runScript_46 : decode cX5_runScript 46 = .ok (.aload_n 0, 1) := by decide +kernel
theorem dX5_runScript_47 : decode cX5_runScript 47 = .ok (.getfield 23, 3) := by decide +kernel
theorem dX5_runScript_50 : decode cX5_runScript 50 = .ok (.aload_n 0, 1) := by decide +kernel
theorem dX5_runScript_51 : decode cX5_runScript 51 = .ok (.getfield 19, 3) := by decide +kernel
theorem dX5_runScript_54 : decode cX5_runScript 54 = .ok (.invokevirtual 212, 3) := by decide +kernel
theorem dX5_runScript_57 : decode cX5_runScript 57 = .ok (.iconst 0, 1) := by decide +kernel
theorem dX5_runScript_58 : decode cX5_runScript 58 = .ok (.istore 4, 2) := by decide +kernel
theorem dX5_runScript_60 : decode cX5_runScript 60 = .ok (.iload 4, 2) := by decide +kernel
theorem dX5_runScript_62 : decode cX5_runScript 62 = .ok (.iload_n 1, 1) := by decide +kernel
theorem dX5_runScript_63 : decode cX5_runScript 63 = .ok (.if_icmp .ge 37, 3) := by decide +kernel
theorem dX5_runScript_66 : decode cX5_runScript 66 = .ok (.aload_n 0, 1) := by decide +kernel
theorem dX5_runScript_67 : decode cX5_runScript 67 = .ok (.getfield 23, 3) := by decide +kernel
theorem dX5_runScript_70 : decode cX5_runScript 70 = .ok (.lload_n 2, 1) := by decide +kernel
theorem dX5_runScript_71 : decode cX5_runScript 71 = .ok (.iload_n 1, 1) := by decide +kernel
theorem dX5_runScript_72 : decode cX5_runScript 72 = .ok (.iconst 1, 1) := by decide +kernel
theorem dX5_runScript_73 : decode cX5_runScript 73 = .ok (.isub, 1) := by decide +kernel
theorem dX5_runScript_74 : decode cX5_runScript 74 = .ok (.iload 4, 2) := by decide +kernel
theorem dX5_runScript_76 : decode cX5_runScript 76 = .ok (.isub, 1) := by decide +kernel
theorem dX5_runScript_77 : decode cX5_runScript 77 = .ok (.invokestatic 220, 3) := by decide +kernel
theorem dX5_runScript_80 : decode cX5_runScript 80 = .ok (.ldc2_w 226, 3) := by decide +kernel
theorem dX5_runScript_83 : decode cX5_runScript 83 = .ok (.lrem, 1) := by decide +kernel
theorem dX5_runScript_84 : decode cX5_runScript 84 = .ok (.l2i, 1) := by decide +kernel
theorem dX5_runScript_85 : decode cX5_runScript 85 = .ok (.invokestatic 228, 3) := by decide +kernel
theorem dX5_runScript_88 : decode cX5_runScript 88 = .ok (.ifCond .ne 6, 3) := by decide +kernel
theorem dX5_runScript_91 : decode cX5_runScript 91 = .ok (.iload 4, 2) := by decide +kernel
theorem dX5_runScript_93 : decode cX5_runScript 93 = .ok (.ireturn, 1) := by decide +kernel
theorem dX5_runScript_94 : decode cX5_runScript 94 = .ok (.iinc 4 1, 3) := by decide +kernel
theorem dX5_runScript_97 : decode cX5_runScript 97 = .ok (.goto (-37), 3) := by decide +kernel
theorem dX5_runScript_100 : decode cX5_runScript 100 = .ok (.ldc 65, 2) := by decide +kernel
theorem dX5_runScript_102 : decode cX5_runScript 102 = .ok (.ireturn, 1) := by decide +kernel
set_option maxRecDepth 20000 in
theorem ggX5_simulate_X3_copyFrom : GoodIn wsX5_simulate wsX3_copyFrom := goodIn_r _ [16, 17, 18, 19, 20, 21, 22, 23, 24, 25, 26, 27, 28, 29, 30, 31, 32, 33, 34, 35, 36, 37, 38, 39, 40, 41, 42, 43, 44, 45, 100, 101, 102, 103, 104, 105, 106, 107, 108, 109, 110, 111, 112, 113, 114, 115, 116, 117, 118] (by decide +kernel) (by decide +kernel)
set_option maxRecDepth 20000 in
theorem gX5_simulate_X3_copyFrom : GoodIn wsX5_simulate (wsV RX5 212 RX3 yX3_copyFrom wsX3_copyFrom) := goodIn_app (goodIn_of _ (by decide +kernel)) ggX5_simulate_X3_copyFrom
set_option maxRecDepth 20000 in
theorem ggX5_simulate_X3_go : GoodIn wsX5_simulate wsX3_go := goodIn_r _ [49, 23, 22, 17, 50, 51, 52, 15, 53, 54, 55, 56, 57, 35, 58, 37, 59, 60, 61, 62, 43, 63, 64, 65, 66, 27, 24, 25, 28, 26, 29, 30, 31, 67, 68, 10, 69, 70, 71, 72, 73, 74, 9, 11, 75, 76, 77, 78, 79, 80, 81, 82, 41, 40, 44, 39, 42, 45, 83, 84, 85, 86, 87, 88, 100, 101, 102, 103, 104, 105, 106, 107, 108, 109, 110, 111, 112, 113, 114, 115, 116, 117, 118] (by decide +kernel) (by decide +kernel)
set_option maxRecDepth 20000 in
theorem gX5_simulate_X3_go : GoodIn wsX5_simulate (wsV RX5 189 RX3 yX3_go wsX3_go) := goodIn_app (goodIn_of _ (by decide +kernel)) ggX5_simulate_X3_go
set_option maxRecDepth 20000 in
theorem ggX5_simulate_X3_allClashes : GoodIn wsX5_simulate wsX3_allClashes := goodIn_r _ [92, 22, 93, 100, 101, 102, 103, 104, 105, 106, 107, 108, 109, 110, 111, 112, 113, 114, 115, 116, 117, 118] (by decide +kernel) (by decide +kernel)
set_option maxRecDepth 20000 in
theorem gX5_simulate_X3_allClashes : GoodIn wsX5_simulate (wsV RX5 240 RX3 yX3_allClashes wsX3_allClashes) := goodIn_app (goodIn_of _ (by decide +kernel)) ggX5_simulate_X3_allClashes
theorem dX5_simulate_0 : decode cX5_simulate 0 = .ok (.iload_n 3, 1) := by decide +kernel
theorem dX5_simulate_1 : decode cX5_simulate 1 = .ok (.iconst 1, 1) := by decide +kernel
theorem dX5_simulate_2 : decode cX5_simulate 2 = .ok (.if_icmp .lt 10, 3) := by decide +kernel
theorem dX5_simulate_5 : decode cX5_simulate 5 = .ok (.iload_n 3, 1) := by decide +kernel
theorem dX5_simulate_6 : decode cX5_simulate 6 = .ok (.sipush 300, 3) := by decide +kernel
theorem dX5_simulate_9 : decode cX5_simulate 9 = .ok (.if_icmp .le 13, 3) := by decide +kernel
theorem dX5_simulate_12 : decode cX5_simulate 12 = .ok (.new 41, 3) := by decide +kernel
theorem dX5_simulate_15 : decode cX5_simulate 15 = .ok (.dup, 1) := by decide +kernel
theorem dX5_simulate_16 : decode cX5_simulate 16 = .ok (.ldc 234, 2) := by decide +kernel
theorem dX5_simulate_18 : decode cX5_simulate 18 = .ok (.invokespecial 45, 3) := by decide +kernel
theorem dX5_simulate_21 : decode cX5_simulate 21 = .ok (.athrow, 1) := by decide +kernel
theorem dX5_simulate_22 : decode cX5_simulate 22 = .ok (.aload_n 0, 1) := by decide +kernel
theorem dX5_simulate_23 : decode cX5_simulate 23 = .ok (.getfield 23, 3) := by decide +kernel
theorem dX5_simulate_26 : decode cX5_simulate 26 = .ok (.aload_n 0, 1) := by decide +kernel
theorem dX5_simulate_27 : decode cX5_simulate 27 = .ok (.getfield 19, 3) := by decide +kernel
theorem dX5_simulate_30 : decode cX5_simulate 30 = .ok (.invokevirtual 212, 3) := by decide +kernel
theorem dX5_simulate_33 : decode cX5_simulate 33 = .ok (.lload_n 1, 1) := by decide +kernel
theorem dX5_simulate_34 : decode cX5_simulate 34 = .ok (.lstore 4, 2) := by decide +kernel
theorem dX5_simulate_36 : decode cX5_simulate 36 = .ok (.iconst 0, 1) := by decide +kernel
theorem dX5_simulate_37 : decode cX5_simulate 37 = .ok (.istore 6, 2) := by decide +kernel
theorem dX5_simulate_39 : decode cX5_simulate 39 = .ok (.iconst 0, 1) := by decide +kernel
theorem dX5_simulate_40 : decode cX5_simulate 40 = .ok (.istore 7, 2) := by decide +kernel
theorem dX5_simulate_42 : decode cX5_simulate 42 = .ok (.iload 7, 2) := by decide +kernel
theorem dX5_simulate_44 : decode cX5_simulate 44 = .ok (.iload_n 3, 1) := by decide +kernel
theorem dX5_simulate_45 : decode cX5_simulate 45 = .ok (.if_icmp .ge 73, 3) := by decide +kernel
theorem dX5_simulate_48 : decode cX5_simulate 48 = .ok (.lload 4, 2) := by decide +kernel
theorem dX5_simulate_50 : decode cX5_simulate 50 = .ok (.ldc2_w 236, 3) := by decide +kernel
theorem dX5_simulate_53 : decode cX5_simulate 53 = .ok (.lmul, 1) := by decide +kernel
theorem dX5_simulate_54 : decode cX5_simulate 54 = .ok (.ldc2_w 238, 3) := by decide +kernel
theorem dX5_simulate_57 : decode cX5_simulate 57 = .ok (.ladd, 1) := by decide +kernel
theorem dX5_simulate_58 : decode cX5_simulate 58 = .ok (.lstore 4, 2) := by decide +kernel
theorem dX5_simulate_60 : decode cX5_simulate 60 = .ok (.lload 4, 2) := by decide +kernel
theorem dX5_simulate_62 : decode cX5_simulate 62 = .ok (.bipush 33, 2) := by decide +kernel
theorem dX5_simulate_64 : decode cX5_simulate 64 = .ok (.lushr, 1) := by decide +kernel
theorem dX5_simulate_65 : decode cX5_simulate 65 = .ok (.l2i, 1) := by decide +kernel
theorem dX5_simulate_66 : decode cX5_simulate 66 = .ok (.istore 8, 2) := by decide +kernel
theorem dX5_simulate_68 : decode cX5_simulate 68 = .ok (.iload 8, 2) := by decide +kernel
theorem dX5_simulate_70 : decode cX5_simulate 70 = .ok (.bipush 8, 2) := by decide +kernel
theorem dX5_simulate_72 : decode cX5_simulate 72 = .ok (.irem, 1) := by decide +kernel
theorem dX5_simulate_73 : decode cX5_simulate 73 = .ok (.istore 9, 2) := by decide +kernel
theorem dX5_simulate_75 : decode cX5_simulate 75 = .ok (.iload 8, 2) := by decide +kernel
theorem dX5_simulate_77 : decode cX5_simulate 77 = .ok (.bipush 8, 2) := by decide +kernel
theorem dX5_simulate_79 : decode cX5_simulate 79 = .ok (.idiv, 1) := by decide +kernel
theorem dX5_simulate_80 : decode cX5_simulate 80 = .ok (.bipush 8, 2) := by decide +kernel
theorem dX5_simulate_82 : decode cX5_simulate 82 = .ok (.irem, 1) := by decide +kernel
theorem dX5_simulate_83 : decode cX5_simulate 83 = .ok (.iload 9, 2) := by decide +kernel
theorem dX5_simulate_85 : decode cX5_simulate 85 = .ok (.if_icmp .lt 8, 3) := by decide +kernel
theorem dX5_simulate_88 : decode cX5_simulate 88 = .ok (.iload 6, 2) := by decide +kernel
theorem dX5_simulate_90 : decode cX5_simulate 90 = .ok (.ifCond .ne 7, 3) := by decide +kernel
theorem dX5_simulate_93 : decode cX5_simulate 93 = .ok (.iconst 1, 1) := by decide +kernel
theorem dX5_simulate_94 : decode cX5_simulate 94 = .ok (.goto 4, 3) := by decide +kernel
theorem dX5_simulate_97 : decode cX5_simulate 97 = .ok (.iconst 0, 1) := by decide +kernel
theorem dX5_simulate_98 : decode cX5_simulate 98 = .ok (.istore 6, 2) := by decide +kernel
theorem dX5_simulate_100 : decode cX5_simulate 100 = .ok (.aload_n 0, 1) := by decide +kernel
theorem dX5_simulate_101 : decode cX5_simulate 101 = .ok (.getfield 23, 3) := by decide +kernel
theorem dX5_simulate_104 : decode cX5_simulate 104 = .ok (.iload 9, 2) := by decide +kernel
theorem dX5_simulate_106 : decode cX5_simulate 106 = .ok (.iload 6, 2) := by decide +kernel
theorem dX5_simulate_108 : decode cX5_simulate 108 = .ok (.invokevirtual 189, 3) := by decide +kernel
theorem dX5_simulate_111 : decode cX5_simulate 111 = .ok (.pop, 1) := by decide +kernel
theorem dX5_simulate_112 : decode cX5_simulate 112 = .ok (.iinc 7 1, 3) := by decide +kernel
theorem dX5_simulate_115 : decode cX5_simulate 115 = .ok (.goto (-73), 3) := by decide +kernel
theorem dX5_simulate_118 : decode cX5_simulate 118 = .ok (.aload_n 0, 1) := by decide +kernel
theorem dX5_simulate_119 : decode cX5_simulate 119 = .ok (.getfield 23, 3) := by decide +kernel
theorem dX5_simulate_122 : decode cX5_simulate 122 = .ok (.invokevirtual 240, 3) := by decide +kernel
theorem dX5_simulate_125 : decode cX5_simulate 125 = .ok (.aload_n 0, 1) := by decide +kernel
theorem dX5_simulate_126 : decode cX5_simulate 126 = .ok (.getfield 19, 3) := by decide +kernel
theorem dX5_simulate_129 : decode cX5_simulate 129 = .ok (.invokevirtual 240, 3) := by decide +kernel
theorem dX5_simulate_132 : decode cX5_simulate 132 = .ok (.isub, 1) := by decide +kernel
theorem dX5_simulate_133 : decode cX5_simulate 133 = .ok (.istore 7, 2) := by decide +kernel
theorem dX5_simulate_135 : decode cX5_simulate 135 = .ok (.sipush 1000, 3) := by decide +kernel
theorem dX5_simulate_138 : decode cX5_simulate 138 = .ok (.aload_n 0, 1) := by decide +kernel
theorem dX5_simulate_139 : decode cX5_simulate 139 = .ok (.getfield 23, 3) := by decide +kernel
theorem dX5_simulate_142 : decode cX5_simulate 142 = .ok (.getfield 72, 3) := by decide +kernel
theorem dX5_simulate_145 : decode cX5_simulate 145 = .ok (.aload_n 0, 1) := by decide +kernel
theorem dX5_simulate_146 : decode cX5_simulate 146 = .ok (.getfield 19, 3) := by decide +kernel
theorem dX5_simulate_149 : decode cX5_simulate 149 = .ok (.getfield 72, 3) := by decide +kernel
theorem dX5_simulate_152 : decode cX5_simulate 152 = .ok (.isub, 1) := by decide +kernel
theorem dX5_simulate_153 : decode cX5_simulate 153 = .ok (.imul, 1) := by decide +kernel
theorem dX5_simulate_154 : decode cX5_simulate 154 = .ok (.iload 7, 2) := by decide +kernel
theorem dX5_simulate_156 : decode cX5_simulate 156 = .ok (.sipush 999, 3) := by decide +kernel
theorem dX5_simulate_159 : decode cX5_simulate 159 = .ok (.invokestatic 243, 3) := by decide +kernel
theorem dX5_simulate_162 : decode cX5_simulate 162 = .ok (.iadd, 1) := by decide +kernel
theorem dX5_simulate_163 : decode cX5_simulate 163 = .ok (.ireturn, 1) := by decide +kernel
set_option maxRecDepth 20000 in
theorem ggX5_save_X5_checkSlot : GoodIn wsX5_save wsX5_checkSlot := goodIn_ca (goodIn_r _ [8, 9, 10] (by decide +kernel) (by decide +kernel)) (goodIn_sub (fun _ h => List.mem_cons_of_mem _ (List.mem_append_right _ h)) (by decide +kernel))
set_option maxRecDepth 20000 in
theorem gX5_save_X5_checkSlot : GoodIn wsX5_save (va_wsS RX5 248 yX5_checkSlot wsX5_checkSlot) := goodIn_app (goodIn_of _ (by decide +kernel)) ggX5_save_X5_checkSlot
set_option maxRecDepth 20000 in
theorem ggX5_save_X3_copyFrom : GoodIn wsX5_save wsX3_copyFrom := goodIn_r _ [15, 16, 17, 18, 19, 20, 21, 22, 23, 24, 25, 26, 27, 28, 29, 30, 31, 32, 33, 34, 35, 36, 37, 38, 39, 40, 41, 42, 43, 44, 51, 52, 53, 54, 55, 56, 57, 58, 59, 60, 61, 62, 63, 64, 65, 66, 67, 68, 69] (by decide +kernel) (by decide +kernel)
set_option maxRecDepth 20000 in
theorem gX5_save_X3_copyFrom : GoodIn wsX5_save (wsV RX5 212 RX3 yX3_copyFrom wsX3_copyFrom) := goodIn_app (goodIn_of _ (by decide +kernel)) ggX5_save_X3_copyFrom
theorem dX5_save_0 : decode cX5_save 0 = .ok (.iload_n 1, 1) := by decide +kernel
theorem dX5_save_1 : decode cX5_save 1 = .ok (.invokestatic 248, 3) := by decide +kernel
theorem dX5_save_4 : decode cX5_save 4 = .ok (.aload_n 0, 1) := by decide +kernel
theorem dX5_save_5 : decode cX5_save 5 = .ok (.getfield 33, 3) := by decide +kernel
theorem dX5_save_8 : decode cX5_save 8 = .ok (.iload_n 1, 1) := by decide +kernel
theorem dX5_save_9 : decode cX5_save 9 = .ok (.aaload, 1) := by decide +kernel
theorem dX5_save_10 : decode cX5_save 10 = .ok (.aload_n 0, 1) := by decide +kernel
theorem dX5_save_11 : decode cX5_save 11 = .ok (.getfield 19, 3) := by decide +kernel
theorem dX5_save_14 : decode cX5_save 14 = .ok (.invokevirtual 212, 3) := by decide +kernel
theorem dX5_save_17 : decode cX5_save 17 = .ok (.aload_n 0, 1) := by decide +kernel
theorem dX5_save_18 : decode cX5_save 18 = .ok (.getfield 37, 3) := by decide +kernel
theorem dX5_save_21 : decode cX5_save 21 = .ok (.iload_n 1, 1) := by decide +kernel
theorem dX5_save_22 : decode cX5_save 22 = .ok (.iconst 1, 1) := by decide +kernel
theorem dX5_save_23 : decode cX5_save 23 = .ok (.bastore, 1) := by decide +kernel
theorem dX5_save_24 : decode cX5_save 24 = .ok (.aload_n 0, 1) := by decide +kernel
theorem dX5_save_25 : decode cX5_save 25 = .ok (.getfield 19, 3) := by decide +kernel
theorem dX5_save_28 : decode cX5_save 28 = .ok (.getfield 69, 3) := by decide +kernel
theorem dX5_save_31 : decode cX5_save 31 = .ok (.ireturn, 1) := by decide +kernel
set_option maxRecDepth 20000 in
theorem ggX5_restore_X5_checkSlot : GoodIn wsX5_restore wsX5_checkSlot := goodIn_ca (goodIn_r _ [12, 13, 14] (by decide +kernel) (by decide +kernel)) (goodIn_sub (fun _ h => List.mem_cons_of_mem _ (List.mem_append_right _ h)) (by decide +kernel))
set_option maxRecDepth 20000 in
theorem gX5_restore_X5_checkSlot : GoodIn wsX5_restore (va_wsS RX5 248 yX5_checkSlot wsX5_checkSlot) := goodIn_app (goodIn_of _ (by decide +kernel)) ggX5_restore_X5_checkSlot
set_option maxRecDepth 20000 in
theorem ggX5_restore_X3_copyFrom : GoodIn wsX5_restore wsX3_copyFrom := goodIn_r _ [19, 20, 21, 22, 23, 24, 25, 26, 27, 28, 29, 30, 31, 32, 33, 34, 35, 36, 37, 38, 39, 40, 41, 42, 43, 44, 45, 46, 47, 48, 58, 59, 60, 61, 62, 63, 64, 65, 66, 67, 68, 69, 70, 71, 72, 73, 74, 75, 76] (by decide +kernel) (by decide +kernel)
set_option maxRecDepth 20000 in
theorem gX5_restore_X3_copyFrom : GoodIn wsX5_restore (wsV RX5 212 RX3 yX3_copyFrom wsX3_copyFrom) := goodIn_app (goodIn_of _ (by decide +kernel)) ggX5_restore_X3_copyFrom
theorem dX5_restore_0 : decode cX5_restore 0 = .ok (.iload_n 1, 1) := by decide +kernel
theorem dX5_restore_1 : decode cX5_restore 1 = .ok (.invokestatic 248, 3) := by decide +kernel
theorem dX5_restore_4 : decode cX5_restore 4 = .ok (.aload_n 0, 1) := by decide +kernel
theorem dX5_restore_5 : decode cX5_restore 5 = .ok (.getfield 37, 3) := by decide +kernel
theorem dX5_restore_8 : decode cX5_restore 8 = .ok (.iload_n 1, 1) := by decide +kernel
theorem dX5_restore_9 : decode cX5_restore 9 = .ok (.baload, 1) := by decide +kernel
theorem dX5_restore_10 : decode cX5_restore 10 = .ok (.ifCond .ne 13, 3) := by decide +kernel
theorem dX5_restore_13 : decode cX5_restore 13 = .ok (.new 52, 3) := by decide +kernel
theorem dX5_restore_16 : decode cX5_restore 16 = .ok (.dup, 1) := by decide +kernel
theorem dX5_restore_17 : decode cX5_restore 17 = .ok (.ldc 251, 2) := by decide +kernel
theorem dX5_restore_19 : decode cX5_restore 19 = .ok (.invokespecial 56, 3) := by decide +kernel
theorem dX5_restore_22 : decode cX5_restore 22 = .ok (.athrow, 1) := by decide +kernel
theorem dX5_restore_23 : decode cX5_restore 23 = .ok (.aload_n 0, 1) := by decide +kernel
theorem dX5_restore_24 : decode cX5_restore 24 = .ok (.getfield 19, 3) := by decide +kernel
theorem dX5_restore_27 : decode cX5_restore 27 = .ok (.aload_n 0, 1) := by decide +kernel
theorem dX5_restore_28 : decode cX5_restore 28 = .ok (.getfield 33, 3) := by decide +kernel
theorem dX5_restore_31 : decode cX5_restore 31 = .ok (.iload_n 1, 1) := by decide +kernel
theorem dX5_restore_32 : decode cX5_restore 32 = .ok (.aaload, 1) := by decide +kernel
theorem dX5_restore_33 : decode cX5_restore 33 = .ok (.invokevirtual 212, 3) := by decide +kernel
theorem dX5_restore_36 : decode cX5_restore 36 = .ok (.aload_n 0, 1) := by decide +kernel
theorem dX5_restore_37 : decode cX5_restore 37 = .ok (.getfield 29, 3) := by decide +kernel
theorem dX5_restore_40 : decode cX5_restore 40 = .ok (.iconst 0, 1) := by decide +kernel
theorem dX5_restore_41 : decode cX5_restore 41 = .ok (.putfield 209, 3) := by decide +kernel
theorem dX5_restore_44 : decode cX5_restore 44 = .ok (.aload_n 0, 1) := by decide +kernel
theorem dX5_restore_45 : decode cX5_restore 45 = .ok (.getfield 19, 3) := by decide +kernel
theorem dX5_restore_48 : decode cX5_restore 48 = .ok (.getfield 69, 3) := by decide +kernel
theorem dX5_restore_51 : decode cX5_restore 51 = .ok (.ireturn, 1) := by decide +kernel
set_option maxRecDepth 20000 in
theorem ggX5_checkDesk_X5_isDesk : GoodIn wsX5_checkDesk wsX5_isDesk := goodIn_r _ [6] (by decide +kernel) (by decide +kernel)
set_option maxRecDepth 20000 in
theorem gX5_checkDesk_X5_isDesk : GoodIn wsX5_checkDesk (va_wsS RX5 262 yX5_isDesk wsX5_isDesk) := goodIn_app (goodIn_of _ (by decide +kernel)) ggX5_checkDesk_X5_isDesk
theorem dX5_checkDesk_0 : decode cX5_checkDesk 0 = .ok (.iload_n 0, 1) := by decide +kernel
theorem dX5_checkDesk_1 : decode cX5_checkDesk 1 = .ok (.invokestatic 262, 3) := by decide +kernel
theorem dX5_checkDesk_4 : decode cX5_checkDesk 4 = .ok (.ifCond .ne 14, 3) := by decide +kernel
theorem dX5_checkDesk_7 : decode cX5_checkDesk 7 = .ok (.new 265, 3) := by decide +kernel
theorem dX5_checkDesk_10 : decode cX5_checkDesk 10 = .ok (.dup, 1) := by decide +kernel
theorem dX5_checkDesk_11 : decode cX5_checkDesk 11 = .ok (.ldc_w 267, 3) := by decide +kernel
theorem dX5_checkDesk_14 : decode cX5_checkDesk 14 = .ok (.invokespecial 269, 3) := by decide +kernel
theorem dX5_checkDesk_17 : decode cX5_checkDesk 17 = .ok (.athrow, 1) := by decide +kernel
theorem dX5_checkDesk_18 : decode cX5_checkDesk 18 = .ok (.return_, 1) := by decide +kernel
set_option maxRecDepth 20000 in
theorem ggX5_checkPlace_X5_isPlace : GoodIn wsX5_checkPlace wsX5_isPlace := goodIn_r _ [6] (by decide +kernel) (by decide +kernel)
set_option maxRecDepth 20000 in
theorem gX5_checkPlace_X5_isPlace : GoodIn wsX5_checkPlace (va_wsS RX5 270 yX5_isPlace wsX5_isPlace) := goodIn_app (goodIn_of _ (by decide +kernel)) ggX5_checkPlace_X5_isPlace
theorem dX5_checkPlace_0 : decode cX5_checkPlace 0 = .ok (.iload_n 0, 1) := by decide +kernel
theorem dX5_checkPlace_1 : decode cX5_checkPlace 1 = .ok (.invokestatic 270, 3) := by decide +kernel
theorem dX5_checkPlace_4 : decode cX5_checkPlace 4 = .ok (.ifCond .ne 14, 3) := by decide +kernel
theorem dX5_checkPlace_7 : decode cX5_checkPlace 7 = .ok (.new 265, 3) := by decide +kernel
theorem dX5_checkPlace_10 : decode cX5_checkPlace 10 = .ok (.dup, 1) := by decide +kernel
theorem dX5_checkPlace_11 : decode cX5_checkPlace 11 = .ok (.ldc_w 273, 3) := by decide +kernel
theorem dX5_checkPlace_14 : decode cX5_checkPlace 14 = .ok (.invokespecial 269, 3) := by decide +kernel
theorem dX5_checkPlace_17 : decode cX5_checkPlace 17 = .ok (.athrow, 1) := by decide +kernel
theorem dX5_checkPlace_18 : decode cX5_checkPlace 18 = .ok (.return_, 1) := by decide +kernel
theorem dX5_checkSlot_0 : decode cX5_checkSlot 0 = .ok (.iload_n 0, 1) := by decide +kernel
theorem dX5_checkSlot_1 : decode cX5_checkSlot 1 = .ok (.ifCond .lt 8, 3) := by decide +kernel
theorem dX5_checkSlot_4 : decode cX5_checkSlot 4 = .ok (.iload_n 0, 1) := by decide +kernel
theorem dX5_checkSlot_5 : decode cX5_checkSlot 5 = .ok (.iconst 2, 1) := by decide +kernel
theorem dX5_checkSlot_6 : decode cX5_checkSlot 6 = .ok (.if_icmp .lt 14, 3) := by decide +kernel
theorem dX5_checkSlot_9 : decode cX5_checkSlot 9 = .ok (.new 265, 3) := by decide +kernel
theorem dX5_checkSlot_12 : decode cX5_checkSlot 12 = .ok (.dup, 1) := by decide +kernel
theorem dX5_checkSlot_13 : decode cX5_checkSlot 13 = .ok (.ldc_w 275, 3) := by decide +kernel
theorem dX5_checkSlot_16 : decode cX5_checkSlot 16 = .ok (.invokespecial 269, 3) := by decide +kernel
theorem dX5_checkSlot_19 : decode cX5_checkSlot 19 = .ok (.athrow, 1) := by decide +kernel
theorem dX5_checkSlot_20 : decode cX5_checkSlot 20 = .ok (.return_, 1) := by decide +kernel
set_option maxRecDepth 20000 in
theorem ggX5_checkNote_X3_isNote : GoodIn wsX5_checkNote wsX3_isNote := goodIn_r _ [8, 9, 16, 17, 18, 19, 20, 21, 22, 23, 24, 25, 26] (by decide +kernel) (by decide +kernel)
set_option maxRecDepth 20000 in
theorem gX5_checkNote_X3_isNote : GoodIn wsX5_checkNote (wsV RX5 277 RX3 yX3_isNote wsX3_isNote) := goodIn_app (goodIn_of _ (by decide +kernel)) ggX5_checkNote_X3_isNote
theorem dX5_checkNote_0 : decode cX5_checkNote 0 = .ok (.aload_n 0, 1) := by decide +kernel
theorem dX5_checkNote_1 : decode cX5_checkNote 1 = .ok (.getfield 19, 3) := by decide +kernel
theorem dX5_checkNote_4 : decode cX5_checkNote 4 = .ok (.iload_n 1, 1) := by decide +kernel
theorem dX5_checkNote_5 : decode cX5_checkNote 5 = .ok (.invokevirtual 277, 3) := by decide +kernel
theorem dX5_checkNote_8 : decode cX5_checkNote 8 = .ok (.ifCond .ne 14, 3) := by decide +kernel
theorem dX5_checkNote_11 : decode cX5_checkNote 11 = .ok (.new 265, 3) := by decide +kernel
theorem dX5_checkNote_14 : decode cX5_checkNote 14 = .ok (.dup, 1) := by decide +kernel
theorem dX5_checkNote_15 : decode cX5_checkNote 15 = .ok (.ldc_w 280, 3) := by decide +kernel
theorem dX5_checkNote_18 : decode cX5_checkNote 18 = .ok (.invokespecial 269, 3) := by decide +kernel
theorem dX5_checkNote_21 : decode cX5_checkNote 21 = .ok (.athrow, 1) := by decide +kernel
theorem dX5_checkNote_22 : decode cX5_checkNote 22 = .ok (.return_, 1) := by decide +kernel
set_option maxRecDepth 20000 in
theorem ggX5_bestSetting_X4_isPlayable : GoodIn wsX5_bestSetting wsX4_isPlayable := goodIn_r _ [11, 12, 13, 14, 15, 16, 10, 17, 18, 19, 20, 21, 22, 23, 24, 25, 26, 27, 28, 29, 30, 31, 32, 33, 34, 35, 36, 37, 38, 39, 40, 41, 42, 43, 44, 167, 168, 169, 170, 171, 172, 173, 174] (by decide +kernel) (by decide +kernel)
set_option maxRecDepth 20000 in
theorem gX5_bestSetting_X4_isPlayable : GoodIn wsX5_bestSetting (wsV RX5 193 RX4 yX4_isPlayable wsX4_isPlayable) := goodIn_app (goodIn_of _ (by decide +kernel)) ggX5_bestSetting_X4_isPlayable
set_option maxRecDepth 20000 in
theorem ggX5_bestSetting_X3_copyFrom : GoodIn wsX5_bestSetting wsX3_copyFrom := goodIn_r _ [49, 50, 51, 52, 53, 54, 55, 56, 57, 58, 59, 60, 61, 62, 63, 64, 65, 66, 67, 68, 69, 70, 71, 72, 73, 74, 75, 76, 77, 78, 156, 157, 158, 159, 160, 161, 162, 163, 164, 165, 166, 175, 176, 177, 178, 179, 180, 181, 182] (by decide +kernel) (by decide +kernel)
set_option maxRecDepth 20000 in
theorem gX5_bestSetting_X3_copyFrom : GoodIn wsX5_bestSetting (wsV RX5 212 RX3 yX3_copyFrom wsX3_copyFrom) := goodIn_app (goodIn_of _ (by decide +kernel)) ggX5_bestSetting_X3_copyFrom
set_option maxRecDepth 20000 in
theorem ggX5_bestSetting_X3_changeDesk : GoodIn wsX5_bestSetting wsX3_changeDesk := goodIn_r _ [82, 55, 83, 84, 85, 86, 48, 87, 50, 56, 57, 58, 59, 60, 61, 62, 63, 64, 88, 89, 90, 68, 91, 72, 73, 92, 74, 75, 76, 77, 78, 93, 94, 95, 96, 97, 156, 157, 158, 159, 160, 161, 162, 163, 164, 165, 166, 175, 176, 177, 178, 179, 180, 181, 182] (by decide +kernel) (by decide +kernel)
set_option maxRecDepth 20000 in
theorem gX5_bestSetting_X3_changeDesk : GoodIn wsX5_bestSetting (wsV RX5 168 RX3 yX3_changeDesk wsX3_changeDesk) := goodIn_app (goodIn_of _ (by decide +kernel)) ggX5_bestSetting_X3_changeDesk
set_option maxRecDepth 20000 in
theorem ggX5_bestSetting_X3_goAll : GoodIn wsX5_bestSetting wsX3_goAll := goodIn_r _ [101, 102, 103, 104, 105, 106, 48, 107, 56, 55, 50, 108, 109, 110, 111, 112, 113, 114, 115, 68, 116, 70, 117, 118, 119, 120, 76, 121, 122, 123, 124, 60, 57, 58, 61, 59, 62, 63, 64, 125, 126, 127, 128, 129, 130, 131, 132, 133, 134, 135, 136, 137, 138, 139, 140, 141, 142, 143, 74, 73, 77, 72, 75, 78, 144, 145, 146, 147, 148, 149, 167, 168, 169, 170, 171, 172, 173, 174, 156, 157, 158, 159, 160, 161, 162, 163, 164, 165, 166, 175, 176, 177, 178, 179, 180, 181, 182] (by decide +kernel) (by decide +kernel)
set_option maxRecDepth 20000 in
theorem gX5_bestSetting_X3_goAll : GoodIn wsX5_bestSetting (wsV RX5 199 RX3 yX3_goAll wsX3_goAll) := goodIn_app (goodIn_of _ (by decide +kernel)) ggX5_bestSetting_X3_goAll
theorem dX5_bestSetting_0 : decode cX5_bestSetting 0 = .ok (.aload_n 0, 1) := by decide +kernel
theorem dX5_bestSetting_1 : decode cX5_bestSetting 1 = .ok (.getfield 10, 3) := by decide +kernel
theorem dX5_bestSetting_4 : decode cX5_bestSetting 4 = .ok (.invokevirtual 193, 3) := by decide +kernel
theorem dX5_bestSetting_7 : decode cX5_bestSetting 7 = .ok (.ifCond .ne 6, 3) := by decide +kernel
theorem dX5_bestSetting_10 : decode cX5_bestSetting 10 = .ok (.ldc 65, 2) := by decide +kernel
theorem dX5_bestSetting_12 : decode cX5_bestSetting 12 = .ok (.ireturn, 1) := by decide +kernel
theorem dX5_bestSetting_13 : decode cX5_bestSetting 13 = .ok (.ldc 65, 2) := by decide +kernel
theorem dX5_bestSetting_15 : decode cX5_bestSetting 15 = .ok (.istore_n 3, 1) := by decide +kernel
theorem dX5_bestSetting_16 : decode cX5_bestSetting 16 = .ok (.iconst 0, 1) := by decide +kernel
theorem dX5_bestSetting_17 : decode cX5_bestSetting 17 = .ok (.istore 4, 2) := by decide +kernel
theorem dX5_bestSetting_19 : decode cX5_bestSetting 19 = .ok (.iconst 0, 1) := by decide +kernel
theorem dX5_bestSetting_20 : decode cX5_bestSetting 20 = .ok (.istore 5, 2) := by decide +kernel
theorem dX5_bestSetting_22 : decode cX5_bestSetting 22 = .ok (.iload 5, 2) := by decide +kernel
theorem dX5_bestSetting_24 : decode cX5_bestSetting 24 = .ok (.getstatic 253, 3) := by decide +kernel
theorem dX5_bestSetting_27 : decode cX5_bestSetting 27 = .ok (.iload_n 2, 1) := by decide +kernel
theorem dX5_bestSetting_28 : decode cX5_bestSetting 28 = .ok (.iaload, 1) := by decide +kernel
theorem dX5_bestSetting_29 : decode cX5_bestSetting 29 = .ok (.if_icmp .gt 71, 3) := by decide +kernel
theorem dX5_bestSetting_32 : decode cX5_bestSetting 32 = .ok (.aload_n 0, 1) := by decide +kernel
theorem dX5_bestSetting_33 : decode cX5_bestSetting 33 = .ok (.getfield 23, 3) := by decide +kernel
theorem dX5_bestSetting_36 : decode cX5_bestSetting 36 = .ok (.aload_n 0, 1) := by decide +kernel
theorem dX5_bestSetting_37 : decode cX5_bestSetting 37 = .ok (.getfield 19, 3) := by decide +kernel
theorem dX5_bestSetting_40 : decode cX5_bestSetting 40 = .ok (.invokevirtual 212, 3) := by decide +kernel
theorem dX5_bestSetting_43 : decode cX5_bestSetting 43 = .ok (.aload_n 0, 1) := by decide +kernel
theorem dX5_bestSetting_44 : decode cX5_bestSetting 44 = .ok (.getfield 23, 3) := by decide +kernel
theorem dX5_bestSetting_47 : decode cX5_bestSetting 47 = .ok (.iload_n 1, 1) := by decide +kernel
theorem dX5_bestSetting_48 : decode cX5_bestSetting 48 = .ok (.iload_n 2, 1) := by decide +kernel
theorem dX5_bestSetting_49 : decode cX5_bestSetting 49 = .ok (.iload 5, 2) := by decide +kernel
theorem dX5_bestSetting_51 : decode cX5_bestSetting 51 = .ok (.invokevirtual 168, 3) := by decide +kernel
theorem dX5_bestSetting_54 : decode cX5_bestSetting 54 = .ok (.aload_n 0, 1) := by decide +kernel
theorem dX5_bestSetting_55 : decode cX5_bestSetting 55 = .ok (.getfield 23, 3) := by decide +kernel
theorem dX5_bestSetting_58 : decode cX5_bestSetting 58 = .ok (.aload_n 0, 1) := by decide +kernel
theorem dX5_bestSetting_59 : decode cX5_bestSetting 59 = .ok (.getfield 10, 3) := by decide +kernel
theorem dX5_bestSetting_62 : decode cX5_bestSetting 62 = .ok (.invokevirtual 199, 3) := by decide +kernel
theorem dX5_bestSetting_65 : decode cX5_bestSetting 65 = .ok (.iload 5, 2) := by decide +kernel
theorem dX5_bestSetting_67 : decode cX5_bestSetting 67 = .ok (.ifCond .eq 15, 3) := by decide +kernel
theorem dX5_bestSetting_70 : decode cX5_bestSetting 70 = .ok (.aload_n 0, 1) := by decide +kernel
theorem dX5_bestSetting_71 : decode cX5_bestSetting 71 = .ok (.getfield 23, 3) := by decide +kernel
theorem dX5_bestSetting_74 : decode cX5_bestSetting 74 = .ok (.getfield 75, 3) := by decide +kernel
theorem dX5_bestSetting_77 : decode cX5_bestSetting 77 = .ok (.iload 4, 2) := by decide +kernel
theorem dX5_bestSetting_79 : decode cX5_bestSetting 79 = .ok (.if_icmp .le 15, 3) := by decide +kernel
theorem dX5_bestSetting_82 : decode cX5_bestSetting 82 = .ok (.aload_n 0, 1) := by decide +kernel
theorem dX5_bestSetting_83 : decode cX5_bestSetting 83 = .ok (.getfield 23, 3) := by decide +kernel
theorem dX5_bestSetting_86 : decode cX5_bestSetting 86 = .ok (.getfield 75, 3) := by decide +kernel
theorem dX5_bestSetting_89 : decode cX5_bestSetting 89 = .ok (.istore 4, 2) := by decide +kernel
theorem dX5_bestSetting_91 : decode cX5_bestSetting 91 = .ok (.iload 5, 2) := by decide +kernel
theorem dX5_bestSetting_93 : decode cX5_bestSetting 93 = .ok (.istore_n 3, 1) := by decide +kernel
theorem dX5_bestSetting_94 : decode cX5_bestSetting 94 = .ok (.iinc 5 1, 3) := by decide +kernel
theorem dX5_bestSetting_97 : decode cX5_bestSetting 97 = .ok (.goto (-75), 3) := by decide +kernel
theorem dX5_bestSetting_100 : decode cX5_bestSetting 100 = .ok (.iload_n 3, 1) := by decide +kernel
theorem dX5_bestSetting_101 : decode cX5_bestSetting 101 = .ok (.ireturn, 1) := by decide +kernel
theorem dX5_withoutLastGroups_0 : decode cX5_withoutLastGroups 0 = .ok (.lload_n 0, 1) := by decide +kernel
theorem dX5_withoutLastGroups_1 : decode cX5_withoutLastGroups 1 = .ok (.lstore_n 3, 1) := by decide +kernel
theorem dX5_withoutLastGroups_2 : decode cX5_withoutLastGroups 2 = .ok (.iconst 0, 1) := by decide +kernel
theorem dX5_withoutLastGroups_3 : decode cX5_withoutLastGroups 3 = .ok (.istore 5, 2) := by decide +kernel
theorem dX5_withoutLastGroups_5 : decode cX5_withoutLastGroups 5 = .ok (.iload 5, 2) := by decide +kernel
theorem dX5_withoutLastGroups_7 : decode cX5_withoutLastGroups 7 = .ok (.iload_n 2, 1) := by decide +kernel
theorem dX5_withoutLastGroups_8 : decode cX5_withoutLastGroups 8 = .ok (.if_icmp .ge 15, 3) := by decide +kernel
theorem dX5_withoutLastGroups_11 : decode cX5_withoutLastGroups 11 = .ok (.lload_n 3, 1) := by decide +kernel
theorem dX5_withoutLastGroups_12 : decode cX5_withoutLastGroups 12 = .ok (.ldc2_w 226, 3) := by decide +kernel
theorem dX5_withoutLastGroups_15 : decode cX5_withoutLastGroups 15 = .ok (.ldiv, 1) := by decide +kernel
theorem dX5_withoutLastGroups_16 : decode cX5_withoutLastGroups 16 = .ok (.lstore_n 3, 1) := by decide +kernel
theorem dX5_withoutLastGroups_17 : decode cX5_withoutLastGroups 17 = .ok (.iinc 5 1, 3) := by decide +kernel
theorem dX5_withoutLastGroups_20 : decode cX5_withoutLastGroups 20 = .ok (.goto (-15), 3) := by decide +kernel
theorem dX5_withoutLastGroups_23 : decode cX5_withoutLastGroups 23 = .ok (.lload_n 3, 1) := by decide +kernel
theorem dX5_withoutLastGroups_24 : decode cX5_withoutLastGroups 24 = .ok (.lreturn, 1) := by decide +kernel
theorem dX5_quotientBits_0 : decode cX5_quotientBits 0 = .ok (.iload_n 0, 1) := by decide +kernel
theorem dX5_quotientBits_1 : decode cX5_quotientBits 1 = .ok (.ifCond .le 7, 3) := by decide +kernel
theorem dX5_quotientBits_4 : decode cX5_quotientBits 4 = .ok (.iload_n 1, 1) := by decide +kernel
theorem dX5_quotientBits_5 : decode cX5_quotientBits 5 = .ok (.ifCond .gt 5, 3) := by decide +kernel
theorem dX5_quotientBits_8 : decode cX5_quotientBits 8 = .ok (.iconst 0, 1) := by decide +kernel
theorem dX5_quotientBits_9 : decode cX5_quotientBits 9 = .ok (.ireturn, 1) := by decide +kernel
theorem dX5_quotientBits_10 : decode cX5_quotientBits 10 = .ok (.iload_n 0, 1) := by decide +kernel
theorem dX5_quotientBits_11 : decode cX5_quotientBits 11 = .ok (.i2l, 1) := by decide +kernel
theorem dX5_quotientBits_12 : decode cX5_quotientBits 12 = .ok (.lstore_n 2, 1) := by decide +kernel
theorem dX5_quotientBits_13 : decode cX5_quotientBits 13 = .ok (.bipush 127, 2) := by decide +kernel
theorem dX5_quotientBits_15 : decode cX5_quotientBits 15 = .ok (.istore 4, 2) := by decide +kernel
theorem dX5_quotientBits_17 : decode cX5_quotientBits 17 = .ok (.iconst 0, 1) := by decide +kernel
theorem dX5_quotientBits_18 : decode cX5_quotientBits 18 = .ok (.istore 5, 2) := by decide +kernel
theorem dX5_quotientBits_20 : decode cX5_quotientBits 20 = .ok (.iload 5, 2) := by decide +kernel
theorem dX5_quotientBits_22 : decode cX5_quotientBits 22 = .ok (.bipush 32, 2) := by decide +kernel
theorem dX5_quotientBits_24 : decode cX5_quotientBits 24 = .ok (.if_icmp .ge 25, 3) := by decide +kernel
theorem dX5_quotientBits_27 : decode cX5_quotientBits 27 = .ok (.lload_n 2, 1) := by decide +kernel
theorem dX5_quotientBits_28 : decode cX5_quotientBits 28 = .ok (.iload_n 1, 1) := by decide +kernel
theorem dX5_quotientBits_29 : decode cX5_quotientBits 29 = .ok (.i2l, 1) := by decide +kernel
theorem dX5_quotientBits_30 : decode cX5_quotientBits 30 = .ok (.lcmp, 1) := by decide +kernel
theorem dX5_quotientBits_31 : decode cX5_quotientBits 31 = .ok (.ifCond .ge 18, 3) := by decide +kernel
theorem dX5_quotientBits_34 : decode cX5_quotientBits 34 = .ok (.lload_n 2, 1) := by decide +kernel
theorem dX5_quotientBits_35 : decode cX5_quotientBits 35 = .ok (.ldc2_w 282, 3) := by decide +kernel
theorem dX5_quotientBits_38 : decode cX5_quotientBits 38 = .ok (.lmul, 1) := by decide +kernel
theorem dX5_quotientBits_39 : decode cX5_quotientBits 39 = .ok (.lstore_n 2, 1) := by decide +kernel
theorem dX5_quotientBits_40 : decode cX5_quotientBits 40 = .ok (.iinc 4 (-1), 3) := by decide +kernel
theorem dX5_quotientBits_43 : decode cX5_quotientBits 43 = .ok (.iinc 5 1, 3) := by decide +kernel
theorem dX5_quotientBits_46 : decode cX5_quotientBits 46 = .ok (.goto (-26), 3) := by decide +kernel
theorem dX5_quotientBits_49 : decode cX5_quotientBits 49 = .ok (.lload_n 2, 1) := by decide +kernel
theorem dX5_quotientBits_50 : decode cX5_quotientBits 50 = .ok (.bipush 24, 2) := by decide +kernel
theorem dX5_quotientBits_52 : decode cX5_quotientBits 52 = .ok (.lshl, 1) := by decide +kernel
theorem dX5_quotientBits_53 : decode cX5_quotientBits 53 = .ok (.iload_n 1, 1) := by decide +kernel
theorem dX5_quotientBits_54 : decode cX5_quotientBits 54 = .ok (.i2l, 1) := by decide +kernel
theorem dX5_quotientBits_55 : decode cX5_quotientBits 55 = .ok (.ladd, 1) := by decide +kernel
theorem dX5_quotientBits_56 : decode cX5_quotientBits 56 = .ok (.ldc2_w 282, 3) := by decide +kernel
theorem dX5_quotientBits_59 : decode cX5_quotientBits 59 = .ok (.iload_n 1, 1) := by decide +kernel
theorem dX5_quotientBits_60 : decode cX5_quotientBits 60 = .ok (.i2l, 1) := by decide +kernel
theorem dX5_quotientBits_61 : decode cX5_quotientBits 61 = .ok (.lmul, 1) := by decide +kernel
theorem dX5_quotientBits_62 : decode cX5_quotientBits 62 = .ok (.ldiv, 1) := by decide +kernel
theorem dX5_quotientBits_63 : decode cX5_quotientBits 63 = .ok (.lstore 5, 2) := by decide +kernel
theorem dX5_quotientBits_65 : decode cX5_quotientBits 65 = .ok (.lload 5, 2) := by decide +kernel
theorem dX5_quotientBits_67 : decode cX5_quotientBits 67 = .ok (.iload 4, 2) := by decide +kernel
theorem dX5_quotientBits_69 : decode cX5_quotientBits 69 = .ok (.iconst 1, 1) := by decide +kernel
theorem dX5_quotientBits_70 : decode cX5_quotientBits 70 = .ok (.isub, 1) := by decide +kernel
theorem dX5_quotientBits_71 : decode cX5_quotientBits 71 = .ok (.i2l, 1) := by decide +kernel
theorem dX5_quotientBits_72 : decode cX5_quotientBits 72 = .ok (.bipush 23, 2) := by decide +kernel
theorem dX5_quotientBits_74 : decode cX5_quotientBits 74 = .ok (.lshl, 1) := by decide +kernel
theorem dX5_quotientBits_75 : decode cX5_quotientBits 75 = .ok (.ladd, 1) := by decide +kernel
theorem dX5_quotientBits_76 : decode cX5_quotientBits 76 = .ok (.l2i, 1) := by decide +kernel
theorem dX5_quotientBits_77 : decode cX5_quotientBits 77 = .ok (.ireturn, 1) := by decide +kernel
theorem dJ9_max_7cf53_0 : decode cJ9_max_7cf53 0 = .ok (.iload_n 0, 1) := by decide +kernel
theorem dJ9_max_7cf53_1 : decode cJ9_max_7cf53 1 = .ok (.iload_n 1, 1) := by decide +kernel
theorem dJ9_max_7cf53_2 : decode cJ9_max_7cf53 2 = .ok (.if_icmp .lt 7, 3) := by decide +kernel
theorem dJ9_max_7cf53_5 : decode cJ9_max_7cf53 5 = .ok (.iload_n 0, 1) := by decide +kernel
theorem dJ9_max_7cf53_6 : decode cJ9_max_7cf53 6 = .ok (.goto 4, 3) := by decide +kernel
theorem dJ9_max_7cf53_9 : decode cJ9_max_7cf53 9 = .ok (.iload_n 1, 1) := by decide +kernel
theorem dJ9_max_7cf53_10 : decode cJ9_max_7cf53 10 = .ok (.ireturn, 1) := by decide +kernel
theorem dJ9_min_7cf53_0 : decode cJ9_min_7cf53 0 = .ok (.iload_n 0, 1) := by decide +kernel
theorem dJ9_min_7cf53_1 : decode cJ9_min_7cf53 1 = .ok (.iload_n 1, 1) := by decide +kernel
theorem dJ9_min_7cf53_2 : decode cJ9_min_7cf53 2 = .ok (.if_icmp .gt 7, 3) := by decide +kernel
theorem dJ9_min_7cf53_5 : decode cJ9_min_7cf53 5 = .ok (.iload_n 0, 1) := by decide +kernel
theorem dJ9_min_7cf53_6 : decode cJ9_min_7cf53 6 = .ok (.goto 4, 3) := by decide +kernel
theorem dJ9_min_7cf53_9 : decode cJ9_min_7cf53 9 = .ok (.iload_n 1, 1) := by decide +kernel
theorem dJ9_min_7cf53_10 : decode cJ9_min_7cf53 10 = .ok (.ireturn, 1) := by decide +kernel
set_option maxRecDepth 20000 in
theorem ggL_tryScript_X5_runScript : GoodIn wsL_tryScript wsX5_runScript := goodIn_ca (goodIn_r _ [7, 8, 9, 10, 11, 12, 13, 14, 15, 6, 16, 17, 18, 19, 20, 21, 22, 23, 24, 25, 26, 27, 28, 29, 30, 31, 32, 33, 34, 35, 36, 37, 38, 39, 40, 41, 42, 43, 44, 45, 46, 47, 48, 49, 50, 51, 52, 53, 54, 55, 56, 57, 58, 59, 60, 61, 62, 63, 64, 65, 66, 67, 68, 69, 70, 71, 72, 73, 74, 75, 76, 77, 78, 79, 80, 81, 82, 83, 84, 85, 86, 87, 88, 89, 90, 91, 92, 93, 94, 95, 96, 97, 98, 99, 100, 101, 102, 103, 104, 105, 106, 107, 108, 109, 110, 111, 112, 113, 114, 115, 116, 117, 118, 119, 120, 121, 122, 123, 124, 125, 126, 127, 128, 129, 130, 131, 132, 133, 134, 135, 136, 137, 138, 139, 140, 141, 142, 143, 144, 145, 146, 147, 148, 149, 150, 151, 152, 153, 154, 155, 156, 157, 158, 159, 160, 161, 162, 163, 164, 165, 166, 167, 168, 169, 170, 171, 172, 173, 174, 175, 176, 177, 178, 179, 180, 181, 182, 183, 184, 185, 186, 187, 188, 189, 190, 191, 192, 193, 194] (by decide +kernel) (by decide +kernel)) (goodIn_sub (fun _ h => List.mem_cons_of_mem _ (List.mem_append_right _ h)) (by decide +kernel))
set_option maxRecDepth 20000 in
theorem gL_tryScript_X5_runScript : GoodIn wsL_tryScript (wsV RL 7 RX5 yX5_runScript wsX5_runScript) := goodIn_app (goodIn_of _ (by decide +kernel)) ggL_tryScript_X5_runScript
theorem dL_tryScript_0 : decode cL_tryScript 0 = .ok (.aload_n 0, 1) := by decide +kernel
theorem dL_tryScript_1 : decode cL_tryScript 1 = .ok (.iload_n 1, 1) := by decide +kernel
theorem dL_tryScript_2 : decode cL_tryScript 2 = .ok (.lload_n 2, 1) := by decide +kernel
theorem dL_tryScript_3 : decode cL_tryScript 3 = .ok (.invokevirtual 7, 3) := by decide +kernel
theorem dL_tryScript_6 : decode cL_tryScript 6 = .ok (.ireturn, 1) := by decide +kernel
theorem dL_tryScript_7 : decode cL_tryScript 7 = .ok (.astore 4, 2) := by decide +kernel
theorem dL_tryScript_9 : decode cL_tryScript 9 = .ok (.ldc 15, 2) := by decide +kernel
theorem dL_tryScript_11 : decode cL_tryScript 11 = .ok (.ireturn, 1) := by decide +kernel
set_option maxRecDepth 20000 in
theorem ggL_trySimulate_X5_simulate : GoodIn wsL_trySimulate wsX5_simulate := goodIn_ca (goodIn_r _ [7, 8, 9, 10, 11, 12, 13, 14, 15, 16, 17, 18, 19, 20, 21, 22, 23, 24, 25, 26, 27, 28, 29, 30, 31, 32, 33, 34, 35, 36, 37, 38, 39, 40, 41, 42, 43, 44, 45, 46, 47, 48, 49, 50, 51, 52, 53, 54, 55, 56, 57, 58, 59, 60, 61, 62, 63, 64, 65, 66, 67, 68, 69, 70, 71, 72, 73, 74, 75, 76, 77, 78, 79, 80, 81, 82, 83, 84, 85, 86, 87, 88, 89, 90, 91, 92, 93, 94, 95, 96, 97, 98, 99, 100, 101, 102, 103, 104, 105, 106, 107, 108, 109, 110, 111, 112, 113, 114, 115, 116, 117, 118, 119, 120, 121, 122, 123, 124, 125] (by decide +kernel) (by decide +kernel)) (goodIn_sub (fun _ h => List.mem_cons_of_mem _ (List.mem_append_right _ h)) (by decide +kernel))
set_option maxRecDepth 20000 in
theorem gL_trySimulate_X5_simulate : GoodIn wsL_trySimulate (wsV RL 16 RX5 yX5_simulate wsX5_simulate) := goodIn_app (goodIn_of _ (by decide +kernel)) ggL_trySimulate_X5_simulate
theorem dL_trySimulate_0 : decode cL_trySimulate 0 = .ok (.aload_n 0, 1) := by decide +kernel
theorem dL_trySimulate_1 : decode cL_trySimulate 1 = .ok (.lload_n 1, 1) := by decide +kernel
theorem dL_trySimulate_2 : decode cL_trySimulate 2 = .ok (.iload_n 3, 1) := by decide +kernel
theorem dL_trySimulate_3 : decode cL_trySimulate 3 = .ok (.invokevirtual 16, 3) := by decide +kernel
theorem dL_trySimulate_6 : decode cL_trySimulate 6 = .ok (.ireturn, 1) := by decide +kernel
theorem dL_trySimulate_7 : decode cL_trySimulate 7 = .ok (.astore 4, 2) := by decide +kernel
theorem dL_trySimulate_9 : decode cL_trySimulate 9 = .ok (.ldc 15, 2) := by decide +kernel
theorem dL_trySimulate_11 : decode cL_trySimulate 11 = .ok (.ireturn, 1) := by decide +kernel
set_option maxRecDepth 20000 in
theorem ggL_tryGo_X5_branch : GoodIn wsL_tryGo wsX5_branch := goodIn_ca (goodIn_r _ [7, 8, 9, 10, 11, 6, 12, 13, 14, 15, 16, 17, 18, 19, 20, 21, 22, 23, 24, 25, 26, 27, 28, 29, 30, 31, 32, 33, 34, 35, 36, 37, 38, 39, 40, 41, 42, 43, 44, 45, 46, 47, 48, 49, 50, 51, 52, 53, 54, 55, 56, 57, 58, 59, 60, 61, 62, 63, 64, 65, 66, 67, 68, 69, 70, 71, 72, 73, 74, 75, 76, 77, 78, 79, 80, 81, 82, 83, 84, 85, 86, 87, 88, 89, 90, 91, 92, 93, 94, 95, 96, 97, 98, 99, 100, 101, 102, 103, 104, 105, 106, 107, 108, 109, 110, 111, 112, 113, 114, 115, 116, 117, 118, 119, 120, 121, 122, 123, 124, 125, 126, 127, 128, 129, 130, 131, 132, 133] (by decide +kernel) (by decide +kernel)) (goodIn_sub (fun _ h => List.mem_cons_of_mem _ (List.mem_append_right _ h)) (by decide +kernel))
set_option maxRecDepth 20000 in
theorem gL_tryGo_X5_branch : GoodIn wsL_tryGo (wsV RL 20 RX5 yX5_branch wsX5_branch) := goodIn_app (goodIn_of _ (by decide +kernel)) ggL_tryGo_X5_branch
theorem dL_tryGo_0 : decode cL_tryGo 0 = .ok (.aload_n 0, 1) := by decide +kernel
theorem dL_tryGo_1 : decode cL_tryGo 1 = .ok (.iload_n 1, 1) := by decide +kernel
theorem dL_tryGo_2 : decode cL_tryGo 2 = .ok (.iload_n 2, 1) := by decide +kernel
theorem dL_tryGo_3 : decode cL_tryGo 3 = .ok (.invokevirtual 20, 3) := by decide +kernel
theorem dL_tryGo_6 : decode cL_tryGo 6 = .ok (.ifCond .eq 7, 3) := by decide +kernel
theorem dL_tryGo_9 : decode cL_tryGo 9 = .ok (.iconst 1, 1) := by decide +kernel
theorem dL_tryGo_10 : decode cL_tryGo 10 = .ok (.goto 4, 3) := by decide +kernel
theorem dL_tryGo_13 : decode cL_tryGo 13 = .ok (.iconst 0, 1) := by decide +kernel
theorem dL_tryGo_14 : decode cL_tryGo 14 = .ok (.ireturn, 1) := by decide +kernel
theorem dL_tryGo_15 : decode cL_tryGo 15 = .ok (.astore_n 3, 1) := by decide +kernel
theorem dL_tryGo_16 : decode cL_tryGo 16 = .ok (.ldc 26, 2) := by decide +kernel
theorem dL_tryGo_18 : decode cL_tryGo 18 = .ok (.ireturn, 1) := by decide +kernel
set_option maxRecDepth 20000 in
theorem ggL_tryAppend_X5_append : GoodIn wsL_tryAppend wsX5_append := goodIn_ca (goodIn_ca (goodIn_r _ [9, 10, 11, 12, 13, 14, 15, 16, 17, 18, 19, 20, 21, 22, 23, 24, 25, 26, 27, 28, 29, 30, 31, 32, 33, 34, 35, 36] (by decide +kernel) (by decide +kernel)) (goodIn_sub (fun _ h => List.mem_cons_of_mem _ (List.mem_append_left _ (List.mem_append_right _ h))) (by decide +kernel))) (goodIn_sub (fun _ h => List.mem_cons_of_mem _ (List.mem_append_right _ h)) (by decide +kernel))
set_option maxRecDepth 20000 in
theorem gL_tryAppend_X5_append : GoodIn wsL_tryAppend (wsV RL 27 RX5 yX5_append wsX5_append) := goodIn_app (goodIn_of _ (by decide +kernel)) ggL_tryAppend_X5_append
theorem dL_tryAppend_0 : decode cL_tryAppend 0 = .ok (.aload_n 0, 1) := by decide +kernel
theorem dL_tryAppend_1 : decode cL_tryAppend 1 = .ok (.iload_n 1, 1) := by decide +kernel
theorem dL_tryAppend_2 : decode cL_tryAppend 2 = .ok (.invokevirtual 27, 3) := by decide +kernel
theorem dL_tryAppend_5 : decode cL_tryAppend 5 = .ok (.ireturn, 1) := by decide +kernel
theorem dL_tryAppend_6 : decode cL_tryAppend 6 = .ok (.astore_n 2, 1) := by decide +kernel
theorem dL_tryAppend_7 : decode cL_tryAppend 7 = .ok (.ldc 15, 2) := by decide +kernel
theorem dL_tryAppend_9 : decode cL_tryAppend 9 = .ok (.ireturn, 1) := by decide +kernel
theorem dL_tryAppend_10 : decode cL_tryAppend 10 = .ok (.astore_n 2, 1) := by decide +kernel
theorem dL_tryAppend_11 : decode cL_tryAppend 11 = .ok (.ldc 33, 2) := by decide +kernel
theorem dL_tryAppend_13 : decode cL_tryAppend 13 = .ok (.ireturn, 1) := by decide +kernel
set_option maxRecDepth 20000 in
theorem ggL_tryAbout_X5_about : GoodIn wsL_tryAbout wsX5_about := goodIn_ca (goodIn_r _ [7, 8, 9, 10, 11, 12, 13, 14, 15, 16, 17, 18, 19, 20, 21, 22, 23, 24, 25, 26, 27, 28, 29, 30, 31, 32, 33, 34, 35, 36, 37, 38, 39, 40, 41, 42, 43] (by decide +kernel) (by decide +kernel)) (goodIn_sub (fun _ h => List.mem_cons_of_mem _ (List.mem_append_right _ h)) (by decide +kernel))
set_option maxRecDepth 20000 in
theorem gL_tryAbout_X5_about : GoodIn wsL_tryAbout (wsV RL 34 RX5 yX5_about wsX5_about) := goodIn_app (goodIn_of _ (by decide +kernel)) ggL_tryAbout_X5_about
theorem dL_tryAbout_0 : decode cL_tryAbout 0 = .ok (.aload_n 0, 1) := by decide +kernel
theorem dL_tryAbout_1 : decode cL_tryAbout 1 = .ok (.iload_n 1, 1) := by decide +kernel
theorem dL_tryAbout_2 : decode cL_tryAbout 2 = .ok (.invokevirtual 34, 3) := by decide +kernel
theorem dL_tryAbout_5 : decode cL_tryAbout 5 = .ok (.ireturn, 1) := by decide +kernel
theorem dL_tryAbout_6 : decode cL_tryAbout 6 = .ok (.astore_n 2, 1) := by decide +kernel
theorem dL_tryAbout_7 : decode cL_tryAbout 7 = .ok (.ldc 15, 2) := by decide +kernel
theorem dL_tryAbout_9 : decode cL_tryAbout 9 = .ok (.ireturn, 1) := by decide +kernel
set_option maxRecDepth 20000 in
theorem ggL_tryDesk_X5_desk : GoodIn wsL_tryDesk wsX5_desk := goodIn_ca (goodIn_ca (goodIn_r _ [9, 10, 11, 12, 13, 14, 15, 16, 17, 8, 18, 19, 20, 21, 22, 23, 24, 25, 26, 27, 28, 29, 30, 31, 32, 33, 34, 35, 36, 37, 38, 39, 40, 41, 42, 43, 44, 45, 46, 47, 48, 49, 50, 51, 52, 53, 54] (by decide +kernel) (by decide +kernel)) (goodIn_sub (fun _ h => List.mem_cons_of_mem _ (List.mem_append_left _ (List.mem_append_right _ h))) (by decide +kernel))) (goodIn_sub (fun _ h => List.mem_cons_of_mem _ (List.mem_append_right _ h)) (by decide +kernel))
set_option maxRecDepth 20000 in
theorem gL_tryDesk_X5_desk : GoodIn wsL_tryDesk (wsV RL 37 RX5 yX5_desk wsX5_desk) := goodIn_app (goodIn_of _ (by decide +kernel)) ggL_tryDesk_X5_desk
theorem dL_tryDesk_0 : decode cL_tryDesk 0 = .ok (.aload_n 0, 1) := by decide +kernel
theorem dL_tryDesk_1 : decode cL_tryDesk 1 = .ok (.iload_n 1, 1) := by decide +kernel
theorem dL_tryDesk_2 : decode cL_tryDesk 2 = .ok (.iload_n 2, 1) := by decide +kernel
theorem dL_tryDesk_3 : decode cL_tryDesk 3 = .ok (.invokevirtual 37, 3) := by decide +kernel
theorem dL_tryDesk_6 : decode cL_tryDesk 6 = .ok (.ireturn, 1) := by decide +kernel
theorem dL_tryDesk_7 : decode cL_tryDesk 7 = .ok (.astore_n 3, 1) := by decide +kernel
theorem dL_tryDesk_8 : decode cL_tryDesk 8 = .ok (.ldc 26, 2) := by decide +kernel
theorem dL_tryDesk_10 : decode cL_tryDesk 10 = .ok (.ireturn, 1) := by decide +kernel
theorem dL_tryDesk_11 : decode cL_tryDesk 11 = .ok (.astore_n 3, 1) := by decide +kernel
theorem dL_tryDesk_12 : decode cL_tryDesk 12 = .ok (.ldc 15, 2) := by decide +kernel
theorem dL_tryDesk_14 : decode cL_tryDesk 14 = .ok (.ireturn, 1) := by decide +kernel
set_option maxRecDepth 20000 in
theorem ggL_tryNote_X5_note : GoodIn wsL_tryNote wsX5_note := goodIn_ca (goodIn_ca (goodIn_r _ [9, 10, 11, 12, 13, 14, 15, 16, 17, 18, 19, 8, 20, 21, 22, 23, 24, 25, 26, 27, 28, 29, 30, 31, 32, 33, 34, 35, 36, 37, 38, 39, 40, 41, 42, 43, 44, 45, 46, 47, 48, 49, 50, 51, 52, 53, 54, 55, 56, 57, 58, 59, 60] (by decide +kernel) (by decide +kernel)) (goodIn_sub (fun _ h => List.mem_cons_of_mem _ (List.mem_append_left _ (List.mem_append_right _ h))) (by decide +kernel))) (goodIn_sub (fun _ h => List.mem_cons_of_mem _ (List.mem_append_right _ h)) (by decide +kernel))
set_option maxRecDepth 20000 in
theorem gL_tryNote_X5_note : GoodIn wsL_tryNote (wsV RL 41 RX5 yX5_note wsX5_note) := goodIn_app (goodIn_of _ (by decide +kernel)) ggL_tryNote_X5_note
theorem dL_tryNote_0 : decode cL_tryNote 0 = .ok (.aload_n 0, 1) := by decide +kernel
theorem dL_tryNote_1 : decode cL_tryNote 1 = .ok (.iload_n 1, 1) := by decide +kernel
theorem dL_tryNote_2 : decode cL_tryNote 2 = .ok (.iload_n 2, 1) := by decide +kernel
theorem dL_tryNote_3 : decode cL_tryNote 3 = .ok (.iload_n 3, 1) := by decide +kernel
theorem dL_tryNote_4 : decode cL_tryNote 4 = .ok (.invokevirtual 41, 3) := by decide +kernel
theorem dL_tryNote_7 : decode cL_tryNote 7 = .ok (.ireturn, 1) := by decide +kernel
theorem dL_tryNote_8 : decode cL_tryNote 8 = .ok (.astore 4, 2) := by decide +kernel
theorem dL_tryNote_10 : decode cL_tryNote 10 = .ok (.ldc 26, 2) := by decide +kernel
theorem dL_tryNote_12 : decode cL_tryNote 12 = .ok (.ireturn, 1) := by decide +kernel
theorem dL_tryNote_13 : decode cL_tryNote 13 = .ok (.astore 4, 2) := by decide +kernel
theorem dL_tryNote_15 : decode cL_tryNote 15 = .ok (.ldc 15, 2) := by decide +kernel
theorem dL_tryNote_17 : decode cL_tryNote 17 = .ok (.ireturn, 1) := by decide +kernel
set_option maxRecDepth 20000 in
theorem ggL_tryPlace_X5_place : GoodIn wsL_tryPlace wsX5_place := goodIn_ca (goodIn_ca (goodIn_r _ [9, 10, 11, 12, 13, 14, 15, 16, 17, 18, 8, 19, 20, 21, 22, 23, 24, 25, 26, 27, 28, 29, 30, 31, 32, 33, 34, 35, 36, 37, 38, 39, 40, 41, 42, 43, 44, 45, 46, 47, 48, 49, 50, 51, 52, 53, 54, 55, 56, 57, 58, 59, 60, 61, 62, 63, 64, 65, 66, 67, 68, 69, 70, 71, 72, 73] (by decide +kernel) (by decide +kernel)) (goodIn_sub (fun _ h => List.mem_cons_of_mem _ (List.mem_append_left _ (List.mem_append_right _ h))) (by decide +kernel))) (goodIn_sub (fun _ h => List.mem_cons_of_mem _ (List.mem_append_right _ h)) (by decide +kernel))
set_option maxRecDepth 20000 in
theorem gL_tryPlace_X5_place : GoodIn wsL_tryPlace (wsV RL 45 RX5 yX5_place wsX5_place) := goodIn_app (goodIn_of _ (by decide +kernel)) ggL_tryPlace_X5_place
theorem dL_tryPlace_0 : decode cL_tryPlace 0 = .ok (.aload_n 0, 1) := by decide +kernel
theorem dL_tryPlace_1 : decode cL_tryPlace 1 = .ok (.iload_n 1, 1) := by decide +kernel
theorem dL_tryPlace_2 : decode cL_tryPlace 2 = .ok (.iload_n 2, 1) := by decide +kernel
theorem dL_tryPlace_3 : decode cL_tryPlace 3 = .ok (.invokevirtual 45, 3) := by decide +kernel
theorem dL_tryPlace_6 : decode cL_tryPlace 6 = .ok (.ireturn, 1) := by decide +kernel
theorem dL_tryPlace_7 : decode cL_tryPlace 7 = .ok (.astore_n 3, 1) := by decide +kernel
theorem dL_tryPlace_8 : decode cL_tryPlace 8 = .ok (.ldc 26, 2) := by decide +kernel
theorem dL_tryPlace_10 : decode cL_tryPlace 10 = .ok (.ireturn, 1) := by decide +kernel
theorem dL_tryPlace_11 : decode cL_tryPlace 11 = .ok (.astore_n 3, 1) := by decide +kernel
theorem dL_tryPlace_12 : decode cL_tryPlace 12 = .ok (.ldc 15, 2) := by decide +kernel
theorem dL_tryPlace_14 : decode cL_tryPlace 14 = .ok (.ireturn, 1) := by decide +kernel
set_option maxRecDepth 20000 in
theorem ggL_tryPath_X5_path : GoodIn wsL_tryPath wsX5_path := goodIn_ca (goodIn_r _ [7, 8, 9, 10, 11, 6, 12, 13, 14, 15, 16, 17, 18, 19, 20, 21, 22, 23, 24, 25, 26, 27, 28, 29, 30, 31, 32, 33, 34, 35, 36, 37, 38, 39, 40, 41, 42, 43, 44, 45, 46, 47, 48, 49, 50, 51, 52, 53, 54, 55] (by decide +kernel) (by decide +kernel)) (goodIn_sub (fun _ h => List.mem_cons_of_mem _ (List.mem_append_right _ h)) (by decide +kernel))
set_option maxRecDepth 20000 in
theorem gL_tryPath_X5_path : GoodIn wsL_tryPath (wsV RL 48 RX5 yX5_path wsX5_path) := goodIn_app (goodIn_of _ (by decide +kernel)) ggL_tryPath_X5_path
theorem dL_tryPath_0 : decode cL_tryPath 0 = .ok (.aload_n 0, 1) := by decide +kernel
theorem dL_tryPath_1 : decode cL_tryPath 1 = .ok (.iload_n 1, 1) := by decide +kernel
theorem dL_tryPath_2 : decode cL_tryPath 2 = .ok (.iload_n 2, 1) := by decide +kernel
theorem dL_tryPath_3 : decode cL_tryPath 3 = .ok (.invokevirtual 48, 3) := by decide +kernel
theorem dL_tryPath_6 : decode cL_tryPath 6 = .ok (.ireturn, 1) := by decide +kernel
theorem dL_tryPath_7 : decode cL_tryPath 7 = .ok (.astore_n 3, 1) := by decide +kernel
theorem dL_tryPath_8 : decode cL_tryPath 8 = .ok (.ldc 26, 2) := by decide +kernel
theorem dL_tryPath_10 : decode cL_tryPath 10 = .ok (.ireturn, 1) := by decide +kernel
set_option maxRecDepth 20000 in
theorem ggL_tryNumber_X5_noteOf : GoodIn wsL_tryNumber wsX5_noteOf := goodIn_ca (goodIn_r _ [7, 8, 9, 10, 6, 11, 12, 13, 14, 15, 16, 17, 18, 19, 20, 21, 22, 23, 24, 25, 26, 27, 28, 29, 30, 31, 32, 33, 34, 35, 36, 37, 38, 39, 40, 41, 42, 43, 44, 45, 46, 47, 48, 49, 50, 51, 52, 53, 54, 55, 56, 57, 58, 59, 60, 61, 62, 63, 64, 65] (by decide +kernel) (by decide +kernel)) (goodIn_sub (fun _ h => List.mem_cons_of_mem _ (List.mem_append_right _ h)) (by decide +kernel))
set_option maxRecDepth 20000 in
theorem gL_tryNumber_X5_noteOf : GoodIn wsL_tryNumber (wsV RL 51 RX5 yX5_noteOf wsX5_noteOf) := goodIn_app (goodIn_of _ (by decide +kernel)) ggL_tryNumber_X5_noteOf
theorem dL_tryNumber_0 : decode cL_tryNumber 0 = .ok (.aload_n 0, 1) := by decide +kernel
theorem dL_tryNumber_1 : decode cL_tryNumber 1 = .ok (.iload_n 1, 1) := by decide +kernel
theorem dL_tryNumber_2 : decode cL_tryNumber 2 = .ok (.iload_n 2, 1) := by decide +kernel
theorem dL_tryNumber_3 : decode cL_tryNumber 3 = .ok (.invokevirtual 51, 3) := by decide +kernel
theorem dL_tryNumber_6 : decode cL_tryNumber 6 = .ok (.ireturn, 1) := by decide +kernel
theorem dL_tryNumber_7 : decode cL_tryNumber 7 = .ok (.astore_n 3, 1) := by decide +kernel
theorem dL_tryNumber_8 : decode cL_tryNumber 8 = .ok (.ldc 26, 2) := by decide +kernel
theorem dL_tryNumber_10 : decode cL_tryNumber 10 = .ok (.ireturn, 1) := by decide +kernel
set_option maxRecDepth 20000 in
theorem ggL_tryShare_X5_share : GoodIn wsL_tryShare wsX5_share := goodIn_ca (goodIn_r _ [7, 8, 9, 10, 11, 12, 13, 6, 14, 15, 16, 17, 18, 19, 20, 21, 22, 23, 24, 25, 26, 27, 28, 29, 30, 31, 32, 33, 34, 35, 36, 37, 38, 39, 40] (by decide +kernel) (by decide +kernel)) (goodIn_sub (fun _ h => List.mem_cons_of_mem _ (List.mem_append_right _ h)) (by decide +kernel))
set_option maxRecDepth 20000 in
theorem gL_tryShare_X5_share : GoodIn wsL_tryShare (wsV RL 54 RX5 yX5_share wsX5_share) := goodIn_app (goodIn_of _ (by decide +kernel)) ggL_tryShare_X5_share
theorem dL_tryShare_0 : decode cL_tryShare 0 = .ok (.aload_n 0, 1) := by decide +kernel
theorem dL_tryShare_1 : decode cL_tryShare 1 = .ok (.iload_n 1, 1) := by decide +kernel
theorem dL_tryShare_2 : decode cL_tryShare 2 = .ok (.invokevirtual 54, 3) := by decide +kernel
theorem dL_tryShare_5 : decode cL_tryShare 5 = .ok (.ireturn, 1) := by decide +kernel
theorem dL_tryShare_6 : decode cL_tryShare 6 = .ok (.astore_n 2, 1) := by decide +kernel
theorem dL_tryShare_7 : decode cL_tryShare 7 = .ok (.ldc 26, 2) := by decide +kernel
theorem dL_tryShare_9 : decode cL_tryShare 9 = .ok (.ireturn, 1) := by decide +kernel
set_option maxRecDepth 20000 in
theorem ggL_tryTune_X5_setDesk : GoodIn wsL_tryTune wsX5_setDesk := goodIn_ca (goodIn_ca (goodIn_r _ [9, 10, 11, 12, 13, 14, 15, 16, 17, 8, 18, 19, 20, 21, 22, 23, 24, 25, 26, 27, 28, 29, 30, 31, 32, 33, 34, 35, 36, 37, 38, 39, 40, 41, 42, 43, 44, 45, 46, 47, 48, 49, 50, 51, 52, 53, 54, 55, 56, 57, 58, 59, 60, 61, 62, 63, 64, 65, 66, 67, 68, 69, 70, 71, 72, 73, 74, 75, 76, 77, 78, 79, 80, 81, 82, 83, 84, 85, 86, 87, 88, 89, 90, 91, 92, 93, 94, 95, 96, 97, 98, 99, 100, 101, 102, 103, 104, 105, 106, 107, 108, 109, 110, 111, 112, 113, 114, 115, 116] (by decide +kernel) (by decide +kernel)) (goodIn_sub (fun _ h => List.mem_cons_of_mem _ (List.mem_append_left _ (List.mem_append_right _ h))) (by decide +kernel))) (goodIn_sub (fun _ h => List.mem_cons_of_mem _ (List.mem_append_right _ h)) (by decide +kernel))
set_option maxRecDepth 20000 in
theorem gL_tryTune_X5_setDesk : GoodIn wsL_tryTune (wsV RL 57 RX5 yX5_setDesk wsX5_setDesk) := goodIn_app (goodIn_of _ (by decide +kernel)) ggL_tryTune_X5_setDesk
theorem dL_tryTune_0 : decode cL_tryTune 0 = .ok (.aload_n 0, 1) := by decide +kernel
theorem dL_tryTune_1 : decode cL_tryTune 1 = .ok (.iload_n 1, 1) := by decide +kernel
theorem dL_tryTune_2 : decode cL_tryTune 2 = .ok (.iload_n 2, 1) := by decide +kernel
theorem dL_tryTune_3 : decode cL_tryTune 3 = .ok (.iload_n 3, 1) := by decide +kernel
theorem dL_tryTune_4 : decode cL_tryTune 4 = .ok (.invokevirtual 57, 3) := by decide +kernel
theorem dL_tryTune_7 : decode cL_tryTune 7 = .ok (.ireturn, 1) := by decide +kernel
theorem dL_tryTune_8 : decode cL_tryTune 8 = .ok (.astore 4, 2) := by decide +kernel
theorem dL_tryTune_10 : decode cL_tryTune 10 = .ok (.ldc 26, 2) := by decide +kernel
theorem dL_tryTune_12 : decode cL_tryTune 12 = .ok (.ireturn, 1) := by decide +kernel
theorem dL_tryTune_13 : decode cL_tryTune 13 = .ok (.astore 4, 2) := by decide +kernel
theorem dL_tryTune_15 : decode cL_tryTune 15 = .ok (.ldc 15, 2) := by decide +kernel
theorem dL_tryTune_17 : decode cL_tryTune 17 = .ok (.ireturn, 1) := by decide +kernel
set_option maxRecDepth 20000 in
theorem ggL_trySet_X5_set : GoodIn wsL_trySet wsX5_set := goodIn_ca (goodIn_r _ [7, 8, 9, 10, 11, 12, 13, 14, 6, 15, 16, 17, 18, 19, 20, 21, 22, 23, 24, 25, 26, 27, 28, 29, 30, 31, 32, 33, 34, 35, 36, 37, 38, 39, 40, 41, 42, 43, 44, 45, 46, 47, 48, 49, 50, 51, 52, 53, 54, 55, 56, 57, 58, 59, 60, 61, 62, 63, 64, 65, 66, 67, 68, 69, 70, 71, 72, 73, 74, 75, 76, 77, 78, 79, 80, 81, 82, 83, 84, 85, 86, 87, 88, 89, 90, 91, 92, 93, 94, 95, 96, 97, 98, 99, 100, 101, 102, 103, 104, 105] (by decide +kernel) (by decide +kernel)) (goodIn_sub (fun _ h => List.mem_cons_of_mem _ (List.mem_append_right _ h)) (by decide +kernel))
set_option maxRecDepth 20000 in
theorem gL_trySet_X5_set : GoodIn wsL_trySet (wsV RL 60 RX5 yX5_set wsX5_set) := goodIn_app (goodIn_of _ (by decide +kernel)) ggL_trySet_X5_set
theorem dL_trySet_0 : decode cL_trySet 0 = .ok (.aload_n 0, 1) := by decide +kernel
theorem dL_trySet_1 : decode cL_trySet 1 = .ok (.iload_n 1, 1) := by decide +kernel
theorem dL_trySet_2 : decode cL_trySet 2 = .ok (.iload_n 2, 1) := by decide +kernel
theorem dL_trySet_3 : decode cL_trySet 3 = .ok (.invokevirtual 60, 3) := by decide +kernel
theorem dL_trySet_6 : decode cL_trySet 6 = .ok (.ireturn, 1) := by decide +kernel
theorem dL_trySet_7 : decode cL_trySet 7 = .ok (.astore_n 3, 1) := by decide +kernel
theorem dL_trySet_8 : decode cL_trySet 8 = .ok (.ldc 15, 2) := by decide +kernel
theorem dL_trySet_10 : decode cL_trySet 10 = .ok (.ireturn, 1) := by decide +kernel
set_option maxRecDepth 20000 in
theorem ggL_tryGrow_X5_strengthen : GoodIn wsL_tryGrow wsX5_strengthen := goodIn_ca (goodIn_ca (goodIn_r _ [9, 10, 11, 12, 13, 14, 15, 16, 17, 8, 18, 19, 20, 21, 22, 23, 24, 25, 26, 27, 28, 29, 30, 31, 32, 33, 34, 35, 36, 37, 38, 39, 40, 41, 42, 43, 44, 45, 46, 47, 48, 49, 50, 51, 52, 53, 54, 55, 56, 57, 58, 59, 60, 61, 62, 63, 64, 65, 66, 67, 68, 69, 70, 71, 72, 73, 74, 75, 76, 77, 78, 79, 80, 81, 82, 83, 84, 85, 86, 87, 88, 89, 90, 91, 92, 93, 94, 95, 96, 97, 98, 99, 100, 101, 102, 103, 104, 105] (by decide +kernel) (by decide +kernel)) (goodIn_sub (fun _ h => List.mem_cons_of_mem _ (List.mem_append_left _ (List.mem_append_right _ h))) (by decide +kernel))) (goodIn_sub (fun _ h => List.mem_cons_of_mem _ (List.mem_append_right _ h)) (by decide +kernel))
set_option maxRecDepth 20000 in
theorem gL_tryGrow_X5_strengthen : GoodIn wsL_tryGrow (wsV RL 63 RX5 yX5_strengthen wsX5_strengthen) := goodIn_app (goodIn_of _ (by decide +kernel)) ggL_tryGrow_X5_strengthen
theorem dL_tryGrow_0 : decode cL_tryGrow 0 = .ok (.aload_n 0, 1) := by decide +kernel
theorem dL_tryGrow_1 : decode cL_tryGrow 1 = .ok (.iload_n 1, 1) := by decide +kernel
theorem dL_tryGrow_2 : decode cL_tryGrow 2 = .ok (.iload_n 2, 1) := by decide +kernel
theorem dL_tryGrow_3 : decode cL_tryGrow 3 = .ok (.iload_n 3, 1) := by decide +kernel
theorem dL_tryGrow_4 : decode cL_tryGrow 4 = .ok (.invokevirtual 63, 3) := by decide +kernel
theorem dL_tryGrow_7 : decode cL_tryGrow 7 = .ok (.ireturn, 1) := by decide +kernel
theorem dL_tryGrow_8 : decode cL_tryGrow 8 = .ok (.astore 4, 2) := by decide +kernel
theorem dL_tryGrow_10 : decode cL_tryGrow 10 = .ok (.ldc 26, 2) := by decide +kernel
theorem dL_tryGrow_12 : decode cL_tryGrow 12 = .ok (.ireturn, 1) := by decide +kernel
theorem dL_tryGrow_13 : decode cL_tryGrow 13 = .ok (.astore 4, 2) := by decide +kernel
theorem dL_tryGrow_15 : decode cL_tryGrow 15 = .ok (.ldc 15, 2) := by decide +kernel
theorem dL_tryGrow_17 : decode cL_tryGrow 17 = .ok (.ireturn, 1) := by decide +kernel
set_option maxRecDepth 20000 in
theorem ggL_tryPlay_X5_play : GoodIn wsL_tryPlay wsX5_play := goodIn_ca (goodIn_r _ [7, 8, 9, 10, 11, 12, 13, 14, 15, 16, 17, 18, 19, 20, 21, 22, 23, 24, 25, 26, 27, 28, 29, 30, 31, 32, 33, 34, 35, 36, 37, 38, 39, 40, 41, 42, 43, 44, 45, 46, 47, 48, 49, 50, 51, 52, 53, 54, 55, 56, 57, 58, 59, 60, 61, 62, 63, 64, 65, 66, 67, 68, 69, 70, 71, 72, 73, 74, 75, 76, 77, 78, 79, 80, 81, 82, 83, 84, 85, 86, 87, 88, 89, 90, 91, 92, 93, 94, 95, 96, 97, 98, 99, 100, 101, 102, 103, 104, 105, 106, 107, 108, 109, 110, 111, 112, 113, 114, 115, 116, 117, 118, 119, 120, 121, 122, 123, 124, 125, 126, 127, 128, 129, 130, 131, 132, 133, 134, 135, 136, 137, 138, 139, 140, 141, 142, 143, 144, 145, 146, 147, 148, 149, 150, 151, 152, 153, 154, 155, 156, 157, 158, 159, 160, 161, 162, 163, 164, 165, 166, 167, 168, 169, 170, 171, 172, 173, 174, 175, 176, 177, 178, 179, 180, 181] (by decide +kernel) (by decide +kernel)) (goodIn_sub (fun _ h => List.mem_cons_of_mem _ (List.mem_append_right _ h)) (by decide +kernel))
set_option maxRecDepth 20000 in
theorem gL_tryPlay_X5_play : GoodIn wsL_tryPlay (wsV RL 66 RX5 yX5_play wsX5_play) := goodIn_app (goodIn_of _ (by decide +kernel)) ggL_tryPlay_X5_play
theorem dL_tryPlay_0 : decode cL_tryPlay 0 = .ok (.aload_n 0, 1) := by decide +kernel
theorem dL_tryPlay_1 : decode cL_tryPlay 1 = .ok (.invokevirtual 66, 3) := by decide +kernel
theorem dL_tryPlay_4 : decode cL_tryPlay 4 = .ok (.ireturn, 1) := by decide +kernel
theorem dL_tryPlay_5 : decode cL_tryPlay 5 = .ok (.astore_n 1, 1) := by decide +kernel
theorem dL_tryPlay_6 : decode cL_tryPlay 6 = .ok (.ldc 33, 2) := by decide +kernel
theorem dL_tryPlay_8 : decode cL_tryPlay 8 = .ok (.ireturn, 1) := by decide +kernel
set_option maxRecDepth 20000 in
theorem ggL_tryUndo_X5_undo : GoodIn wsL_tryUndo wsX5_undo := goodIn_ca (goodIn_r _ [7, 8, 9, 10, 11, 12, 13, 14, 15, 16, 17, 18, 19, 20, 21, 22, 23, 24, 25, 26, 27, 28, 29, 30, 31, 32, 33, 34, 35, 36, 37, 38, 39, 40, 41, 42, 43, 44, 45, 46, 47, 48, 49, 50, 51, 52, 53, 54, 55, 56, 57, 58, 59, 60, 61, 62, 63, 64, 65, 66, 67, 68, 69, 70, 71, 72, 73, 74, 75, 76, 77, 78, 79, 80, 81, 82] (by decide +kernel) (by decide +kernel)) (goodIn_sub (fun _ h => List.mem_cons_of_mem _ (List.mem_append_right _ h)) (by decide +kernel))
set_option maxRecDepth 20000 in
theorem gL_tryUndo_X5_undo : GoodIn wsL_tryUndo (wsV RL 70 RX5 yX5_undo wsX5_undo) := goodIn_app (goodIn_of _ (by decide +kernel)) ggL_tryUndo_X5_undo
theorem dL_tryUndo_0 : decode cL_tryUndo 0 = .ok (.aload_n 0, 1) := by decide +kernel
theorem dL_tryUndo_1 : decode cL_tryUndo 1 = .ok (.invokevirtual 70, 3) := by decide +kernel
theorem dL_tryUndo_4 : decode cL_tryUndo 4 = .ok (.ireturn, 1) := by decide +kernel
theorem dL_tryUndo_5 : decode cL_tryUndo 5 = .ok (.astore_n 1, 1) := by decide +kernel
theorem dL_tryUndo_6 : decode cL_tryUndo 6 = .ok (.ldc 33, 2) := by decide +kernel
theorem dL_tryUndo_8 : decode cL_tryUndo 8 = .ok (.ireturn, 1) := by decide +kernel
set_option maxRecDepth 20000 in
theorem ggL_tryMixing_X5_bestMixing : GoodIn wsL_tryMixing wsX5_bestMixing := goodIn_ca (goodIn_r _ [7, 8, 9, 6, 10, 11, 12, 13, 14, 15, 16, 17, 18, 19, 20, 21, 22, 23, 24, 25, 26, 27, 28, 29, 30, 31, 32, 33, 34, 35, 36, 37, 38, 39, 40, 41, 42, 43, 44, 45, 46, 47, 48, 49, 50, 51, 52, 53, 54, 55, 56, 57, 58, 59, 60, 61, 62, 63, 64, 65, 66, 67, 68, 69, 70, 71, 72, 73, 74, 75, 76, 77, 78, 79, 80, 81, 82, 83, 84, 85, 86, 87, 88, 89, 90, 91, 92, 93, 94, 95, 96, 97, 98, 99, 100, 101, 102, 103, 104, 105, 106, 107, 108, 109, 110, 111, 112, 113, 114, 115, 116, 117, 118, 119, 120, 121, 122, 123, 124, 125, 126, 127, 128, 129, 130, 131, 132, 133, 134, 135, 136, 137, 138, 139, 140, 141, 142, 143, 144, 145, 146, 147, 148, 149, 150, 151, 152, 153, 154, 155, 156, 157, 158, 159, 160, 161, 162, 163, 164, 165, 166, 167, 168, 169, 170, 171, 172, 173, 174, 175, 176, 177, 178, 179, 180, 181, 182, 183, 184, 185, 186, 187, 188, 189, 190, 191, 192, 193, 194, 195, 196, 197, 198, 199, 200, 201] (by decide +kernel) (by decide +kernel)) (goodIn_sub (fun _ h => List.mem_cons_of_mem _ (List.mem_append_right _ h)) (by decide +kernel))
set_option maxRecDepth 20000 in
theorem gL_tryMixing_X5_bestMixing : GoodIn wsL_tryMixing (wsV RL 73 RX5 yX5_bestMixing wsX5_bestMixing) := goodIn_app (goodIn_of _ (by decide +kernel)) ggL_tryMixing_X5_bestMixing
theorem dL_tryMixing_0 : decode cL_tryMixing 0 = .ok (.aload_n 0, 1) := by decide +kernel
theorem dL_tryMixing_1 : decode cL_tryMixing 1 = .ok (.iload_n 1, 1) := by decide +kernel
theorem dL_tryMixing_2 : decode cL_tryMixing 2 = .ok (.invokevirtual 73, 3) := by decide +kernel
theorem dL_tryMixing_5 : decode cL_tryMixing 5 = .ok (.ireturn, 1) := by decide +kernel
theorem dL_tryMixing_6 : decode cL_tryMixing 6 = .ok (.astore_n 2, 1) := by decide +kernel
theorem dL_tryMixing_7 : decode cL_tryMixing 7 = .ok (.ldc 26, 2) := by decide +kernel
theorem dL_tryMixing_9 : decode cL_tryMixing 9 = .ok (.ireturn, 1) := by decide +kernel
set_option maxRecDepth 20000 in
theorem ggL_tryLength_X5_bestLength : GoodIn wsL_tryLength wsX5_bestLength := goodIn_ca (goodIn_r _ [7, 8, 9, 6, 10, 11, 12, 13, 14, 15, 16, 17, 18, 19, 20, 21, 22, 23, 24, 25, 26, 27, 28, 29, 30, 31, 32, 33, 34, 35, 36, 37, 38, 39, 40, 41, 42, 43, 44, 45, 46, 47, 48, 49, 50, 51, 52, 53, 54, 55, 56, 57, 58, 59, 60, 61, 62, 63, 64, 65, 66, 67, 68, 69, 70, 71, 72, 73, 74, 75, 76, 77, 78, 79, 80, 81, 82, 83, 84, 85, 86, 87, 88, 89, 90, 91, 92, 93, 94, 95, 96, 97, 98, 99, 100, 101, 102, 103, 104, 105, 106, 107, 108, 109, 110, 111, 112, 113, 114, 115, 116, 117, 118, 119, 120, 121, 122, 123, 124, 125, 126, 127, 128, 129, 130, 131, 132, 133, 134, 135, 136, 137, 138, 139, 140, 141, 142, 143, 144, 145, 146, 147, 148, 149, 150, 151, 152, 153, 154, 155, 156, 157, 158, 159, 160, 161, 162, 163, 164, 165, 166, 167, 168, 169, 170, 171, 172, 173, 174, 175, 176, 177, 178, 179, 180, 181, 182, 183, 184, 185, 186, 187, 188, 189, 190, 191, 192, 193, 194, 195, 196, 197, 198, 199, 200, 201] (by decide +kernel) (by decide +kernel)) (goodIn_sub (fun _ h => List.mem_cons_of_mem _ (List.mem_append_right _ h)) (by decide +kernel))
set_option maxRecDepth 20000 in
theorem gL_tryLength_X5_bestLength : GoodIn wsL_tryLength (wsV RL 76 RX5 yX5_bestLength wsX5_bestLength) := goodIn_app (goodIn_of _ (by decide +kernel)) ggL_tryLength_X5_bestLength
theorem dL_tryLength_0 : decode cL_tryLength 0 = .ok (.aload_n 0, 1) := by decide +kernel
theorem dL_tryLength_1 : decode cL_tryLength 1 = .ok (.iload_n 1, 1) := by decide +kernel
theorem dL_tryLength_2 : decode cL_tryLength 2 = .ok (.invokevirtual 76, 3) := by decide +kernel
theorem dL_tryLength_5 : decode cL_tryLength 5 = .ok (.ireturn, 1) := by decide +kernel
theorem dL_tryLength_6 : decode cL_tryLength 6 = .ok (.astore_n 2, 1) := by decide +kernel
theorem dL_tryLength_7 : decode cL_tryLength 7 = .ok (.ldc 26, 2) := by decide +kernel
theorem dL_tryLength_9 : decode cL_tryLength 9 = .ok (.ireturn, 1) := by decide +kernel
set_option maxRecDepth 20000 in
theorem ggL_trySharing_X5_sharing : GoodIn wsL_trySharing wsX5_sharing := goodIn_ca (goodIn_r _ [7, 8, 9, 10, 6, 11, 12, 13, 14, 15, 16, 17, 18, 19, 20, 21, 22, 23, 24, 25, 26, 27, 28, 29, 30, 31, 32, 33, 34, 35, 36, 37, 38, 39, 40, 41, 42, 43, 44, 45, 46, 47, 48, 49, 50, 51, 52, 53, 54, 55, 56, 57, 58, 59, 60, 61, 62, 63, 64, 65] (by decide +kernel) (by decide +kernel)) (goodIn_sub (fun _ h => List.mem_cons_of_mem _ (List.mem_append_right _ h)) (by decide +kernel))
set_option maxRecDepth 20000 in
theorem gL_trySharing_X5_sharing : GoodIn wsL_trySharing (wsV RL 79 RX5 yX5_sharing wsX5_sharing) := goodIn_app (goodIn_of _ (by decide +kernel)) ggL_trySharing_X5_sharing
theorem dL_trySharing_0 : decode cL_trySharing 0 = .ok (.aload_n 0, 1) := by decide +kernel
theorem dL_trySharing_1 : decode cL_trySharing 1 = .ok (.iload_n 1, 1) := by decide +kernel
theorem dL_trySharing_2 : decode cL_trySharing 2 = .ok (.iload_n 2, 1) := by decide +kernel
theorem dL_trySharing_3 : decode cL_trySharing 3 = .ok (.invokevirtual 79, 3) := by decide +kernel
theorem dL_trySharing_6 : decode cL_trySharing 6 = .ok (.ireturn, 1) := by decide +kernel
theorem dL_trySharing_7 : decode cL_trySharing 7 = .ok (.astore_n 3, 1) := by decide +kernel
theorem dL_trySharing_8 : decode cL_trySharing 8 = .ok (.ldc 26, 2) := by decide +kernel
theorem dL_trySharing_10 : decode cL_trySharing 10 = .ok (.ireturn, 1) := by decide +kernel
set_option maxRecDepth 20000 in
theorem ggL_tryHolds_X5_holds : GoodIn wsL_tryHolds wsX5_holds := goodIn_ca (goodIn_r _ [7, 8, 9, 10, 11, 6, 12, 13, 14, 15, 16, 17, 18, 19, 20, 21, 22, 23, 24, 25, 26, 27, 28, 29, 30, 31, 32, 33, 34, 35, 36, 37, 38, 39, 40, 41, 42, 43, 44, 45, 46, 47, 48, 49, 50, 51, 52, 53, 54, 55, 56, 57, 58, 59, 60, 61, 62, 63, 64, 65, 66, 67, 68, 69, 70, 71, 72, 73, 74, 75, 76, 77, 78, 79, 80, 81, 82, 83, 84, 85, 86, 87, 88, 89, 90, 91, 92, 93, 94, 95, 96, 97, 98, 99, 100, 101, 102, 103, 104, 105, 106, 107, 108, 109, 110, 111, 112, 113, 114, 115, 116, 117, 118, 119, 120, 121, 122, 123, 124, 125, 126] (by decide +kernel) (by decide +kernel)) (goodIn_sub (fun _ h => List.mem_cons_of_mem _ (List.mem_append_right _ h)) (by decide +kernel))
set_option maxRecDepth 20000 in
theorem gL_tryHolds_X5_holds : GoodIn wsL_tryHolds (wsV RL 82 RX5 yX5_holds wsX5_holds) := goodIn_app (goodIn_of _ (by decide +kernel)) ggL_tryHolds_X5_holds
theorem dL_tryHolds_0 : decode cL_tryHolds 0 = .ok (.aload_n 0, 1) := by decide +kernel
theorem dL_tryHolds_1 : decode cL_tryHolds 1 = .ok (.iload_n 1, 1) := by decide +kernel
theorem dL_tryHolds_2 : decode cL_tryHolds 2 = .ok (.invokevirtual 82, 3) := by decide +kernel
theorem dL_tryHolds_5 : decode cL_tryHolds 5 = .ok (.ireturn, 1) := by decide +kernel
theorem dL_tryHolds_6 : decode cL_tryHolds 6 = .ok (.astore_n 2, 1) := by decide +kernel
theorem dL_tryHolds_7 : decode cL_tryHolds 7 = .ok (.ldc 26, 2) := by decide +kernel
theorem dL_tryHolds_9 : decode cL_tryHolds 9 = .ok (.ireturn, 1) := by decide +kernel
set_option maxRecDepth 20000 in
theorem ggL_tryKeep_X5_save : GoodIn wsL_tryKeep wsX5_save := goodIn_ca (goodIn_r _ [7, 8, 9, 10, 11, 12, 13, 6, 14, 15, 16, 17, 18, 19, 20, 21, 22, 23, 24, 25, 26, 27, 28, 29, 30, 31, 32, 33, 34, 35, 36, 37, 38, 39, 40, 41, 42, 43, 44, 45, 46, 47, 48, 49, 50, 51, 52, 53, 54, 55, 56, 57, 58, 59, 60, 61, 62, 63, 64, 65, 66, 67, 68, 69, 70, 71, 72, 73, 74, 75] (by decide +kernel) (by decide +kernel)) (goodIn_sub (fun _ h => List.mem_cons_of_mem _ (List.mem_append_right _ h)) (by decide +kernel))
set_option maxRecDepth 20000 in
theorem gL_tryKeep_X5_save : GoodIn wsL_tryKeep (wsV RL 85 RX5 yX5_save wsX5_save) := goodIn_app (goodIn_of _ (by decide +kernel)) ggL_tryKeep_X5_save
theorem dL_tryKeep_0 : decode cL_tryKeep 0 = .ok (.aload_n 0, 1) := by decide +kernel
theorem dL_tryKeep_1 : decode cL_tryKeep 1 = .ok (.iload_n 1, 1) := by decide +kernel
theorem dL_tryKeep_2 : decode cL_tryKeep 2 = .ok (.invokevirtual 85, 3) := by decide +kernel
theorem dL_tryKeep_5 : decode cL_tryKeep 5 = .ok (.ireturn, 1) := by decide +kernel
theorem dL_tryKeep_6 : decode cL_tryKeep 6 = .ok (.astore_n 2, 1) := by decide +kernel
theorem dL_tryKeep_7 : decode cL_tryKeep 7 = .ok (.ldc 26, 2) := by decide +kernel
theorem dL_tryKeep_9 : decode cL_tryKeep 9 = .ok (.ireturn, 1) := by decide +kernel
set_option maxRecDepth 20000 in
theorem ggL_tryBack_X5_restore : GoodIn wsL_tryBack wsX5_restore := goodIn_ca (goodIn_ca (goodIn_r _ [9, 10, 11, 12, 13, 14, 15, 16, 17, 18, 19, 8, 20, 21, 22, 23, 24, 25, 26, 27, 28, 29, 30, 31, 32, 33, 34, 35, 36, 37, 38, 39, 40, 41, 42, 43, 44, 45, 46, 47, 48, 49, 50, 51, 52, 53, 54, 55, 56, 57, 58, 59, 60, 61, 62, 63, 64, 65, 66, 67, 68, 69, 70, 71, 72, 73, 74, 75, 76, 77, 78, 79, 80, 81, 82, 83, 84] (by decide +kernel) (by decide +kernel)) (goodIn_sub (fun _ h => List.mem_cons_of_mem _ (List.mem_append_left _ (List.mem_append_right _ h))) (by decide +kernel))) (goodIn_sub (fun _ h => List.mem_cons_of_mem _ (List.mem_append_right _ h)) (by decide +kernel))
set_option maxRecDepth 20000 in
theorem gL_tryBack_X5_restore : GoodIn wsL_tryBack (wsV RL 88 RX5 yX5_restore wsX5_restore) := goodIn_app (goodIn_of _ (by decide +kernel)) ggL_tryBack_X5_restore
theorem dL_tryBack_0 : decode cL_tryBack 0 = .ok (.aload_n 0, 1) := by decide +kernel
theorem dL_tryBack_1 : decode cL_tryBack 1 = .ok (.iload_n 1, 1) := by decide +kernel
theorem dL_tryBack_2 : decode cL_tryBack 2 = .ok (.invokevirtual 88, 3) := by decide +kernel
theorem dL_tryBack_5 : decode cL_tryBack 5 = .ok (.ireturn, 1) := by decide +kernel
theorem dL_tryBack_6 : decode cL_tryBack 6 = .ok (.astore_n 2, 1) := by decide +kernel
theorem dL_tryBack_7 : decode cL_tryBack 7 = .ok (.ldc 26, 2) := by decide +kernel
theorem dL_tryBack_9 : decode cL_tryBack 9 = .ok (.ireturn, 1) := by decide +kernel
theorem dL_tryBack_10 : decode cL_tryBack 10 = .ok (.astore_n 2, 1) := by decide +kernel
theorem dL_tryBack_11 : decode cL_tryBack 11 = .ok (.ldc 33, 2) := by decide +kernel
theorem dL_tryBack_13 : decode cL_tryBack 13 = .ok (.ireturn, 1) := by decide +kernel
set_option maxRecDepth 20000 in
theorem ggL_call_L_tryAppend : GoodIn wsL_call wsL_tryAppend := goodIn_ca (goodIn_ca (goodIn_r _ [4, 5, 6, 7, 8, 9, 10, 11, 12, 13, 14, 15, 16, 17, 18, 19, 20, 21, 22, 23, 24, 25, 26, 394, 395, 396, 397, 398, 399, 400, 401, 402, 403, 404, 405, 406, 407] (by decide +kernel) (by decide +kernel)) (goodIn_sub (fun _ h => List.mem_cons_of_mem _ (List.mem_append_left _ (List.mem_append_left _ (List.mem_append_right _ h)))) (by decide +kernel))) (goodIn_sub (fun _ h => List.mem_cons_of_mem _ (List.mem_append_left _ (List.mem_append_right _ h))) (by decide +kernel))
set_option maxRecDepth 20000 in
theorem gL_call_L_tryAppend : GoodIn wsL_call (va_wsS RL 91 yL_tryAppend wsL_tryAppend) := goodIn_app (goodIn_of _ (by decide +kernel)) ggL_call_L_tryAppend
set_option maxRecDepth 20000 in
theorem ggL_call_L_tryAbout : GoodIn wsL_call wsL_tryAbout := goodIn_ca (goodIn_r _ [29, 5, 7, 30, 31, 32, 12, 33, 14, 15, 34, 35, 36, 37, 38, 39, 40, 41, 42, 394, 395, 396, 397, 398, 399, 408, 409, 410, 411, 412, 413, 414, 415, 416, 417, 418, 419, 420, 421, 422, 423, 424, 425, 426] (by decide +kernel) (by decide +kernel)) (goodIn_sub (fun _ h => List.mem_cons_of_mem _ (List.mem_append_left _ (List.mem_append_left _ (List.mem_append_right _ h)))) (by decide +kernel))
set_option maxRecDepth 20000 in
theorem gL_call_L_tryAbout : GoodIn wsL_call (va_wsS RL 97 yL_tryAbout wsL_tryAbout) := goodIn_app (goodIn_of _ (by decide +kernel)) ggL_call_L_tryAbout
set_option maxRecDepth 20000 in
theorem ggL_call_L_tryDesk : GoodIn wsL_call wsL_tryDesk := goodIn_ca (goodIn_ca (goodIn_r _ [45, 46, 5, 47, 7, 48, 49, 50, 12, 51, 14, 15, 34, 38, 52, 53, 54, 55, 56, 57, 58, 59, 60, 61, 62, 63, 64, 65, 66, 67, 394, 395, 396, 397, 398, 399, 408, 409, 410, 411, 412, 413, 414, 415, 416, 417, 418, 419, 420, 421, 422, 423, 424, 425, 426] (by decide +kernel) (by decide +kernel)) (goodIn_sub (fun _ h => List.mem_cons_of_mem _ (List.mem_append_left _ (List.mem_append_left _ (List.mem_append_right _ h)))) (by decide +kernel))) (goodIn_sub (fun _ h => List.mem_cons_of_mem _ (List.mem_append_right _ h)) (by decide +kernel))
set_option maxRecDepth 20000 in
theorem gL_call_L_tryDesk : GoodIn wsL_call (va_wsS RL 100 yL_tryDesk wsL_tryDesk) := goodIn_app (goodIn_of _ (by decide +kernel)) ggL_call_L_tryDesk
set_option maxRecDepth 20000 in
theorem ggL_call_L_tryNote : GoodIn wsL_call wsL_tryNote := goodIn_ca (goodIn_ca (goodIn_r _ [70, 46, 5, 47, 7, 71, 72, 73, 12, 74, 14, 15, 34, 38, 75, 76, 77, 78, 54, 55, 56, 57, 58, 59, 60, 61, 79, 80, 81, 82, 83, 84, 85, 86, 87, 88, 394, 395, 396, 397, 398, 399, 408, 409, 410, 411, 412, 413, 414, 415, 416, 417, 418, 419, 420, 421, 422, 423, 424, 425, 426] (by decide +kernel) (by decide +kernel)) (goodIn_sub (fun _ h => List.mem_cons_of_mem _ (List.mem_append_left _ (List.mem_append_left _ (List.mem_append_right _ h)))) (by decide +kernel))) (goodIn_sub (fun _ h => List.mem_cons_of_mem _ (List.mem_append_right _ h)) (by decide +kernel))
set_option maxRecDepth 20000 in
theorem gL_call_L_tryNote : GoodIn wsL_call (va_wsS RL 104 yL_tryNote wsL_tryNote) := goodIn_app (goodIn_of _ (by decide +kernel)) ggL_call_L_tryNote
set_option maxRecDepth 20000 in
theorem ggL_call_L_tryPlace : GoodIn wsL_call wsL_tryPlace := goodIn_ca (goodIn_ca (goodIn_r _ [91, 46, 5, 47, 7, 92, 93, 94, 12, 95, 14, 15, 34, 96, 97, 98, 99, 100, 101, 102, 57, 58, 103, 104, 105, 106, 107, 108, 86, 109, 110, 111, 112, 113, 114, 115, 116, 88, 117, 118, 119, 65, 120, 121, 122, 123, 124, 125, 126, 394, 395, 396, 397, 398, 399, 408, 409, 410, 411, 412, 413, 414, 415, 416, 417, 418, 419, 420, 421, 422, 423, 424, 425, 426] (by decide +kernel) (by decide +kernel)) (goodIn_sub (fun _ h => List.mem_cons_of_mem _ (List.mem_append_left _ (List.mem_append_left _ (List.mem_append_right _ h)))) (by decide +kernel))) (goodIn_sub (fun _ h => List.mem_cons_of_mem _ (List.mem_append_right _ h)) (by decide +kernel))
set_option maxRecDepth 20000 in
theorem gL_call_L_tryPlace : GoodIn wsL_call (va_wsS RL 108 yL_tryPlace wsL_tryPlace) := goodIn_app (goodIn_of _ (by decide +kernel)) ggL_call_L_tryPlace
set_option maxRecDepth 20000 in
theorem ggL_call_L_tryPath : GoodIn wsL_call wsL_tryPath := goodIn_ca (goodIn_r _ [129, 46, 47, 130, 131, 132, 12, 133, 34, 38, 54, 55, 56, 57, 58, 59, 60, 61, 100, 101, 102, 103, 104, 105, 134, 123, 124, 65, 125, 126, 121, 394, 395, 396, 397, 398, 399, 408, 409, 410, 411, 412, 413, 414, 415, 416, 417, 418, 419, 420, 421, 422, 423, 424, 425, 426] (by decide +kernel) (by decide +kernel)) (goodIn_sub (fun _ h => List.mem_cons_of_mem _ (List.mem_append_right _ h)) (by decide +kernel))
set_option maxRecDepth 20000 in
theorem gL_call_L_tryPath : GoodIn wsL_call (va_wsS RL 111 yL_tryPath wsL_tryPath) := goodIn_app (goodIn_of _ (by decide +kernel)) ggL_call_L_tryPath
set_option maxRecDepth 20000 in
theorem ggL_call_L_tryNumber : GoodIn wsL_call wsL_tryNumber := goodIn_ca (goodIn_r _ [137, 46, 47, 138, 139, 140, 12, 141, 34, 54, 55, 56, 57, 58, 59, 60, 61, 100, 101, 102, 103, 104, 105, 142, 143, 144, 86, 145, 115, 88, 117, 118, 119, 65, 120, 121, 122, 123, 124, 125, 126, 394, 395, 396, 397, 398, 399, 408, 409, 410, 411, 412, 413, 414, 415, 416, 417, 418, 419, 420, 421, 422, 423, 424, 425, 426] (by decide +kernel) (by decide +kernel)) (goodIn_sub (fun _ h => List.mem_cons_of_mem _ (List.mem_append_right _ h)) (by decide +kernel))
set_option maxRecDepth 20000 in
theorem gL_call_L_tryNumber : GoodIn wsL_call (va_wsS RL 114 yL_tryNumber wsL_tryNumber) := goodIn_app (goodIn_of _ (by decide +kernel)) ggL_call_L_tryNumber
set_option maxRecDepth 20000 in
theorem ggL_call_L_tryShare : GoodIn wsL_call wsL_tryShare := goodIn_ca (goodIn_r _ [148, 46, 47, 149, 150, 151, 12, 152, 34, 96, 97, 153, 100, 101, 102, 57, 58, 103, 104, 105, 154, 155, 156, 157, 394, 395, 396, 397, 398, 399, 408, 409, 410, 411, 412, 413, 414, 415, 416, 417, 418] (by decide +kernel) (by decide +kernel)) (goodIn_sub (fun _ h => List.mem_cons_of_mem _ (List.mem_append_right _ h)) (by decide +kernel))
set_option maxRecDepth 20000 in
theorem gL_call_L_tryShare : GoodIn wsL_call (va_wsS RL 117 yL_tryShare wsL_tryShare) := goodIn_app (goodIn_of _ (by decide +kernel)) ggL_call_L_tryShare
set_option maxRecDepth 20000 in
theorem ggL_call_L_tryTune : GoodIn wsL_call wsL_tryTune := goodIn_ca (goodIn_ca (goodIn_r _ [160, 46, 5, 47, 7, 161, 162, 163, 12, 164, 14, 15, 165, 34, 38, 52, 54, 55, 56, 57, 58, 59, 60, 61, 166, 167, 168, 169, 170, 171, 172, 173, 174, 175, 176, 177, 178, 179, 180, 86, 181, 88, 182, 183, 184, 185, 115, 110, 186, 187, 188, 189, 190, 191, 192, 193, 194, 195, 196, 65, 197, 121, 198, 199, 200, 67, 201, 126, 202, 203, 204, 205, 206, 207, 208, 209, 210, 211, 212, 213, 214, 215, 216, 217, 218, 219, 220, 221, 222, 394, 395, 396, 397, 398, 399, 408, 409, 410, 411, 412, 413, 414, 415, 416, 417, 418, 419, 420, 421, 422, 423, 424, 425, 426, 427, 428, 429] (by decide +kernel) (by decide +kernel)) (goodIn_sub (fun _ h => List.mem_cons_of_mem _ (List.mem_append_left _ (List.mem_append_left _ (List.mem_append_right _ h)))) (by decide +kernel))) (goodIn_sub (fun _ h => List.mem_cons_of_mem _ (List.mem_append_right _ h)) (by decide +kernel))
set_option maxRecDepth 20000 in
theorem gL_call_L_tryTune : GoodIn wsL_call (va_wsS RL 120 yL_tryTune wsL_tryTune) := goodIn_app (goodIn_of _ (by decide +kernel)) ggL_call_L_tryTune
set_option maxRecDepth 20000 in
theorem ggL_call_L_trySet : GoodIn wsL_call wsL_trySet := goodIn_ca (goodIn_r _ [225, 5, 7, 226, 227, 228, 12, 229, 14, 15, 165, 34, 42, 230, 231, 232, 233, 234, 170, 171, 172, 173, 174, 175, 176, 177, 178, 179, 180, 86, 181, 88, 182, 183, 184, 185, 115, 110, 186, 187, 188, 189, 190, 191, 192, 193, 194, 195, 196, 65, 197, 121, 198, 199, 200, 67, 201, 126, 202, 203, 235, 236, 237, 238, 209, 210, 211, 212, 213, 214, 215, 216, 217, 218, 219, 220, 221, 222, 394, 395, 396, 397, 398, 399, 408, 409, 410, 411, 412, 413, 414, 415, 416, 417, 418, 427, 428, 429, 419, 420, 421, 422, 423, 424, 425, 426] (by decide +kernel) (by decide +kernel)) (goodIn_sub (fun _ h => List.mem_cons_of_mem _ (List.mem_append_left _ (List.mem_append_left _ (List.mem_append_right _ h)))) (by decide +kernel))
set_option maxRecDepth 20000 in
theorem gL_call_L_trySet : GoodIn wsL_call (va_wsS RL 123 yL_trySet wsL_trySet) := goodIn_app (goodIn_of _ (by decide +kernel)) ggL_call_L_trySet
set_option maxRecDepth 20000 in
theorem ggL_call_L_tryGrow : GoodIn wsL_call wsL_tryGrow := goodIn_ca (goodIn_ca (goodIn_r _ [241, 46, 5, 47, 7, 242, 243, 244, 12, 245, 14, 15, 34, 165, 38, 75, 54, 55, 56, 57, 58, 59, 60, 61, 79, 80, 81, 82, 83, 84, 85, 86, 87, 88, 246, 247, 248, 249, 170, 171, 172, 173, 174, 175, 176, 177, 178, 179, 180, 181, 182, 183, 184, 185, 115, 110, 186, 187, 188, 189, 190, 191, 192, 193, 194, 195, 196, 65, 197, 121, 198, 199, 200, 67, 201, 126, 202, 203, 394, 395, 396, 397, 398, 399, 408, 409, 410, 411, 412, 413, 414, 415, 416, 417, 418, 419, 420, 421, 422, 423, 424, 425, 426, 427, 428, 429] (by decide +kernel) (by decide +kernel)) (goodIn_sub (fun _ h => List.mem_cons_of_mem _ (List.mem_append_left _ (List.mem_append_left _ (List.mem_append_right _ h)))) (by decide +kernel))) (goodIn_sub (fun _ h => List.mem_cons_of_mem _ (List.mem_append_right _ h)) (by decide +kernel))
set_option maxRecDepth 20000 in
theorem gL_call_L_tryGrow : GoodIn wsL_call (va_wsS RL 126 yL_tryGrow wsL_tryGrow) := goodIn_app (goodIn_of _ (by decide +kernel)) ggL_call_L_tryGrow
set_option maxRecDepth 20000 in
theorem ggL_call_L_tryPlay : GoodIn wsL_call wsL_tryPlay := goodIn_ca (goodIn_r _ [252, 6, 8, 253, 254, 255, 12, 256, 16, 17, 18, 165, 34, 36, 257, 258, 259, 23, 260, 261, 262, 263, 264, 265, 266, 267, 268, 25, 26, 269, 270, 271, 272, 273, 274, 275, 276, 277, 278, 279, 280, 281, 282, 283, 284, 285, 286, 287, 288, 289, 290, 291, 170, 171, 172, 173, 174, 175, 176, 177, 178, 179, 180, 86, 181, 88, 182, 183, 184, 185, 115, 110, 186, 187, 188, 189, 190, 191, 192, 193, 194, 195, 196, 65, 197, 121, 198, 199, 200, 67, 201, 126, 202, 203, 292, 293, 294, 295, 296, 297, 298, 299, 300, 301, 111, 112, 113, 114, 116, 117, 118, 119, 120, 122, 123, 124, 125, 302, 303, 304, 305, 306, 307, 308, 309, 310, 311, 312, 313, 314, 315, 316, 317, 143, 144, 145, 318, 319, 320, 321, 322, 323, 324, 325, 326, 327, 394, 395, 396, 397, 398, 399, 408, 409, 410, 411, 412, 413, 414, 415, 416, 417, 418, 400, 401, 402, 403, 404, 405, 406, 407, 427, 428, 429, 419, 420, 421, 422, 423, 424, 425, 426] (by decide +kernel) (by decide +kernel)) (goodIn_sub (fun _ h => List.mem_cons_of_mem _ (List.mem_append_left _ (List.mem_append_right _ h))) (by decide +kernel))
set_option maxRecDepth 20000 in
theorem gL_call_L_tryPlay : GoodIn wsL_call (va_wsS RL 129 yL_tryPlay wsL_tryPlay) := goodIn_app (goodIn_of _ (by decide +kernel)) ggL_call_L_tryPlay
set_option maxRecDepth 20000 in
theorem ggL_call_L_tryUndo : GoodIn wsL_call wsL_tryUndo := goodIn_ca (goodIn_r _ [330, 6, 8, 331, 332, 333, 12, 334, 16, 17, 165, 34, 335, 336, 337, 338, 173, 339, 175, 177, 176, 178, 179, 180, 86, 181, 88, 182, 183, 184, 185, 115, 110, 186, 187, 188, 189, 190, 191, 192, 193, 194, 195, 196, 65, 197, 121, 198, 199, 200, 67, 201, 126, 202, 203, 394, 395, 396, 397, 398, 399, 427, 428, 429, 408, 409, 410, 411, 412, 413, 414, 415, 416, 417, 418, 419, 420, 421, 422, 423, 424, 425, 426] (by decide +kernel) (by decide +kernel)) (goodIn_sub (fun _ h => List.mem_cons_of_mem _ (List.mem_append_left _ (List.mem_append_right _ h))) (by decide +kernel))
set_option maxRecDepth 20000 in
theorem gL_call_L_tryUndo : GoodIn wsL_call (va_wsS RL 133 yL_tryUndo wsL_tryUndo) := goodIn_app (goodIn_of _ (by decide +kernel)) ggL_call_L_tryUndo
set_option maxRecDepth 20000 in
theorem ggL_call_L_tryMixing : GoodIn wsL_call wsL_tryMixing := goodIn_ca (goodIn_r _ [342, 46, 47, 343, 344, 345, 12, 346, 54, 55, 56, 57, 58, 59, 60, 61, 347, 348, 349, 350, 18, 153, 169, 351, 34, 37, 257, 258, 259, 23, 260, 261, 262, 263, 264, 265, 266, 267, 268, 25, 26, 269, 270, 271, 272, 273, 274, 275, 276, 277, 278, 279, 280, 281, 282, 283, 284, 285, 286, 287, 288, 289, 290, 291, 352, 179, 180, 86, 181, 88, 182, 183, 184, 185, 115, 110, 186, 187, 188, 189, 190, 191, 192, 193, 194, 195, 196, 65, 197, 121, 198, 199, 200, 67, 201, 126, 202, 203, 204, 205, 206, 207, 208, 209, 210, 211, 212, 213, 214, 215, 216, 217, 218, 219, 220, 221, 222, 292, 293, 294, 295, 296, 297, 298, 299, 300, 301, 111, 112, 113, 114, 116, 117, 118, 119, 120, 122, 123, 124, 125, 302, 303, 304, 305, 306, 307, 308, 309, 310, 311, 312, 313, 314, 315, 316, 317, 143, 144, 145, 318, 319, 320, 321, 322, 323, 324, 325, 326, 327, 394, 395, 396, 397, 398, 399, 408, 409, 410, 411, 412, 413, 414, 415, 416, 417, 418, 400, 401, 402, 403, 404, 405, 406, 407, 419, 420, 421, 422, 423, 424, 425, 426] (by decide +kernel) (by decide +kernel)) (goodIn_sub (fun _ h => List.mem_cons_of_mem _ (List.mem_append_right _ h)) (by decide +kernel))
set_option maxRecDepth 20000 in
theorem gL_call_L_tryMixing : GoodIn wsL_call (va_wsS RL 136 yL_tryMixing wsL_tryMixing) := goodIn_app (goodIn_of _ (by decide +kernel)) ggL_call_L_tryMixing
set_option maxRecDepth 20000 in
theorem ggL_call_L_tryLength : GoodIn wsL_call wsL_tryLength := goodIn_ca (goodIn_r _ [355, 46, 47, 356, 357, 358, 12, 359, 54, 55, 56, 57, 58, 59, 60, 61, 347, 348, 349, 350, 18, 153, 169, 351, 34, 37, 257, 258, 259, 23, 260, 261, 262, 263, 264, 265, 266, 267, 268, 25, 26, 269, 270, 271, 272, 273, 274, 275, 276, 277, 278, 279, 280, 281, 282, 283, 284, 285, 286, 287, 288, 289, 290, 291, 352, 179, 180, 86, 181, 88, 182, 183, 184, 185, 115, 110, 186, 187, 188, 189, 190, 191, 192, 193, 194, 195, 196, 65, 197, 121, 198, 199, 200, 67, 201, 126, 202, 203, 204, 205, 206, 207, 208, 209, 210, 211, 212, 213, 214, 215, 216, 217, 218, 219, 220, 221, 222, 292, 293, 294, 295, 296, 297, 298, 299, 300, 301, 111, 112, 113, 114, 116, 117, 118, 119, 120, 122, 123, 124, 125, 302, 303, 304, 305, 306, 307, 308, 309, 310, 311, 312, 313, 314, 315, 316, 317, 143, 144, 145, 318, 319, 320, 321, 322, 323, 324, 325, 326, 327, 394, 395, 396, 397, 398, 399, 408, 409, 410, 411, 412, 413, 414, 415, 416, 417, 418, 400, 401, 402, 403, 404, 405, 406, 407, 419, 420, 421, 422, 423, 424, 425, 426] (by decide +kernel) (by decide +kernel)) (goodIn_sub (fun _ h => List.mem_cons_of_mem _ (List.mem_append_right _ h)) (by decide +kernel))
set_option maxRecDepth 20000 in
theorem gL_call_L_tryLength : GoodIn wsL_call (va_wsS RL 139 yL_tryLength wsL_tryLength) := goodIn_app (goodIn_of _ (by decide +kernel)) ggL_call_L_tryLength
set_option maxRecDepth 20000 in
theorem ggL_call_L_trySharing : GoodIn wsL_call wsL_trySharing := goodIn_ca (goodIn_r _ [362, 46, 47, 363, 364, 365, 12, 366, 34, 54, 55, 56, 57, 58, 59, 60, 61, 100, 101, 102, 103, 104, 105, 142, 143, 144, 86, 145, 115, 88, 117, 118, 119, 65, 120, 121, 122, 123, 124, 125, 126, 394, 395, 396, 397, 398, 399, 408, 409, 410, 411, 412, 413, 414, 415, 416, 417, 418, 419, 420, 421, 422, 423, 424, 425, 426] (by decide +kernel) (by decide +kernel)) (goodIn_sub (fun _ h => List.mem_cons_of_mem _ (List.mem_append_right _ h)) (by decide +kernel))
set_option maxRecDepth 20000 in
theorem gL_call_L_trySharing : GoodIn wsL_call (va_wsS RL 142 yL_trySharing wsL_trySharing) := goodIn_app (goodIn_of _ (by decide +kernel)) ggL_call_L_trySharing
set_option maxRecDepth 20000 in
theorem ggL_call_L_tryHolds : GoodIn wsL_call wsL_tryHolds := goodIn_ca (goodIn_r _ [369, 46, 47, 370, 371, 372, 12, 373, 351, 34, 100, 101, 102, 57, 58, 103, 104, 105, 352, 179, 180, 86, 181, 88, 182, 183, 184, 185, 115, 110, 186, 187, 188, 189, 190, 191, 192, 193, 194, 195, 196, 65, 197, 121, 198, 199, 200, 67, 201, 126, 202, 203, 106, 107, 108, 109, 111, 112, 113, 114, 116, 117, 118, 119, 120, 122, 123, 124, 125, 374, 299, 300, 301, 302, 303, 304, 305, 306, 307, 308, 309, 310, 311, 312, 313, 314, 315, 316, 317, 143, 144, 145, 318, 319, 320, 321, 322, 323, 324, 325, 326, 327, 394, 395, 396, 397, 398, 399, 408, 409, 410, 411, 412, 413, 414, 415, 416, 417, 418, 419, 420, 421, 422, 423, 424, 425, 426] (by decide +kernel) (by decide +kernel)) (goodIn_sub (fun _ h => List.mem_cons_of_mem _ (List.mem_append_right _ h)) (by decide +kernel))
set_option maxRecDepth 20000 in
theorem gL_call_L_tryHolds : GoodIn wsL_call (va_wsS RL 145 yL_tryHolds wsL_tryHolds) := goodIn_app (goodIn_of _ (by decide +kernel)) ggL_call_L_tryHolds
set_option maxRecDepth 20000 in
theorem ggL_call_L_tryKeep : GoodIn wsL_call wsL_tryKeep := goodIn_ca (goodIn_r _ [377, 46, 47, 378, 379, 380, 12, 381, 382, 34, 383, 35, 384, 385, 386, 57, 58, 352, 179, 180, 86, 181, 88, 182, 183, 184, 185, 115, 110, 186, 187, 188, 189, 190, 191, 192, 193, 194, 195, 196, 65, 197, 121, 198, 199, 200, 67, 201, 126, 202, 203, 394, 395, 396, 397, 398, 399, 408, 409, 410, 411, 412, 413, 414, 415, 416, 417, 418, 419, 420, 421, 422, 423, 424, 425, 426] (by decide +kernel) (by decide +kernel)) (goodIn_sub (fun _ h => List.mem_cons_of_mem _ (List.mem_append_right _ h)) (by decide +kernel))
set_option maxRecDepth 20000 in
theorem gL_call_L_tryKeep : GoodIn wsL_call (va_wsS RL 148 yL_tryKeep wsL_tryKeep) := goodIn_app (goodIn_of _ (by decide +kernel)) ggL_call_L_tryKeep
set_option maxRecDepth 20000 in
theorem ggL_call_L_tryBack : GoodIn wsL_call wsL_tryBack := goodIn_ca (goodIn_ca (goodIn_r _ [389, 46, 6, 47, 8, 390, 391, 392, 12, 393, 16, 17, 383, 34, 382, 165, 335, 35, 384, 385, 386, 57, 58, 352, 179, 180, 86, 181, 88, 182, 183, 184, 185, 115, 110, 186, 187, 188, 189, 190, 191, 192, 193, 194, 195, 196, 65, 197, 121, 198, 199, 200, 67, 201, 126, 202, 203, 394, 395, 396, 397, 398, 399, 427, 428, 429, 408, 409, 410, 411, 412, 413, 414, 415, 416, 417, 418, 419, 420, 421, 422, 423, 424, 425, 426] (by decide +kernel) (by decide +kernel)) (goodIn_sub (fun _ h => List.mem_cons_of_mem _ (List.mem_append_left _ (List.mem_append_right _ h))) (by decide +kernel))) (goodIn_sub (fun _ h => List.mem_cons_of_mem _ (List.mem_append_right _ h)) (by decide +kernel))
set_option maxRecDepth 20000 in
theorem gL_call_L_tryBack : GoodIn wsL_call (va_wsS RL 151 yL_tryBack wsL_tryBack) := goodIn_app (goodIn_of _ (by decide +kernel)) ggL_call_L_tryBack
theorem dL_call_0 : decode cL_call 0 = .ok (.iload_n 1, 1) := by decide +kernel
theorem dL_call_1 : decode cL_call 1 = .ok (.tableswitch 208 0 17 #[87, 93, 99, 106, 115, 122, 129, 136, 142, 151, 158, 167, 172, 177, 183, 189, 196, 202], 87) := by decide +kernel
theorem dL_call_88 : decode cL_call 88 = .ok (.aload_n 0, 1) := by decide +kernel
theorem dL_call_89 : decode cL_call 89 = .ok (.iload_n 2, 1) := by decide +kernel
theorem dL_call_90 : decode cL_call 90 = .ok (.invokestatic 91, 3) := by decide +kernel
theorem dL_call_93 : decode cL_call 93 = .ok (.ireturn, 1) := by decide +kernel
theorem dL_call_94 : decode cL_call 94 = .ok (.aload_n 0, 1) := by decide +kernel
theorem dL_call_95 : decode cL_call 95 = .ok (.iload_n 2, 1) := by decide +kernel
theorem dL_call_96 : decode cL_call 96 = .ok (.invokestatic 97, 3) := by decide +kernel
theorem dL_call_99 : decode cL_call 99 = .ok (.ireturn, 1) := by decide +kernel
theorem dL_call_100 : decode cL_call 100 = .ok (.aload_n 0, 1) := by decide +kernel
theorem dL_call_101 : decode cL_call 101 = .ok (.iload_n 2, 1) := by decide +kernel
theorem dL_call_102 : decode cL_call 102 = .ok (.iload_n 3, 1) := by decide +kernel
theorem dL_call_103 : decode cL_call 103 = .ok (.invokestatic 100, 3) := by decide +kernel
theorem dL_call_106 : decode cL_call 106 = .ok (.ireturn, 1) := by decide +kernel
theorem dL_call_107 : decode cL_call 107 = .ok (.aload_n 0, 1) := by decide +kernel
theorem dL_call_108 : decode cL_call 108 = .ok (.iload_n 2, 1) := by decide +kernel
theorem dL_call_109 : decode cL_call 109 = .ok (.iload_n 3, 1) := by decide +kernel
theorem dL_call_110 : decode cL_call 110 = .ok (.iload 4, 2) := by decide +kernel
theorem dL_call_112 : decode cL_call 112 = .ok (.invokestatic 104, 3) := by decide +kernel
theorem dL_call_115 : decode cL_call 115 = .ok (.ireturn, 1) := by decide +kernel
theorem dL_call_116 : decode cL_call 116 = .ok (.aload_n 0, 1) := by decide +kernel
theorem dL_call_117 : decode cL_call 117 = .ok (.iload_n 2, 1) := by decide +kernel
theorem dL_call_118 : decode cL_call 118 = .ok (.iload_n 3, 1) := by decide +kernel
theorem dL_call_119 : decode cL_call 119 = .ok (.invokestatic 108, 3) := by decide +kernel
theorem dL_call_122 : decode cL_call 122 = .ok (.ireturn, 1) := by decide +kernel
theorem dL_call_123 : decode cL_call 123 = .ok (.aload_n 0, 1) := by decide +kernel
theorem dL_call_124 : decode cL_call 124 = .ok (.iload_n 2, 1) := by decide +kernel
theorem dL_call_125 : decode cL_call 125 = .ok (.iload_n 3, 1) := by decide +kernel
theorem dL_call_126 : decode cL_call 126 = .ok (.invokestatic 111, 3) := by decide +kernel
theorem dL_call_129 : decode cL_call 129 = .ok (.ireturn, 1) := by decide +kernel
theorem dL_call_130 : decode cL_call 130 = .ok (.aload_n 0, 1) := by decide +kernel
theorem dL_call_131 : decode cL_call 131 = .ok (.iload_n 2, 1) := by decide +kernel
theorem dL_call_132 : decode cL_call 132 = .ok (.iload_n 3, 1) := by decide +kernel
theorem dL_call_133 : decode cL_call 133 = .ok (.invokestatic 114, 3) := by decide +kernel
theorem dL_call_136 : decode cL_call 136 = .ok (.ireturn, 1) := by decide +kernel
theorem dL_call_137 : decode cL_call 137 = .ok (.aload_n 0, 1) := by decide +kernel
theorem dL_call_138 : decode cL_call 138 = .ok (.iload_n 2, 1) := by decide +kernel
theorem dL_call_139 : decode cL_call 139 = .ok (.invokestatic 117, 3) := by decide +kernel
theorem dL_call_142 : decode cL_call 142 = .ok (.ireturn, 1) := by decide +kernel
theorem dL_call_143 : decode cL_call 143 = .ok (.aload_n 0, 1) := by decide +kernel
theorem dL_call_144 : decode cL_call 144 = .ok (.iload_n 2, 1) := by decide +kernel
theorem dL_call_145 : decode cL_call 145 = .ok (.iload_n 3, 1) := by decide +kernel
theorem dL_call_146 : decode cL_call 146 = .ok (.iload 4, 2) := by decide +kernel
theorem dL_call_148 : decode cL_call 148 = .ok (.invokestatic 120, 3) := by decide +kernel
theorem dL_call_151 : decode cL_call 151 = .ok (.ireturn, 1) := by decide +kernel
theorem dL_call_152 : decode cL_call 152 = .ok (.aload_n 0, 1) := by decide +kernel
theorem dL_call_153 : decode cL_call 153 = .ok (.iload_n 2, 1) := by decide +kernel
theorem dL_call_154 : decode cL_call 154 = .ok (.iload_n 3, 1) := by decide +kernel
theorem dL_call_155 : decode cL_call 155 = .ok (.invokestatic 123, 3) := by decide +kernel
theorem dL_call_158 : decode cL_call 158 = .ok (.ireturn, 1) := by decide +kernel
theorem dL_call_159 : decode cL_call 159 = .ok (.aload_n 0, 1) := by decide +kernel
theorem dL_call_160 : decode cL_call 160 = .ok (.iload_n 2, 1) := by decide +kernel
theorem dL_call_161 : decode cL_call 161 = .ok (.iload_n 3, 1) := by decide +kernel
theorem dL_call_162 : decode cL_call 162 = .ok (.iload 4, 2) := by decide +kernel
theorem dL_call_164 : decode cL_call 164 = .ok (.invokestatic 126, 3) := by decide +kernel
theorem dL_call_167 : decode cL_call 167 = .ok (.ireturn, 1) := by decide +kernel
theorem dL_call_168 : decode cL_call 168 = .ok (.aload_n 0, 1) := by decide +kernel
theorem dL_call_169 : decode cL_call 169 = .ok (.invokestatic 129, 3) := by decide +kernel
theorem dL_call_172 : decode cL_call 172 = .ok (.ireturn, 1) := by decide +kernel
theorem dL_call_173 : decode cL_call 173 = .ok (.aload_n 0, 1) := by decide +kernel
theorem dL_call_174 : decode cL_call 174 = .ok (.invokestatic 133, 3) := by decide +kernel
theorem dL_call_177 : decode cL_call 177 = .ok (.ireturn, 1) := by decide +kernel
theorem dL_call_178 : decode cL_call 178 = .ok (.aload_n 0, 1) := by decide +kernel
theorem dL_call_179 : decode cL_call 179 = .ok (.iload_n 2, 1) := by decide +kernel
theorem dL_call_180 : decode cL_call 180 = .ok (.invokestatic 136, 3) := by decide +kernel
theorem dL_call_183 : decode cL_call 183 = .ok (.ireturn, 1) := by decide +kernel
theorem dL_call_184 : decode cL_call 184 = .ok (.aload_n 0, 1) := by decide +kernel
theorem dL_call_185 : decode cL_call 185 = .ok (.iload_n 2, 1) := by decide +kernel
theorem dL_call_186 : decode cL_call 186 = .ok (.invokestatic 139, 3) := by decide +kernel
theorem dL_call_189 : decode cL_call 189 = .ok (.ireturn, 1) := by decide +kernel
theorem dL_call_190 : decode cL_call 190 = .ok (.aload_n 0, 1) := by decide +kernel
theorem dL_call_191 : decode cL_call 191 = .ok (.iload_n 2, 1) := by decide +kernel
theorem dL_call_192 : decode cL_call 192 = .ok (.iload_n 3, 1) := by decide +kernel
theorem dL_call_193 : decode cL_call 193 = .ok (.invokestatic 142, 3) := by decide +kernel
theorem dL_call_196 : decode cL_call 196 = .ok (.ireturn, 1) := by decide +kernel
theorem dL_call_197 : decode cL_call 197 = .ok (.aload_n 0, 1) := by decide +kernel
theorem dL_call_198 : decode cL_call 198 = .ok (.iload_n 2, 1) := by decide +kernel
theorem dL_call_199 : decode cL_call 199 = .ok (.invokestatic 145, 3) := by decide +kernel
theorem dL_call_202 : decode cL_call 202 = .ok (.ireturn, 1) := by decide +kernel
theorem dL_call_203 : decode cL_call 203 = .ok (.aload_n 0, 1) := by decide +kernel
theorem dL_call_204 : decode cL_call 204 = .ok (.iload_n 2, 1) := by decide +kernel
theorem dL_call_205 : decode cL_call 205 = .ok (.invokestatic 148, 3) := by decide +kernel
theorem dL_call_208 : decode cL_call 208 = .ok (.ireturn, 1) := by decide +kernel
theorem dL_call_209 : decode cL_call 209 = .ok (.aload_n 0, 1) := by decide +kernel
theorem dL_call_210 : decode cL_call 210 = .ok (.iload_n 2, 1) := by decide +kernel
theorem dL_call_211 : decode cL_call 211 = .ok (.invokestatic 151, 3) := by decide +kernel
theorem dL_call_214 : decode cL_call 214 = .ok (.ireturn, 1) := by decide +kernel
theorem dL_cell_0 : decode cL_cell 0 = .ok (.iload_n 1, 1) := by decide +kernel
theorem dL_cell_1 : decode cL_cell 1 = .ok (.aload_n 0, 1) := by decide +kernel
theorem dL_cell_2 : decode cL_cell 2 = .ok (.arraylength, 1) := by decide +kernel
theorem dL_cell_3 : decode cL_cell 3 = .ok (.if_icmp .ge 9, 3) := by decide +kernel
theorem dL_cell_6 : decode cL_cell 6 = .ok (.aload_n 0, 1) := by decide +kernel
theorem dL_cell_7 : decode cL_cell 7 = .ok (.iload_n 1, 1) := by decide +kernel
theorem dL_cell_8 : decode cL_cell 8 = .ok (.iaload, 1) := by decide +kernel
theorem dL_cell_9 : decode cL_cell 9 = .ok (.goto 13, 3) := by decide +kernel
theorem dL_cell_12 : decode cL_cell 12 = .ok (.ldc 154, 2) := by decide +kernel
theorem dL_cell_14 : decode cL_cell 14 = .ok (.iload_n 1, 1) := by decide +kernel
theorem dL_cell_15 : decode cL_cell 15 = .ok (.iconst 3, 1) := by decide +kernel
theorem dL_cell_16 : decode cL_cell 16 = .ok (.iadd, 1) := by decide +kernel
theorem dL_cell_17 : decode cL_cell 17 = .ok (.imul, 1) := by decide +kernel
theorem dL_cell_18 : decode cL_cell 18 = .ok (.sipush 10433, 3) := by decide +kernel
theorem dL_cell_21 : decode cL_cell 21 = .ok (.iadd, 1) := by decide +kernel
theorem dL_cell_22 : decode cL_cell 22 = .ok (.ldc 155, 2) := by decide +kernel
theorem dL_cell_24 : decode cL_cell 24 = .ok (.iand, 1) := by decide +kernel
theorem dL_cell_25 : decode cL_cell 25 = .ok (.ireturn, 1) := by decide +kernel
