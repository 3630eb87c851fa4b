theorem dX0_init_0 : decode cX0_init 0 = .ok (.aload_n 0, 1) := by decide +kernel
theorem dX0_init_1 : decode cX0_init 1 = .ok (.invokespecial 3, 3) := by decide +kernel
theorem dX0_init_4 : decode cX0_init 4 = .ok (.aload_n 0, 1) := by decide +kernel
theorem dX0_init_5 : decode cX0_init 5 = .ok (.iconst 3, 1) := by decide +kernel
theorem dX0_init_6 : decode cX0_init 6 = .ok (.newarray .int, 2) := by decide +kernel
theorem dX0_init_8 : decode cX0_init 8 = .ok (.putfield 9, 3) := by decide +kernel
theorem dX0_init_11 : decode cX0_init 11 = .ok (.aload_n 0, 1) := by decide +kernel
theorem dX0_init_12 : decode cX0_init 12 = .ok (.bipush 64, 2) := by decide +kernel
theorem dX0_init_14 : decode cX0_init 14 = .ok (.newarray .int, 2) := by decide +kernel
theorem dX0_init_16 : decode cX0_init 16 = .ok (.putfield 15, 3) := by decide +kernel
theorem dX0_init_19 : decode cX0_init 19 = .ok (.aload_n 0, 1) := by decide +kernel
theorem dX0_init_20 : decode cX0_init 20 = .ok (.bipush 64, 2) := by decide +kernel
theorem dX0_init_22 : decode cX0_init 22 = .ok (.newarray .int, 2) := by decide +kernel
theorem dX0_init_24 : decode cX0_init 24 = .ok (.putfield 18, 3) := by decide +kernel
theorem dX0_init_27 : decode cX0_init 27 = .ok (.aload_n 0, 1) := by decide +kernel
theorem dX0_init_28 : decode cX0_init 28 = .ok (.bipush 64, 2) := by decide +kernel
theorem dX0_init_30 : decode cX0_init 30 = .ok (.newarray .int, 2) := by decide +kernel
theorem dX0_init_32 : decode cX0_init 32 = .ok (.putfield 21, 3) := by decide +kernel
theorem dX0_init_35 : decode cX0_init 35 = .ok (.aload_n 0, 1) := by decide +kernel
theorem dX0_init_36 : decode cX0_init 36 = .ok (.bipush 64, 2) := by decide +kernel
theorem dX0_init_38 : decode cX0_init 38 = .ok (.newarray .int, 2) := by decide +kernel
theorem dX0_init_40 : decode cX0_init 40 = .ok (.putfield 24, 3) := by decide +kernel
theorem dX0_init_43 : decode cX0_init 43 = .ok (.aload_n 0, 1) := by decide +kernel
theorem dX0_init_44 : decode cX0_init 44 = .ok (.bipush 26, 2) := by decide +kernel
theorem dX0_init_46 : decode cX0_init 46 = .ok (.newarray .int, 2) := by decide +kernel
theorem dX0_init_48 : decode cX0_init 48 = .ok (.putfield 27, 3) := by decide +kernel
theorem dX0_init_51 : decode cX0_init 51 = .ok (.return_, 1) := by decide +kernel
theorem dX0_copyFrom_0 : decode cX0_copyFrom 0 = .ok (.aload_n 1, 1) := by decide +kernel
theorem dX0_copyFrom_1 : decode cX0_copyFrom 1 = .ok (.getfield 9, 3) := by decide +kernel
theorem dX0_copyFrom_4 : decode cX0_copyFrom 4 = .ok (.iconst 0, 1) := by decide +kernel
theorem dX0_copyFrom_5 : decode cX0_copyFrom 5 = .ok (.aload_n 0, 1) := by decide +kernel
theorem dX0_copyFrom_6 : decode cX0_copyFrom 6 = .ok (.getfield 9, 3) := by decide +kernel
theorem dX0_copyFrom_9 : decode cX0_copyFrom 9 = .ok (.iconst 0, 1) := by decide +kernel
theorem dX0_copyFrom_10 : decode cX0_copyFrom 10 = .ok (.iconst 3, 1) := by decide +kernel
theorem dX0_copyFrom_11 : decode cX0_copyFrom 11 = .ok (.invokestatic 30, 3) := by decide +kernel
theorem dX0_copyFrom_14 : decode cX0_copyFrom 14 = .ok (.aload_n 1, 1) := by decide +kernel
theorem dX0_copyFrom_15 : decode cX0_copyFrom 15 = .ok (.getfield 15, 3) := by decide +kernel
theorem dX0_copyFrom_18 : decode cX0_copyFrom 18 = .ok (.iconst 0, 1) := by decide +kernel
theorem dX0_copyFrom_19 : decode cX0_copyFrom 19 = .ok (.aload_n 0, 1) := by decide +kernel
theorem dX0_copyFrom_20 : decode cX0_copyFrom 20 = .ok (.getfield 15, 3) := by decide +kernel
theorem dX0_copyFrom_23 : decode cX0_copyFrom 23 = .ok (.iconst 0, 1) := by decide +kernel
theorem dX0_copyFrom_24 : decode cX0_copyFrom 24 = .ok (.bipush 64, 2) := by decide +kernel
theorem dX0_copyFrom_26 : decode cX0_copyFrom 26 = .ok (.invokestatic 30, 3) := by decide +kernel
theorem dX0_copyFrom_29 : decode cX0_copyFrom 29 = .ok (.aload_n 1, 1) := by decide +kernel
theorem dX0_copyFrom_30 : decode cX0_copyFrom 30 = .ok (.getfield 18, 3) := by decide +kernel
theorem dX0_copyFrom_33 : decode cX0_copyFrom 33 = .ok (.iconst 0, 1) := by decide +kernel
theorem dX0_copyFrom_34 : decode cX0_copyFrom 34 = .ok (.aload_n 0, 1) := by decide +kernel
theorem dX0_copyFrom_35 : decode cX0_copyFrom 35 = .ok (.getfield 18, 3) := by decide +kernel
theorem dX0_copyFrom_38 : decode cX0_copyFrom 38 = .ok (.iconst 0, 1) := by decide +kernel
theorem dX0_copyFrom_39 : decode cX0_copyFrom 39 = .ok (.bipush 64, 2) := by decide +kernel
theorem dX0_copyFrom_41 : decode cX0_copyFrom 41 = .ok (.invokestatic 30, 3) := by decide +kernel
theorem dX0_copyFrom_44 : decode cX0_copyFrom 44 = .ok (.aload_n 1, 1) := by decide +kernel
theorem dX0_copyFrom_45 : decode cX0_copyFrom 45 = .ok (.getfield 21, 3) := by decide +kernel
theorem dX0_copyFrom_48 : decode cX0_copyFrom 48 = .ok (.iconst 0, 1) := by decide +kernel
theorem dX0_copyFrom_49 : decode cX0_copyFrom 49 = .ok (.aload_n 0, 1) := by decide +kernel
theorem dX0_copyFrom_50 : decode cX0_copyFrom 50 = .ok (.getfield 21, 3) := by decide +kernel
theorem dX0_copyFrom_53 : decode cX0_copyFrom 53 = .ok (.iconst 0, 1) := by decide +kernel
theorem dX0_copyFrom_54 : decode cX0_copyFrom 54 = .ok (.bipush 64, 2) := by decide +kernel
theorem dX0_copyFrom_56 : decode cX0_copyFrom 56 = .ok (.invokestatic 30, 3) := by decide +kernel
theorem dX0_copyFrom_59 : decode cX0_copyFrom 59 = .ok (.aload_n 1, 1) := by decide +kernel
theorem dX0_copyFrom_60 : decode cX0_copyFrom 60 = .ok (.getfield 24, 3) := by decide +kernel
theorem dX0_copyFrom_63 : decode cX0_copyFrom 63 = .ok (.iconst 0, 1) := by decide +kernel
theorem dX0_copyFrom_64 : decode cX0_copyFrom 64 = .ok (.aload_n 0, 1) := by decide +kernel
theorem dX0_copyFrom_65 : decode cX0_copyFrom 65 = .ok (.getfield 24, 3) := by decide +kernel
theorem dX0_copyFrom_68 : decode cX0_copyFrom 68 = .ok (.iconst 0, 1) := by decide +kernel
theorem dX0_copyFrom_69 : decode cX0_copyFrom 69 = .ok (.bipush 64, 2) := by decide +kernel
theorem dX0_copyFrom_71 : decode cX0_copyFrom 71 = .ok (.invokestatic 30, 3) := by decide +kernel
theorem dX0_copyFrom_74 : decode cX0_copyFrom 74 = .ok (.aload_n 1, 1) := by decide +kernel
theorem dX0_copyFrom_75 : decode cX0_copyFrom 75 = .ok (.getfield 27, 3) := by decide +kernel
theorem dX0_copyFrom_78 : decode cX0_copyFrom 78 = .ok (.iconst 0, 1) := by decide +kernel
theorem dX0_copyFrom_79 : decode cX0_copyFrom 79 = .ok (.aload_n 0, 1) := by decide +kernel
theorem dX0_copyFrom_80 : decode cX0_copyFrom 80 = .ok (.getfield 27, 3) := by decide +kernel
theorem dX0_copyFrom_83 : decode cX0_copyFrom 83 = .ok (.iconst 0, 1) := by decide +kernel
theorem dX0_copyFrom_84 : decode cX0_copyFrom 84 = .ok (.bipush 26, 2) := by decide +kernel
theorem dX0_copyFrom_86 : decode cX0_copyFrom 86 = .ok (.invokestatic 30, 3) := by decide +kernel
theorem dX0_copyFrom_89 : decode cX0_copyFrom 89 = .ok (.aload_n 0, 1) := by decide +kernel
theorem dX0_copyFrom_90 : decode cX0_copyFrom 90 = .ok (.aload_n 1, 1) := by decide +kernel
theorem dX0_copyFrom_91 : decode cX0_copyFrom 91 = .ok (.getfield 36, 3) := by decide +kernel
theorem dX0_copyFrom_94 : decode cX0_copyFrom 94 = .ok (.putfield 36, 3) := by decide +kernel
theorem dX0_copyFrom_97 : decode cX0_copyFrom 97 = .ok (.aload_n 0, 1) := by decide +kernel
theorem dX0_copyFrom_98 : decode cX0_copyFrom 98 = .ok (.aload_n 1, 1) := by decide +kernel
theorem dX0_copyFrom_99 : decode cX0_copyFrom 99 = .ok (.getfield 40, 3) := by decide +kernel
theorem dX0_copyFrom_102 : decode cX0_copyFrom 102 = .ok (.putfield 40, 3) := by decide +kernel
theorem dX0_copyFrom_105 : decode cX0_copyFrom 105 = .ok (.return_, 1) := by decide +kernel
set_option maxRecDepth 20000 in
theorem ggX0_beginAnew_J7_fill_53178 : GoodIn wsX0_beginAnew wsJ7_fill_53178 := goodIn_r _ [12] (by decide +kernel) (by decide +kernel)
set_option maxRecDepth 20000 in
theorem gX0_beginAnew_J7_fill_53178 : GoodIn wsX0_beginAnew (va_wsS RX0 43 yJ7_fill_53178 wsJ7_fill_53178) := goodIn_app (goodIn_of _ (by decide +kernel)) ggX0_beginAnew_J7_fill_53178
theorem dX0_beginAnew_0 : decode cX0_beginAnew 0 = .ok (.aload_n 0, 1) := by decide +kernel
theorem dX0_beginAnew_1 : decode cX0_beginAnew 1 = .ok (.getfield 15, 3) := by decide +kernel
theorem dX0_beginAnew_4 : decode cX0_beginAnew 4 = .ok (.iload_n 1, 1) := by decide +kernel
theorem dX0_beginAnew_5 : decode cX0_beginAnew 5 = .ok (.iconst 1, 1) := by decide +kernel
theorem dX0_beginAnew_6 : decode cX0_beginAnew 6 = .ok (.isub, 1) := by decide +kernel
theorem dX0_beginAnew_7 : decode cX0_beginAnew 7 = .ok (.invokestatic 43, 3) := by decide +kernel
theorem dX0_beginAnew_10 : decode cX0_beginAnew 10 = .ok (.aload_n 0, 1) := by decide +kernel
theorem dX0_beginAnew_11 : decode cX0_beginAnew 11 = .ok (.getfield 18, 3) := by decide +kernel
theorem dX0_beginAnew_14 : decode cX0_beginAnew 14 = .ok (.ldc 49, 2) := by decide +kernel
theorem dX0_beginAnew_16 : decode cX0_beginAnew 16 = .ok (.invokestatic 43, 3) := by decide +kernel
theorem dX0_beginAnew_19 : decode cX0_beginAnew 19 = .ok (.aload_n 0, 1) := by decide +kernel
theorem dX0_beginAnew_20 : decode cX0_beginAnew 20 = .ok (.getfield 21, 3) := by decide +kernel
theorem dX0_beginAnew_23 : decode cX0_beginAnew 23 = .ok (.iconst 0, 1) := by decide +kernel
theorem dX0_beginAnew_24 : decode cX0_beginAnew 24 = .ok (.invokestatic 43, 3) := by decide +kernel
theorem dX0_beginAnew_27 : decode cX0_beginAnew 27 = .ok (.aload_n 0, 1) := by decide +kernel
theorem dX0_beginAnew_28 : decode cX0_beginAnew 28 = .ok (.getfield 24, 3) := by decide +kernel
theorem dX0_beginAnew_31 : decode cX0_beginAnew 31 = .ok (.iconst 0, 1) := by decide +kernel
theorem dX0_beginAnew_32 : decode cX0_beginAnew 32 = .ok (.invokestatic 43, 3) := by decide +kernel
theorem dX0_beginAnew_35 : decode cX0_beginAnew 35 = .ok (.aload_n 0, 1) := by decide +kernel
theorem dX0_beginAnew_36 : decode cX0_beginAnew 36 = .ok (.getfield 27, 3) := by decide +kernel
theorem dX0_beginAnew_39 : decode cX0_beginAnew 39 = .ok (.iconst 0, 1) := by decide +kernel
theorem dX0_beginAnew_40 : decode cX0_beginAnew 40 = .ok (.invokestatic 43, 3) := by decide +kernel
theorem dX0_beginAnew_43 : decode cX0_beginAnew 43 = .ok (.aload_n 0, 1) := by decide +kernel
theorem dX0_beginAnew_44 : decode cX0_beginAnew 44 = .ok (.iconst 0, 1) := by decide +kernel
theorem dX0_beginAnew_45 : decode cX0_beginAnew 45 = .ok (.putfield 36, 3) := by decide +kernel
theorem dX0_beginAnew_48 : decode cX0_beginAnew 48 = .ok (.aload_n 0, 1) := by decide +kernel
theorem dX0_beginAnew_49 : decode cX0_beginAnew 49 = .ok (.iconst 0, 1) := by decide +kernel
theorem dX0_beginAnew_50 : decode cX0_beginAnew 50 = .ok (.putfield 40, 3) := by decide +kernel
theorem dX0_beginAnew_53 : decode cX0_beginAnew 53 = .ok (.return_, 1) := by decide +kernel
theorem dX0_countUsed_0 : decode cX0_countUsed 0 = .ok (.iconst 0, 1) := by decide +kernel
theorem dX0_countUsed_1 : decode cX0_countUsed 1 = .ok (.istore_n 1, 1) := by decide +kernel
theorem dX0_countUsed_2 : decode cX0_countUsed 2 = .ok (.iconst 0, 1) := by decide +kernel
theorem dX0_countUsed_3 : decode cX0_countUsed 3 = .ok (.istore_n 2, 1) := by decide +kernel
theorem dX0_countUsed_4 : decode cX0_countUsed 4 = .ok (.iload_n 2, 1) := by decide +kernel
theorem dX0_countUsed_5 : decode cX0_countUsed 5 = .ok (.bipush 64, 2) := by decide +kernel
theorem dX0_countUsed_7 : decode cX0_countUsed 7 = .ok (.if_icmp .ge 21, 3) := by decide +kernel
theorem dX0_countUsed_10 : decode cX0_countUsed 10 = .ok (.aload_n 0, 1) := by decide +kernel
theorem dX0_countUsed_11 : decode cX0_countUsed 11 = .ok (.getfield 21, 3) := by decide +kernel
theorem dX0_countUsed_14 : decode cX0_countUsed 14 = .ok (.iload_n 2, 1) := by decide +kernel
theorem dX0_countUsed_15 : decode cX0_countUsed 15 = .ok (.iaload, 1) := by decide +kernel
theorem dX0_countUsed_16 : decode cX0_countUsed 16 = .ok (.ifCond .le 6, 3) := by decide +kernel
theorem dX0_countUsed_19 : decode cX0_countUsed 19 = .ok (.iinc 1 1, 3) := by decide +kernel
theorem dX0_countUsed_22 : decode cX0_countUsed 22 = .ok (.iinc 2 1, 3) := by decide +kernel
theorem dX0_countUsed_25 : decode cX0_countUsed 25 = .ok (.goto (-21), 3) := by decide +kernel
theorem dX0_countUsed_28 : decode cX0_countUsed 28 = .ok (.iload_n 1, 1) := by decide +kernel
theorem dX0_countUsed_29 : decode cX0_countUsed 29 = .ok (.ireturn, 1) := by decide +kernel
theorem dX0_pathFor_0 : decode cX0_pathFor 0 = .ok (.aload_n 0, 1) := by decide +kernel
theorem dX0_pathFor_1 : decode cX0_pathFor 1 = .ok (.getfield 27, 3) := by decide +kernel
theorem dX0_pathFor_4 : decode cX0_pathFor 4 = .ok (.aload_n 0, 1) := by decide +kernel
theorem dX0_pathFor_5 : decode cX0_pathFor 5 = .ok (.getfield 9, 3) := by decide +kernel
theorem dX0_pathFor_8 : decode cX0_pathFor 8 = .ok (.iconst 2, 1) := by decide +kernel
theorem dX0_pathFor_9 : decode cX0_pathFor 9 = .ok (.iaload, 1) := by decide +kernel
theorem dX0_pathFor_10 : decode cX0_pathFor 10 = .ok (.iconst 1, 1) := by decide +kernel
theorem dX0_pathFor_11 : decode cX0_pathFor 11 = .ok (.if_icmp .ne 7, 3) := by decide +kernel
theorem dX0_pathFor_14 : decode cX0_pathFor 14 = .ok (.iload_n 1, 1) := by decide +kernel
theorem dX0_pathFor_15 : decode cX0_pathFor 15 = .ok (.goto 4, 3) := by decide +kernel
theorem dX0_pathFor_18 : decode cX0_pathFor 18 = .ok (.iconst 0, 1) := by decide +kernel
theorem dX0_pathFor_19 : decode cX0_pathFor 19 = .ok (.iaload, 1) := by decide +kernel
theorem dX0_pathFor_20 : decode cX0_pathFor 20 = .ok (.ireturn, 1) := by decide +kernel
set_option maxRecDepth 20000 in
theorem ggX0_noteFor_X0_pathFor : GoodIn wsX0_noteFor wsX0_pathFor := goodIn_r _ [6, 7, 1, 8, 9, 10, 11, 12, 13, 14, 15] (by decide +kernel) (by decide +kernel)
set_option maxRecDepth 20000 in
theorem gX0_noteFor_X0_pathFor : GoodIn wsX0_noteFor (wsV RX0 50 RX0 yX0_pathFor wsX0_pathFor) := goodIn_app (goodIn_of _ (by decide +kernel)) ggX0_noteFor_X0_pathFor
theorem dX0_noteFor_0 : decode cX0_noteFor 0 = .ok (.aload_n 0, 1) := by decide +kernel
theorem dX0_noteFor_1 : decode cX0_noteFor 1 = .ok (.iload_n 1, 1) := by decide +kernel
theorem dX0_noteFor_2 : decode cX0_noteFor 2 = .ok (.invokevirtual 50, 3) := by decide +kernel
theorem dX0_noteFor_5 : decode cX0_noteFor 5 = .ok (.istore_n 3, 1) := by decide +kernel
theorem dX0_noteFor_6 : decode cX0_noteFor 6 = .ok (.aload_n 0, 1) := by decide +kernel
theorem dX0_noteFor_7 : decode cX0_noteFor 7 = .ok (.getfield 9, 3) := by decide +kernel
theorem dX0_noteFor_10 : decode cX0_noteFor 10 = .ok (.iconst 0, 1) := by decide +kernel
theorem dX0_noteFor_11 : decode cX0_noteFor 11 = .ok (.iaload, 1) := by decide +kernel
theorem dX0_noteFor_12 : decode cX0_noteFor 12 = .ok (.tableswitch 60 0 3 #[32, 38, 44, 52], 32) := by decide +kernel
theorem dX0_noteFor_44 : decode cX0_noteFor 44 = .ok (.iload_n 1, 1) := by decide +kernel
theorem dX0_noteFor_45 : decode cX0_noteFor 45 = .ok (.istore 4, 2) := by decide +kernel
theorem dX0_noteFor_47 : decode cX0_noteFor 47 = .ok (.goto 37, 3) := by decide +kernel
theorem dX0_noteFor_50 : decode cX0_noteFor 50 = .ok (.iload_n 3, 1) := by decide +kernel
theorem dX0_noteFor_51 : decode cX0_noteFor 51 = .ok (.istore 4, 2) := by decide +kernel
theorem dX0_noteFor_53 : decode cX0_noteFor 53 = .ok (.goto 31, 3) := by decide +kernel
theorem dX0_noteFor_56 : decode cX0_noteFor 56 = .ok (.iload_n 1, 1) := by decide +kernel
theorem dX0_noteFor_57 : decode cX0_noteFor 57 = .ok (.iload_n 3, 1) := by decide +kernel
theorem dX0_noteFor_58 : decode cX0_noteFor 58 = .ok (.iadd, 1) := by decide +kernel
theorem dX0_noteFor_59 : decode cX0_noteFor 59 = .ok (.istore 4, 2) := by decide +kernel
theorem dX0_noteFor_61 : decode cX0_noteFor 61 = .ok (.goto 23, 3) := by decide +kernel
theorem dX0_noteFor_64 : decode cX0_noteFor 64 = .ok (.iload_n 1, 1) := by decide +kernel
theorem dX0_noteFor_65 : decode cX0_noteFor 65 = .ok (.iload_n 3, 1) := by decide +kernel
theorem dX0_noteFor_66 : decode cX0_noteFor 66 = .ok (.ixor, 1) := by decide +kernel
theorem dX0_noteFor_67 : decode cX0_noteFor 67 = .ok (.istore 4, 2) := by decide +kernel
theorem dX0_noteFor_69 : decode cX0_noteFor 69 = .ok (.goto 15, 3) := by decide +kernel
theorem dX0_noteFor_72 : decode cX0_noteFor 72 = .ok (.iload_n 1, 1) := by decide +kernel
theorem dX0_noteFor_73 : decode cX0_noteFor 73 = .ok (.aload_n 0, 1) := by decide +kernel
theorem dX0_noteFor_74 : decode cX0_noteFor 74 = .ok (.getfield 9, 3) := by decide +kernel
theorem dX0_noteFor_77 : decode cX0_noteFor 77 = .ok (.iconst 1, 1) := by decide +kernel
theorem dX0_noteFor_78 : decode cX0_noteFor 78 = .ok (.iaload, 1) := by decide +kernel
theorem dX0_noteFor_79 : decode cX0_noteFor 79 = .ok (.ishl, 1) := by decide +kernel
theorem dX0_noteFor_80 : decode cX0_noteFor 80 = .ok (.iload_n 3, 1) := by decide +kernel
theorem dX0_noteFor_81 : decode cX0_noteFor 81 = .ok (.iadd, 1) := by decide +kernel
theorem dX0_noteFor_82 : decode cX0_noteFor 82 = .ok (.istore 4, 2) := by decide +kernel
theorem dX0_noteFor_84 : decode cX0_noteFor 84 = .ok (.iload 4, 2) := by decide +kernel
theorem dX0_noteFor_86 : decode cX0_noteFor 86 = .ok (.iconst 1, 1) := by decide +kernel
theorem dX0_noteFor_87 : decode cX0_noteFor 87 = .ok (.iload_n 2, 1) := by decide +kernel
theorem dX0_noteFor_88 : decode cX0_noteFor 88 = .ok (.ishl, 1) := by decide +kernel
theorem dX0_noteFor_89 : decode cX0_noteFor 89 = .ok (.iconst 1, 1) := by decide +kernel
theorem dX0_noteFor_90 : decode cX0_noteFor 90 = .ok (.isub, 1) := by decide +kernel
theorem dX0_noteFor_91 : decode cX0_noteFor 91 = .ok (.iand, 1) := by decide +kernel
theorem dX0_noteFor_92 : decode cX0_noteFor 92 = .ok (.ireturn, 1) := by decide +kernel
theorem dX0_use_0 : decode cX0_use 0 = .ok (.aload_n 0, 1) := by decide +kernel
theorem dX0_use_1 : decode cX0_use 1 = .ok (.getfield 21, 3) := by decide +kernel
theorem dX0_use_4 : decode cX0_use 4 = .ok (.iload_n 1, 1) := by decide +kernel
theorem dX0_use_5 : decode cX0_use 5 = .ok (.iaload, 1) := by decide +kernel
theorem dX0_use_6 : decode cX0_use 6 = .ok (.ifCond .le 23, 3) := by decide +kernel
theorem dX0_use_9 : decode cX0_use 9 = .ok (.aload_n 0, 1) := by decide +kernel
theorem dX0_use_10 : decode cX0_use 10 = .ok (.getfield 18, 3) := by decide +kernel
theorem dX0_use_13 : decode cX0_use 13 = .ok (.iload_n 1, 1) := by decide +kernel
theorem dX0_use_14 : decode cX0_use 14 = .ok (.iaload, 1) := by decide +kernel
theorem dX0_use_15 : decode cX0_use 15 = .ok (.iload_n 2, 1) := by decide +kernel
theorem dX0_use_16 : decode cX0_use 16 = .ok (.if_icmp .eq 13, 3) := by decide +kernel
theorem dX0_use_19 : decode cX0_use 19 = .ok (.aload_n 0, 1) := by decide +kernel
theorem dX0_use_20 : decode cX0_use 20 = .ok (.dup, 1) := by decide +kernel
theorem dX0_use_21 : decode cX0_use 21 = .ok (.getfield 36, 3) := by decide +kernel
theorem dX0_use_24 : decode cX0_use 24 = .ok (.iconst 1, 1) := by decide +kernel
theorem dX0_use_25 : decode cX0_use 25 = .ok (.iadd, 1) := by decide +kernel
theorem dX0_use_26 : decode cX0_use 26 = .ok (.putfield 36, 3) := by decide +kernel
theorem dX0_use_29 : decode cX0_use 29 = .ok (.aload_n 0, 1) := by decide +kernel
theorem dX0_use_30 : decode cX0_use 30 = .ok (.getfield 21, 3) := by decide +kernel
theorem dX0_use_33 : decode cX0_use 33 = .ok (.iload_n 1, 1) := by decide +kernel
theorem dX0_use_34 : decode cX0_use 34 = .ok (.dup2, 1) := by decide +kernel
theorem dX0_use_35 : decode cX0_use 35 = .ok (.iaload, 1) := by decide +kernel
theorem dX0_use_36 : decode cX0_use 36 = .ok (.iconst 1, 1) := by decide +kernel
theorem dX0_use_37 : decode cX0_use 37 = .ok (.iadd, 1) := by decide +kernel
theorem dX0_use_38 : decode cX0_use 38 = .ok (.iastore, 1) := by decide +kernel
theorem dX0_use_39 : decode cX0_use 39 = .ok (.aload_n 0, 1) := by decide +kernel
theorem dX0_use_40 : decode cX0_use 40 = .ok (.getfield 18, 3) := by decide +kernel
theorem dX0_use_43 : decode cX0_use 43 = .ok (.iload_n 1, 1) := by decide +kernel
theorem dX0_use_44 : decode cX0_use 44 = .ok (.iload_n 2, 1) := by decide +kernel
theorem dX0_use_45 : decode cX0_use 45 = .ok (.iastore, 1) := by decide +kernel
theorem dX0_use_46 : decode cX0_use 46 = .ok (.aload_n 0, 1) := by decide +kernel
theorem dX0_use_47 : decode cX0_use 47 = .ok (.getfield 15, 3) := by decide +kernel
theorem dX0_use_50 : decode cX0_use 50 = .ok (.iload_n 1, 1) := by decide +kernel
theorem dX0_use_51 : decode cX0_use 51 = .ok (.iaload, 1) := by decide +kernel
theorem dX0_use_52 : decode cX0_use 52 = .ok (.iload 4, 2) := by decide +kernel
theorem dX0_use_54 : decode cX0_use 54 = .ok (.if_icmp .lt 7, 3) := by decide +kernel
theorem dX0_use_57 : decode cX0_use 57 = .ok (.iconst 1, 1) := by decide +kernel
theorem dX0_use_58 : decode cX0_use 58 = .ok (.goto 4, 3) := by decide +kernel
theorem dX0_use_61 : decode cX0_use 61 = .ok (.iconst 0, 1) := by decide +kernel
theorem dX0_use_62 : decode cX0_use 62 = .ok (.iload_n 3, 1) := by decide +kernel
theorem dX0_use_63 : decode cX0_use 63 = .ok (.if_icmp .ne 23, 3) := by decide +kernel
theorem dX0_use_66 : decode cX0_use 66 = .ok (.aload_n 0, 1) := by decide +kernel
theorem dX0_use_67 : decode cX0_use 67 = .ok (.getfield 24, 3) := by decide +kernel
theorem dX0_use_70 : decode cX0_use 70 = .ok (.iload_n 1, 1) := by decide +kernel
theorem dX0_use_71 : decode cX0_use 71 = .ok (.dup2, 1) := by decide +kernel
theorem dX0_use_72 : decode cX0_use 72 = .ok (.iaload, 1) := by decide +kernel
theorem dX0_use_73 : decode cX0_use 73 = .ok (.iconst 1, 1) := by decide +kernel
theorem dX0_use_74 : decode cX0_use 74 = .ok (.iadd, 1) := by decide +kernel
theorem dX0_use_75 : decode cX0_use 75 = .ok (.iastore, 1) := by decide +kernel
theorem dX0_use_76 : decode cX0_use 76 = .ok (.aload_n 0, 1) := by decide +kernel
theorem dX0_use_77 : decode cX0_use 77 = .ok (.dup, 1) := by decide +kernel
theorem dX0_use_78 : decode cX0_use 78 = .ok (.getfield 40, 3) := by decide +kernel
theorem dX0_use_81 : decode cX0_use 81 = .ok (.iconst 1, 1) := by decide +kernel
theorem dX0_use_82 : decode cX0_use 82 = .ok (.iadd, 1) := by decide +kernel
theorem dX0_use_83 : decode cX0_use 83 = .ok (.putfield 40, 3) := by decide +kernel
theorem dX0_use_86 : decode cX0_use 86 = .ok (.iload_n 3, 1) := by decide +kernel
theorem dX0_use_87 : decode cX0_use 87 = .ok (.ifCond .eq 29, 3) := by decide +kernel
theorem dX0_use_90 : decode cX0_use 90 = .ok (.aload_n 0, 1) := by decide +kernel
theorem dX0_use_91 : decode cX0_use 91 = .ok (.getfield 15, 3) := by decide +kernel
theorem dX0_use_94 : decode cX0_use 94 = .ok (.iload_n 1, 1) := by decide +kernel
theorem dX0_use_95 : decode cX0_use 95 = .ok (.aload_n 0, 1) := by decide +kernel
theorem dX0_use_96 : decode cX0_use 96 = .ok (.getfield 15, 3) := by decide +kernel
theorem dX0_use_99 : decode cX0_use 99 = .ok (.iload_n 1, 1) := by decide +kernel
theorem dX0_use_100 : decode cX0_use 100 = .ok (.iaload, 1) := by decide +kernel
theorem dX0_use_101 : decode cX0_use 101 = .ok (.iconst 1, 1) := by decide +kernel
theorem dX0_use_102 : decode cX0_use 102 = .ok (.iadd, 1) := by decide +kernel
theorem dX0_use_103 : decode cX0_use 103 = .ok (.iconst 2, 1) := by decide +kernel
theorem dX0_use_104 : decode cX0_use 104 = .ok (.iload 4, 2) := by decide +kernel
theorem dX0_use_106 : decode cX0_use 106 = .ok (.imul, 1) := by decide +kernel
theorem dX0_use_107 : decode cX0_use 107 = .ok (.iconst 1, 1) := by decide +kernel
theorem dX0_use_108 : decode cX0_use 108 = .ok (.isub, 1) := by decide +kernel
theorem dX0_use_109 : decode cX0_use 109 = .ok (.invokestatic 54, 3) := by decide +kernel
theorem dX0_use_112 : decode cX0_use 112 = .ok (.iastore, 1) := by decide +kernel
theorem dX0_use_113 : decode cX0_use 113 = .ok (.goto 21, 3) := by decide +kernel
theorem dX0_use_116 : decode cX0_use 116 = .ok (.aload_n 0, 1) := by decide +kernel
theorem dX0_use_117 : decode cX0_use 117 = .ok (.getfield 15, 3) := by decide +kernel
theorem dX0_use_120 : decode cX0_use 120 = .ok (.iload_n 1, 1) := by decide +kernel
theorem dX0_use_121 : decode cX0_use 121 = .ok (.aload_n 0, 1) := by decide +kernel
theorem dX0_use_122 : decode cX0_use 122 = .ok (.getfield 15, 3) := by decide +kernel
theorem dX0_use_125 : decode cX0_use 125 = .ok (.iload_n 1, 1) := by decide +kernel
theorem dX0_use_126 : decode cX0_use 126 = .ok (.iaload, 1) := by decide +kernel
theorem dX0_use_127 : decode cX0_use 127 = .ok (.iconst 1, 1) := by decide +kernel
theorem dX0_use_128 : decode cX0_use 128 = .ok (.isub, 1) := by decide +kernel
theorem dX0_use_129 : decode cX0_use 129 = .ok (.iconst 0, 1) := by decide +kernel
theorem dX0_use_130 : decode cX0_use 130 = .ok (.invokestatic 60, 3) := by decide +kernel
theorem dX0_use_133 : decode cX0_use 133 = .ok (.iastore, 1) := by decide +kernel
theorem dX0_use_134 : decode cX0_use 134 = .ok (.return_, 1) := by decide +kernel
set_option maxRecDepth 20000 in
theorem ggX0_changePath_X0_pathFor : GoodIn wsX0_changePath wsX0_pathFor := goodIn_r _ [7, 1, 2, 8, 9, 10, 11, 12, 13, 14, 15] (by decide +kernel) (by decide +kernel)
set_option maxRecDepth 20000 in
theorem gX0_changePath_X0_pathFor : GoodIn wsX0_changePath (wsV RX0 50 RX0 yX0_pathFor wsX0_pathFor) := goodIn_app (goodIn_of _ (by decide +kernel)) ggX0_changePath_X0_pathFor
theorem dX0_changePath_0 : decode cX0_changePath 0 = .ok (.iconst 2, 1) := by decide +kernel
theorem dX0_changePath_1 : decode cX0_changePath 1 = .ok (.aload_n 0, 1) := by decide +kernel
theorem dX0_changePath_2 : decode cX0_changePath 2 = .ok (.iload_n 1, 1) := by decide +kernel
theorem dX0_changePath_3 : decode cX0_changePath 3 = .ok (.invokevirtual 50, 3) := by decide +kernel
theorem dX0_changePath_6 : decode cX0_changePath 6 = .ok (.imul, 1) := by decide +kernel
theorem dX0_changePath_7 : decode cX0_changePath 7 = .ok (.iload_n 2, 1) := by decide +kernel
theorem dX0_changePath_8 : decode cX0_changePath 8 = .ok (.ifCond .eq 7, 3) := by decide +kernel
theorem dX0_changePath_11 : decode cX0_changePath 11 = .ok (.iconst 1, 1) := by decide +kernel
theorem dX0_changePath_12 : decode cX0_changePath 12 = .ok (.goto 4, 3) := by decide +kernel
theorem dX0_changePath_15 : decode cX0_changePath 15 = .ok (.iconst 0, 1) := by decide +kernel
theorem dX0_changePath_16 : decode cX0_changePath 16 = .ok (.iadd, 1) := by decide +kernel
theorem dX0_changePath_17 : decode cX0_changePath 17 = .ok (.istore_n 3, 1) := by decide +kernel
theorem dX0_changePath_18 : decode cX0_changePath 18 = .ok (.aload_n 0, 1) := by decide +kernel
theorem dX0_changePath_19 : decode cX0_changePath 19 = .ok (.getfield 27, 3) := by decide +kernel
theorem dX0_changePath_22 : decode cX0_changePath 22 = .ok (.aload_n 0, 1) := by decide +kernel
theorem dX0_changePath_23 : decode cX0_changePath 23 = .ok (.getfield 9, 3) := by decide +kernel
theorem dX0_changePath_26 : decode cX0_changePath 26 = .ok (.iconst 2, 1) := by decide +kernel
theorem dX0_changePath_27 : decode cX0_changePath 27 = .ok (.iaload, 1) := by decide +kernel
theorem dX0_changePath_28 : decode cX0_changePath 28 = .ok (.iconst 1, 1) := by decide +kernel
theorem dX0_changePath_29 : decode cX0_changePath 29 = .ok (.if_icmp .ne 7, 3) := by decide +kernel
theorem dX0_changePath_32 : decode cX0_changePath 32 = .ok (.iload_n 1, 1) := by decide +kernel
theorem dX0_changePath_33 : decode cX0_changePath 33 = .ok (.goto 4, 3) := by decide +kernel
theorem dX0_changePath_36 : decode cX0_changePath 36 = .ok (.iconst 0, 1) := by decide +kernel
theorem dX0_changePath_37 : decode cX0_changePath 37 = .ok (.iload_n 3, 1) := by decide +kernel
theorem dX0_changePath_38 : decode cX0_changePath 38 = .ok (.iconst 1, 1) := by decide +kernel
theorem dX0_changePath_39 : decode cX0_changePath 39 = .ok (.aload_n 0, 1) := by decide +kernel
theorem dX0_changePath_40 : decode cX0_changePath 40 = .ok (.getfield 9, 3) := by decide +kernel
theorem dX0_changePath_43 : decode cX0_changePath 43 = .ok (.iconst 1, 1) := by decide +kernel
theorem dX0_changePath_44 : decode cX0_changePath 44 = .ok (.iaload, 1) := by decide +kernel
theorem dX0_changePath_45 : decode cX0_changePath 45 = .ok (.ishl, 1) := by decide +kernel
theorem dX0_changePath_46 : decode cX0_changePath 46 = .ok (.iconst 1, 1) := by decide +kernel
theorem dX0_changePath_47 : decode cX0_changePath 47 = .ok (.isub, 1) := by decide +kernel
theorem dX0_changePath_48 : decode cX0_changePath 48 = .ok (.iand, 1) := by decide +kernel
theorem dX0_changePath_49 : decode cX0_changePath 49 = .ok (.iastore, 1) := by decide +kernel
theorem dX0_changePath_50 : decode cX0_changePath 50 = .ok (.return_, 1) := by decide +kernel
set_option maxRecDepth 20000 in
theorem ggX1_init_X3_init : GoodIn wsX1_init wsX3_init := goodIn_r _ [10, 11, 2, 3, 12, 13, 14, 15, 16, 17, 18, 19, 20, 21, 22, 23, 24, 25, 26, 27, 28, 29, 30, 31, 32, 33, 34, 7, 35, 36, 37, 38, 39, 40, 41, 42, 43, 44, 45, 46, 47, 48, 49, 50, 51, 52, 56, 57, 58, 59, 60, 61, 62, 63, 64, 65, 66, 67, 68, 69, 70, 71, 72, 73, 74] (by decide +kernel) (by decide +kernel)
set_option maxRecDepth 20000 in
theorem gX1_init_X3_init : GoodIn wsX1_init (wsX3_init) := ggX1_init_X3_init
theorem dX1_init_0 : decode cX1_init 0 = .ok (.aload_n 0, 1) := by decide +kernel
theorem dX1_init_1 : decode cX1_init 1 = .ok (.invokespecial 1, 3) := by decide +kernel
theorem dX1_init_4 : decode cX1_init 4 = .ok (.aload_n 0, 1) := by decide +kernel
theorem dX1_init_5 : decode cX1_init 5 = .ok (.bipush 14, 2) := by decide +kernel
theorem dX1_init_7 : decode cX1_init 7 = .ok (.anewarray 9, 3) := by decide +kernel
theorem dX1_init_10 : decode cX1_init 10 = .ok (.putfield 11, 3) := by decide +kernel
theorem dX1_init_13 : decode cX1_init 13 = .ok (.iconst 0, 1) := by decide +kernel
theorem dX1_init_14 : decode cX1_init 14 = .ok (.istore_n 1, 1) := by decide +kernel
theorem dX1_init_15 : decode cX1_init 15 = .ok (.iload_n 1, 1) := by decide +kernel
theorem dX1_init_16 : decode cX1_init 16 = .ok (.bipush 14, 2) := by decide +kernel
theorem dX1_init_18 : decode cX1_init 18 = .ok (.if_icmp .ge 22, 3) := by decide +kernel
theorem dX1_init_21 : decode cX1_init 21 = .ok (.aload_n 0, 1) := by decide +kernel
theorem dX1_init_22 : decode cX1_init 22 = .ok (.getfield 11, 3) := by decide +kernel
theorem dX1_init_25 : decode cX1_init 25 = .ok (.iload_n 1, 1) := by decide +kernel
theorem dX1_init_26 : decode cX1_init 26 = .ok (.new 9, 3) := by decide +kernel
theorem dX1_init_29 : decode cX1_init 29 = .ok (.dup, 1) := by decide +kernel
theorem dX1_init_30 : decode cX1_init 30 = .ok (.invokespecial 15, 3) := by decide +kernel
theorem dX1_init_33 : decode cX1_init 33 = .ok (.aastore, 1) := by decide +kernel
theorem dX1_init_34 : decode cX1_init 34 = .ok (.iinc 1 1, 3) := by decide +kernel
theorem dX1_init_37 : decode cX1_init 37 = .ok (.goto (-22), 3) := by decide +kernel
theorem dX1_init_40 : decode cX1_init 40 = .ok (.return_, 1) := by decide +kernel
set_option maxRecDepth 20000 in
theorem ggX1_remember_X3_copyFrom : GoodIn wsX1_remember wsX3_copyFrom := goodIn_r _ [8, 9, 10, 11, 12, 13, 14, 15, 16, 17, 18, 19, 20, 21, 22, 23, 24, 25, 26, 27, 28, 29, 30, 31, 32, 33, 34, 35, 36, 37, 41, 42, 43, 44, 45, 46, 47, 48, 49, 50, 51, 52, 53, 54, 55, 56, 57, 58, 59] (by decide +kernel) (by decide +kernel)
set_option maxRecDepth 20000 in
theorem gX1_remember_X3_copyFrom : GoodIn wsX1_remember (wsV RX1 23 RX3 yX3_copyFrom wsX3_copyFrom) := goodIn_app (goodIn_of _ (by decide +kernel)) ggX1_remember_X3_copyFrom
theorem dX1_remember_0 : decode cX1_remember 0 = .ok (.aload_n 0, 1) := by decide +kernel
theorem dX1_remember_1 : decode cX1_remember 1 = .ok (.getfield 16, 3) := by decide +kernel
theorem dX1_remember_4 : decode cX1_remember 4 = .ok (.bipush 14, 2) := by decide +kernel
theorem dX1_remember_6 : decode cX1_remember 6 = .ok (.if_icmp .ne 26, 3) := by decide +kernel
theorem dX1_remember_9 : decode cX1_remember 9 = .ok (.aload_n 0, 1) := by decide +kernel
theorem dX1_remember_10 : decode cX1_remember 10 = .ok (.aload_n 0, 1) := by decide +kernel
theorem dX1_remember_11 : decode cX1_remember 11 = .ok (.getfield 20, 3) := by decide +kernel
theorem dX1_remember_14 : decode cX1_remember 14 = .ok (.iconst 1, 1) := by decide +kernel
theorem dX1_remember_15 : decode cX1_remember 15 = .ok (.iadd, 1) := by decide +kernel
theorem dX1_remember_16 : decode cX1_remember 16 = .ok (.bipush 14, 2) := by decide +kernel
theorem dX1_remember_18 : decode cX1_remember 18 = .ok (.irem, 1) := by decide +kernel
theorem dX1_remember_19 : decode cX1_remember 19 = .ok (.putfield 20, 3) := by decide +kernel
theorem dX1_remember_22 : decode cX1_remember 22 = .ok (.aload_n 0, 1) := by decide +kernel
theorem dX1_remember_23 : decode cX1_remember 23 = .ok (.dup, 1) := by decide +kernel
theorem dX1_remember_24 : decode cX1_remember 24 = .ok (.getfield 16, 3) := by decide +kernel
theorem dX1_remember_27 : decode cX1_remember 27 = .ok (.iconst 1, 1) := by decide +kernel
theorem dX1_remember_28 : decode cX1_remember 28 = .ok (.isub, 1) := by decide +kernel
theorem dX1_remember_29 : decode cX1_remember 29 = .ok (.putfield 16, 3) := by decide +kernel
theorem dX1_remember_32 : decode cX1_remember 32 = .ok (.aload_n 0, 1) := by decide +kernel
theorem dX1_remember_33 : decode cX1_remember 33 = .ok (.getfield 11, 3) := by decide +kernel
theorem dX1_remember_36 : decode cX1_remember 36 = .ok (.aload_n 0, 1) := by decide +kernel
theorem dX1_remember_37 : decode cX1_remember 37 = .ok (.getfield 20, 3) := by decide +kernel
theorem dX1_remember_40 : decode cX1_remember 40 = .ok (.aload_n 0, 1) := by decide +kernel
theorem dX1_remember_41 : decode cX1_remember 41 = .ok (.getfield 16, 3) := by decide +kernel
theorem dX1_remember_44 : decode cX1_remember 44 = .ok (.iadd, 1) := by decide +kernel
theorem dX1_remember_45 : decode cX1_remember 45 = .ok (.bipush 14, 2) := by decide +kernel
theorem dX1_remember_47 : decode cX1_remember 47 = .ok (.irem, 1) := by decide +kernel
theorem dX1_remember_48 : decode cX1_remember 48 = .ok (.aaload, 1) := by decide +kernel
theorem dX1_remember_49 : decode cX1_remember 49 = .ok (.aload_n 1, 1) := by decide +kernel
theorem dX1_remember_50 : decode cX1_remember 50 = .ok (.invokevirtual 23, 3) := by decide +kernel
theorem dX1_remember_53 : decode cX1_remember 53 = .ok (.aload_n 0, 1) := by decide +kernel
theorem dX1_remember_54 : decode cX1_remember 54 = .ok (.dup, 1) := by decide +kernel
theorem dX1_remember_55 : decode cX1_remember 55 = .ok (.getfield 16, 3) := by decide +kernel
theorem dX1_remember_58 : decode cX1_remember 58 = .ok (.iconst 1, 1) := by decide +kernel
theorem dX1_remember_59 : decode cX1_remember 59 = .ok (.iadd, 1) := by decide +kernel
theorem dX1_remember_60 : decode cX1_remember 60 = .ok (.putfield 16, 3) := by decide +kernel
theorem dX1_remember_63 : decode cX1_remember 63 = .ok (.return_, 1) := by decide +kernel
set_option maxRecDepth 20000 in
theorem ggX1_takeBack_X3_copyFrom : GoodIn wsX1_takeBack wsX3_copyFrom := goodIn_r _ [8, 9, 10, 11, 12, 13, 14, 15, 16, 17, 18, 19, 20, 21, 22, 23, 24, 25, 26, 27, 28, 29, 30, 31, 32, 33, 34, 35, 36, 37, 41, 42, 43, 44, 45, 46, 47, 48, 49, 50, 51, 52, 53, 54, 55, 56, 57, 58, 59] (by decide +kernel) (by decide +kernel)
set_option maxRecDepth 20000 in
theorem gX1_takeBack_X3_copyFrom : GoodIn wsX1_takeBack (wsV RX1 23 RX3 yX3_copyFrom wsX3_copyFrom) := goodIn_app (goodIn_of _ (by decide +kernel)) ggX1_takeBack_X3_copyFrom
theorem dX1_takeBack_0 : decode cX1_takeBack 0 = .ok (.aload_n 0, 1) := by decide +kernel
theorem dX1_takeBack_1 : decode cX1_takeBack 1 = .ok (.getfield 16, 3) := by decide +kernel
theorem dX1_takeBack_4 : decode cX1_takeBack 4 = .ok (.ifCond .ne 5, 3) := by decide +kernel
theorem dX1_takeBack_7 : decode cX1_takeBack 7 = .ok (.iconst 0, 1) := by decide +kernel
theorem dX1_takeBack_8 : decode cX1_takeBack 8 = .ok (.ireturn, 1) := by decide +kernel
theorem dX1_takeBack_9 : decode cX1_takeBack 9 = .ok (.aload_n 0, 1) := by decide +kernel
theorem dX1_takeBack_10 : decode cX1_takeBack 10 = .ok (.dup, 1) := by decide +kernel
theorem dX1_takeBack_11 : decode cX1_takeBack 11 = .ok (.getfield 16, 3) := by decide +kernel
theorem dX1_takeBack_14 : decode cX1_takeBack 14 = .ok (.iconst 1, 1) := by decide +kernel
theorem dX1_takeBack_15 : decode cX1_takeBack 15 = .ok (.isub, 1) := by decide +kernel
theorem dX1_takeBack_16 : decode cX1_takeBack 16 = .ok (.putfield 16, 3) := by decide +kernel
theorem dX1_takeBack_19 : decode cX1_takeBack 19 = .ok (.aload_n 1, 1) := by decide +kernel
theorem dX1_takeBack_20 : decode cX1_takeBack 20 = .ok (.aload_n 0, 1) := by decide +kernel
theorem dX1_takeBack_21 : decode cX1_takeBack 21 = .ok (.getfield 11, 3) := by decide +kernel
theorem dX1_takeBack_24 : decode cX1_takeBack 24 = .ok (.aload_n 0, 1) := by decide +kernel
theorem dX1_takeBack_25 : decode cX1_takeBack 25 = .ok (.getfield 20, 3) := by decide +kernel
theorem dX1_takeBack_28 : decode cX1_takeBack 28 = .ok (.aload_n 0, 1) := by decide +kernel
theorem dX1_takeBack_29 : decode cX1_takeBack 29 = .ok (.getfield 16, 3) := by decide +kernel
theorem dX1_takeBack_32 : decode cX1_takeBack 32 = .ok (.iadd, 1) := by decide +kernel
theorem dX1_takeBack_33 : decode cX1_takeBack 33 = .ok (.bipush 14, 2) := by decide +kernel
theorem dX1_takeBack_35 : decode cX1_takeBack 35 = .ok (.irem, 1) := by decide +kernel
theorem dX1_takeBack_36 : decode cX1_takeBack 36 = .ok (.aaload, 1) := by decide +kernel
theorem dX1_takeBack_37 : decode cX1_takeBack 37 = .ok (.invokevirtual 23, 3) := by decide +kernel
theorem dX1_takeBack_40 : decode cX1_takeBack 40 = .ok (.iconst 1, 1) := by decide +kernel
theorem dX1_takeBack_41 : decode cX1_takeBack 41 = .ok (.ireturn, 1) := by decide +kernel
set_option maxRecDepth 20000 in
theorem ggX2_succeeds_X2_goOften : GoodIn wsX2_succeeds wsX2_goOften := goodIn_r _ [8, 9, 10, 11, 12, 13, 14, 15, 16, 17, 18, 19, 20, 21, 22, 23, 24, 25, 26, 27, 28, 29, 30, 31, 32, 33, 34, 35, 36, 37, 38, 39, 40, 41, 42, 43, 44, 45, 46, 47, 48, 49, 50, 51, 52, 53, 54, 55, 56, 57, 58, 59, 60, 61, 62, 63, 64, 65, 66, 67, 68, 69, 70, 71, 72, 73, 74, 75, 76, 77, 78, 139, 140, 141, 142, 143, 144, 145, 146, 147, 148, 149, 150, 151, 152, 153, 154, 155, 156, 157] (by decide +kernel) (by decide +kernel)
set_option maxRecDepth 20000 in
theorem gX2_succeeds_X2_goOften : GoodIn wsX2_succeeds (va_wsS RX2 7 yX2_goOften wsX2_goOften) := goodIn_app (goodIn_of _ (by decide +kernel)) ggX2_succeeds_X2_goOften
set_option maxRecDepth 20000 in
theorem ggX2_succeeds_X2_changeDesk : GoodIn wsX2_succeeds wsX2_changeDesk := goodIn_r _ [81, 82, 10, 83, 84, 85, 86, 87, 88, 89, 15, 90, 18, 91, 92, 93, 94, 95, 19, 17, 41, 42, 44, 40, 43, 45, 46, 47, 96, 97, 98, 28, 99, 70, 68, 100, 67, 71, 35, 69, 72, 101, 102, 103, 104, 105, 139, 140, 141, 142, 143, 144, 145, 146, 147, 148, 149, 150, 151, 152, 153, 154, 155, 156, 157] (by decide +kernel) (by decide +kernel)
set_option maxRecDepth 20000 in
theorem gX2_succeeds_X2_changeDesk : GoodIn wsX2_succeeds (va_wsS RX2 13 yX2_changeDesk wsX2_changeDesk) := goodIn_app (goodIn_of _ (by decide +kernel)) ggX2_succeeds_X2_changeDesk
set_option maxRecDepth 20000 in
theorem ggX2_succeeds_X2_changeBoth : GoodIn wsX2_succeeds wsX2_changeBoth := goodIn_r _ [108, 109, 10, 110, 111, 112, 113, 114, 115, 15, 116, 19, 92, 93, 94, 95, 18, 17, 41, 42, 44, 40, 43, 45, 46, 47, 96, 97, 98, 28, 99, 70, 68, 100, 67, 71, 35, 69, 72, 101, 102, 103, 104, 105, 139, 140, 141, 142, 143, 144, 145, 146, 147, 148, 149, 150, 151, 152, 153, 154, 155, 156, 157] (by decide +kernel) (by decide +kernel)
set_option maxRecDepth 20000 in
theorem gX2_succeeds_X2_changeBoth : GoodIn wsX2_succeeds (va_wsS RX2 16 yX2_changeBoth wsX2_changeBoth) := goodIn_app (goodIn_of _ (by decide +kernel)) ggX2_succeeds_X2_changeBoth
set_option maxRecDepth 20000 in
theorem ggX2_succeeds_X2_forgetAll : GoodIn wsX2_succeeds wsX2_forgetAll := goodIn_r _ [119, 120, 93, 94, 15, 95, 18, 19, 17, 41, 42, 44, 40, 43, 45, 46, 47, 96, 97, 98, 28, 99, 70, 68, 100, 67, 71, 35, 69, 72, 101, 102, 103, 104, 105, 139, 140, 141, 142, 143, 144, 145, 146, 147, 148, 149, 150, 151, 152, 153, 154, 155, 156, 157] (by decide +kernel) (by decide +kernel)
set_option maxRecDepth 20000 in
theorem gX2_succeeds_X2_forgetAll : GoodIn wsX2_succeeds (va_wsS RX2 20 yX2_forgetAll wsX2_forgetAll) := goodIn_app (goodIn_of _ (by decide +kernel)) ggX2_succeeds_X2_forgetAll
set_option maxRecDepth 20000 in
theorem ggX2_succeeds_X2_makeStrength : GoodIn wsX2_succeeds wsX2_makeStrength := goodIn_r _ [123, 2, 3, 82, 10, 83, 124, 125, 126, 15, 127, 19, 128, 129, 130, 131, 139, 140, 141, 142, 143, 144, 145, 146, 147, 148, 149, 150, 151, 152, 153, 154, 155, 156, 157] (by decide +kernel) (by decide +kernel)
set_option maxRecDepth 20000 in
theorem gX2_succeeds_X2_makeStrength : GoodIn wsX2_succeeds (va_wsS RX2 24 yX2_makeStrength wsX2_makeStrength) := goodIn_app (goodIn_of _ (by decide +kernel)) ggX2_succeeds_X2_makeStrength
set_option maxRecDepth 20000 in
theorem ggX2_succeeds_X2_isGuess : GoodIn wsX2_succeeds wsX2_isGuess := goodIn_r _ [134, 9, 10, 11, 135, 136, 137, 15, 138, 17, 20, 21, 22, 23, 18, 24, 19, 25, 26, 27, 28, 29, 30, 31, 32, 33, 34, 35, 139, 140, 141, 142, 143, 144, 145, 146, 147, 148, 149, 150, 151, 152, 153, 154, 155, 156, 157] (by decide +kernel) (by decide +kernel)
set_option maxRecDepth 20000 in
theorem gX2_succeeds_X2_isGuess : GoodIn wsX2_succeeds (va_wsS RX2 27 yX2_isGuess wsX2_isGuess) := goodIn_app (goodIn_of _ (by decide +kernel)) ggX2_succeeds_X2_isGuess
set_option maxRecDepth 20000 in
theorem ggX2_succeeds_X5_isDesk : GoodIn wsX2_succeeds wsX5_isDesk := goodIn_r _ [83] (by decide +kernel) (by decide +kernel)
set_option maxRecDepth 20000 in
theorem gX2_succeeds_X5_isDesk_n36 : GoodIn wsX2_succeeds (wsX5_isDesk) := ggX2_succeeds_X5_isDesk
set_option maxRecDepth 20000 in
theorem ggX2_succeeds_X3_isNote : GoodIn wsX2_succeeds wsX3_isNote := goodIn_r _ [127, 19, 139, 140, 141, 142, 143, 144, 145, 146, 147, 148, 149] (by decide +kernel) (by decide +kernel)
set_option maxRecDepth 20000 in
theorem gX2_succeeds_X3_isNote : GoodIn wsX2_succeeds (wsV RX2 42 RX3 yX3_isNote wsX3_isNote) := goodIn_app (goodIn_of _ (by decide +kernel)) ggX2_succeeds_X3_isNote
theorem dX2_succeeds_0 : decode cX2_succeeds 0 = .ok (.iload_n 1, 1) := by decide +kernel
theorem dX2_succeeds_1 : decode cX2_succeeds 1 = .ok (.sipush 1000, 3) := by decide +kernel
theorem dX2_succeeds_4 : decode cX2_succeeds 4 = .ok (.idiv, 1) := by decide +kernel
theorem dX2_succeeds_5 : decode cX2_succeeds 5 = .ok (.bipush 10, 2) := by decide +kernel
theorem dX2_succeeds_7 : decode cX2_succeeds 7 = .ok (.irem, 1) := by decide +kernel
theorem dX2_succeeds_8 : decode cX2_succeeds 8 = .ok (.istore_n 2, 1) := by decide +kernel
theorem dX2_succeeds_9 : decode cX2_succeeds 9 = .ok (.iload_n 1, 1) := by decide +kernel
theorem dX2_succeeds_10 : decode cX2_succeeds 10 = .ok (.bipush 100, 2) := by decide +kernel
theorem dX2_succeeds_12 : decode cX2_succeeds 12 = .ok (.idiv, 1) := by decide +kernel
theorem dX2_succeeds_13 : decode cX2_succeeds 13 = .ok (.bipush 10, 2) := by decide +kernel
theorem dX2_succeeds_15 : decode cX2_succeeds 15 = .ok (.irem, 1) := by decide +kernel
theorem dX2_succeeds_16 : decode cX2_succeeds 16 = .ok (.istore_n 3, 1) := by decide +kernel
theorem dX2_succeeds_17 : decode cX2_succeeds 17 = .ok (.iload_n 1, 1) := by decide +kernel
theorem dX2_succeeds_18 : decode cX2_succeeds 18 = .ok (.bipush 10, 2) := by decide +kernel
theorem dX2_succeeds_20 : decode cX2_succeeds 20 = .ok (.idiv, 1) := by decide +kernel
theorem dX2_succeeds_21 : decode cX2_succeeds 21 = .ok (.bipush 10, 2) := by decide +kernel
theorem dX2_succeeds_23 : decode cX2_succeeds 23 = .ok (.irem, 1) := by decide +kernel
theorem dX2_succeeds_24 : decode cX2_succeeds 24 = .ok (.istore 4, 2) := by decide +kernel
theorem dX2_succeeds_26 : decode cX2_succeeds 26 = .ok (.iload_n 1, 1) := by decide +kernel
theorem dX2_succeeds_27 : decode cX2_succeeds 27 = .ok (.bipush 10, 2) := by decide +kernel
theorem dX2_succeeds_29 : decode cX2_succeeds 29 = .ok (.irem, 1) := by decide +kernel
theorem dX2_succeeds_30 : decode cX2_succeeds 30 = .ok (.istore 5, 2) := by decide +kernel
theorem dX2_succeeds_32 : decode cX2_succeeds 32 = .ok (.bipush 10, 2) := by decide +kernel
theorem dX2_succeeds_34 : decode cX2_succeeds 34 = .ok (.iload_n 2, 1) := by decide +kernel
theorem dX2_succeeds_35 : decode cX2_succeeds 35 = .ok (.imul, 1) := by decide +kernel
theorem dX2_succeeds_36 : decode cX2_succeeds 36 = .ok (.iload_n 3, 1) := by decide +kernel
theorem dX2_succeeds_37 : decode cX2_succeeds 37 = .ok (.iadd, 1) := by decide +kernel
theorem dX2_succeeds_38 : decode cX2_succeeds 38 = .ok (.istore 6, 2) := by decide +kernel
theorem dX2_succeeds_40 : decode cX2_succeeds 40 = .ok (.bipush 10, 2) := by decide +kernel
theorem dX2_succeeds_42 : decode cX2_succeeds 42 = .ok (.iload_n 3, 1) := by decide +kernel
theorem dX2_succeeds_43 : decode cX2_succeeds 43 = .ok (.imul, 1) := by decide +kernel
theorem dX2_succeeds_44 : decode cX2_succeeds 44 = .ok (.iload 4, 2) := by decide +kernel
theorem dX2_succeeds_46 : decode cX2_succeeds 46 = .ok (.iadd, 1) := by decide +kernel
theorem dX2_succeeds_47 : decode cX2_succeeds 47 = .ok (.istore 7, 2) := by decide +kernel
theorem dX2_succeeds_49 : decode cX2_succeeds 49 = .ok (.iload_n 1, 1) := by decide +kernel
theorem dX2_succeeds_50 : decode cX2_succeeds 50 = .ok (.sipush 10000, 3) := by decide +kernel
theorem dX2_succeeds_53 : decode cX2_succeeds 53 = .ok (.idiv, 1) := by decide +kernel
theorem dX2_succeeds_54 : decode cX2_succeeds 54 = .ok (.tableswitch 244 1 9 #[50, 61, 83, 108, 129, 139, 161, 183, 222], 50) := by decide +kernel
theorem dX2_succeeds_104 : decode cX2_succeeds 104 = .ok (.aload_n 0, 1) := by decide +kernel
theorem dX2_succeeds_105 : decode cX2_succeeds 105 = .ok (.iload 6, 2) := by decide +kernel
theorem dX2_succeeds_107 : decode cX2_succeeds 107 = .ok (.iload 4, 2) := by decide +kernel
theorem dX2_succeeds_109 : decode cX2_succeeds 109 = .ok (.iload 5, 2) := by decide +kernel
theorem dX2_succeeds_111 : decode cX2_succeeds 111 = .ok (.invokestatic 7, 3) := by decide +kernel
theorem dX2_succeeds_114 : decode cX2_succeeds 114 = .ok (.ireturn, 1) := by decide +kernel
theorem dX2_succeeds_115 : decode cX2_succeeds 115 = .ok (.iload 5, 2) := by decide +kernel
theorem dX2_succeeds_117 : decode cX2_succeeds 117 = .ok (.ifCond .ne 18, 3) := by decide +kernel
theorem dX2_succeeds_120 : decode cX2_succeeds 120 = .ok (.aload_n 0, 1) := by decide +kernel
theorem dX2_succeeds_121 : decode cX2_succeeds 121 = .ok (.iload_n 2, 1) := by decide +kernel
theorem dX2_succeeds_122 : decode cX2_succeeds 122 = .ok (.iload_n 3, 1) := by decide +kernel
theorem dX2_succeeds_123 : decode cX2_succeeds 123 = .ok (.iload 4, 2) := by decide +kernel
theorem dX2_succeeds_125 : decode cX2_succeeds 125 = .ok (.invokestatic 13, 3) := by decide +kernel
theorem dX2_succeeds_128 : decode cX2_succeeds 128 = .ok (.ifCond .eq 7, 3) := by decide +kernel
theorem dX2_succeeds_131 : decode cX2_succeeds 131 = .ok (.iconst 1, 1) := by decide +kernel
theorem dX2_succeeds_132 : decode cX2_succeeds 132 = .ok (.goto 4, 3) := by decide +kernel
theorem dX2_succeeds_135 : decode cX2_succeeds 135 = .ok (.iconst 0, 1) := by decide +kernel
theorem dX2_succeeds_136 : decode cX2_succeeds 136 = .ok (.ireturn, 1) := by decide +kernel
theorem dX2_succeeds_137 : decode cX2_succeeds 137 = .ok (.iload 4, 2) := by decide +kernel
theorem dX2_succeeds_139 : decode cX2_succeeds 139 = .ok (.ifCond .ne 21, 3) := by decide +kernel
theorem dX2_succeeds_142 : decode cX2_succeeds 142 = .ok (.iload 5, 2) := by decide +kernel
theorem dX2_succeeds_144 : decode cX2_succeeds 144 = .ok (.ifCond .ne 16, 3) := by decide +kernel
theorem dX2_succeeds_147 : decode cX2_succeeds 147 = .ok (.aload_n 0, 1) := by decide +kernel
theorem dX2_succeeds_148 : decode cX2_succeeds 148 = .ok (.iload_n 2, 1) := by decide +kernel
theorem dX2_succeeds_149 : decode cX2_succeeds 149 = .ok (.iload_n 3, 1) := by decide +kernel
theorem dX2_succeeds_150 : decode cX2_succeeds 150 = .ok (.invokestatic 16, 3) := by decide +kernel
theorem dX2_succeeds_153 : decode cX2_succeeds 153 = .ok (.ifCond .eq 7, 3) := by decide +kernel
theorem dX2_succeeds_156 : decode cX2_succeeds 156 = .ok (.iconst 1, 1) := by decide +kernel
theorem dX2_succeeds_157 : decode cX2_succeeds 157 = .ok (.goto 4, 3) := by decide +kernel
theorem dX2_succeeds_160 : decode cX2_succeeds 160 = .ok (.iconst 0, 1) := by decide +kernel
theorem dX2_succeeds_161 : decode cX2_succeeds 161 = .ok (.ireturn, 1) := by decide +kernel
theorem dX2_succeeds_162 : decode cX2_succeeds 162 = .ok (.iload_n 1, 1) := by decide +kernel
theorem dX2_succeeds_163 : decode cX2_succeeds 163 = .ok (.sipush 10000, 3) := by decide +kernel
theorem dX2_succeeds_166 : decode cX2_succeeds 166 = .ok (.irem, 1) := by decide +kernel
theorem dX2_succeeds_167 : decode cX2_succeeds 167 = .ok (.ifCond .ne 14, 3) := by decide +kernel
theorem dX2_succeeds_170 : decode cX2_succeeds 170 = .ok (.aload_n 0, 1) := by decide +kernel
theorem dX2_succeeds_171 : decode cX2_succeeds 171 = .ok (.invokestatic 20, 3) := by decide +kernel
theorem dX2_succeeds_174 : decode cX2_succeeds 174 = .ok (.ifCond .eq 7, 3) := by decide +kernel
theorem dX2_succeeds_177 : decode cX2_succeeds 177 = .ok (.iconst 1, 1) := by decide +kernel
theorem dX2_succeeds_178 : decode cX2_succeeds 178 = .ok (.goto 4, 3) := by decide +kernel
theorem dX2_succeeds_181 : decode cX2_succeeds 181 = .ok (.iconst 0, 1) := by decide +kernel
theorem dX2_succeeds_182 : decode cX2_succeeds 182 = .ok (.ireturn, 1) := by decide +kernel
theorem dX2_succeeds_183 : decode cX2_succeeds 183 = .ok (.aload_n 0, 1) := by decide +kernel
theorem dX2_succeeds_184 : decode cX2_succeeds 184 = .ok (.iload_n 2, 1) := by decide +kernel
theorem dX2_succeeds_185 : decode cX2_succeeds 185 = .ok (.iload 7, 2) := by decide +kernel
theorem dX2_succeeds_187 : decode cX2_succeeds 187 = .ok (.iload 5, 2) := by decide +kernel
theorem dX2_succeeds_189 : decode cX2_succeeds 189 = .ok (.invokestatic 24, 3) := by decide +kernel
theorem dX2_succeeds_192 : decode cX2_succeeds 192 = .ok (.ireturn, 1) := by decide +kernel
theorem dX2_succeeds_193 : decode cX2_succeeds 193 = .ok (.iload 5, 2) := by decide +kernel
theorem dX2_succeeds_195 : decode cX2_succeeds 195 = .ok (.ifCond .ne 18, 3) := by decide +kernel
theorem dX2_succeeds_198 : decode cX2_succeeds 198 = .ok (.aload_n 0, 1) := by decide +kernel
theorem dX2_succeeds_199 : decode cX2_succeeds 199 = .ok (.iload 6, 2) := by decide +kernel
theorem dX2_succeeds_201 : decode cX2_succeeds 201 = .ok (.iload 4, 2) := by decide +kernel
theorem dX2_succeeds_203 : decode cX2_succeeds 203 = .ok (.invokestatic 27, 3) := by decide +kernel
theorem dX2_succeeds_206 : decode cX2_succeeds 206 = .ok (.ifCond .eq 7, 3) := by decide +kernel
theorem dX2_succeeds_209 : decode cX2_succeeds 209 = .ok (.iconst 1, 1) := by decide +kernel
theorem dX2_succeeds_210 : decode cX2_succeeds 210 = .ok (.goto 4, 3) := by decide +kernel
theorem dX2_succeeds_213 : decode cX2_succeeds 213 = .ok (.iconst 0, 1) := by decide +kernel
theorem dX2_succeeds_214 : decode cX2_succeeds 214 = .ok (.ireturn, 1) := by decide +kernel
theorem dX2_succeeds_215 : decode cX2_succeeds 215 = .ok (.iload_n 2, 1) := by decide +kernel
theorem dX2_succeeds_216 : decode cX2_succeeds 216 = .ok (.ifCond .ne 19, 3) := by decide +kernel
theorem dX2_succeeds_219 : decode cX2_succeeds 219 = .ok (.aload_n 0, 1) := by decide +kernel
theorem dX2_succeeds_220 : decode cX2_succeeds 220 = .ok (.getfield 30, 3) := by decide +kernel
theorem dX2_succeeds_223 : decode cX2_succeeds 223 = .ok (.iload_n 1, 1) := by decide +kernel
theorem dX2_succeeds_224 : decode cX2_succeeds 224 = .ok (.sipush 1000, 3) := by decide +kernel
theorem dX2_succeeds_227 : decode cX2_succeeds 227 = .ok (.irem, 1) := by decide +kernel
theorem dX2_succeeds_228 : decode cX2_succeeds 228 = .ok (.if_icmp .lt 7, 3) := by decide +kernel
theorem dX2_succeeds_231 : decode cX2_succeeds 231 = .ok (.iconst 1, 1) := by decide +kernel
theorem dX2_succeeds_232 : decode cX2_succeeds 232 = .ok (.goto 4, 3) := by decide +kernel
theorem dX2_succeeds_235 : decode cX2_succeeds 235 = .ok (.iconst 0, 1) := by decide +kernel
theorem dX2_succeeds_236 : decode cX2_succeeds 236 = .ok (.ireturn, 1) := by decide +kernel
theorem dX2_succeeds_237 : decode cX2_succeeds 237 = .ok (.iload_n 2, 1) := by decide +kernel
theorem dX2_succeeds_238 : decode cX2_succeeds 238 = .ok (.invokestatic 36, 3) := by decide +kernel
theorem dX2_succeeds_241 : decode cX2_succeeds 241 = .ok (.ifCond .eq 33, 3) := by decide +kernel
theorem dX2_succeeds_244 : decode cX2_succeeds 244 = .ok (.aload_n 0, 1) := by decide +kernel
theorem dX2_succeeds_245 : decode cX2_succeeds 245 = .ok (.iload 7, 2) := by decide +kernel
theorem dX2_succeeds_247 : decode cX2_succeeds 247 = .ok (.invokevirtual 42, 3) := by decide +kernel
theorem dX2_succeeds_250 : decode cX2_succeeds 250 = .ok (.ifCond .eq 24, 3) := by decide +kernel
theorem dX2_succeeds_253 : decode cX2_succeeds 253 = .ok (.aload_n 0, 1) := by decide +kernel
theorem dX2_succeeds_254 : decode cX2_succeeds 254 = .ok (.getfield 45, 3) := by decide +kernel
theorem dX2_succeeds_257 : decode cX2_succeeds 257 = .ok (.iload_n 2, 1) := by decide +kernel
theorem dX2_succeeds_258 : decode cX2_succeeds 258 = .ok (.aaload, 1) := by decide +kernel
theorem dX2_succeeds_259 : decode cX2_succeeds 259 = .ok (.getfield 49, 3) := by decide +kernel
theorem dX2_succeeds_262 : decode cX2_succeeds 262 = .ok (.iload 7, 2) := by decide +kernel
theorem dX2_succeeds_264 : decode cX2_succeeds 264 = .ok (.iaload, 1) := by decide +kernel
theorem dX2_succeeds_265 : decode cX2_succeeds 265 = .ok (.iload 5, 2) := by decide +kernel
theorem dX2_succeeds_267 : decode cX2_succeeds 267 = .ok (.if_icmp .lt 7, 3) := by decide +kernel
theorem dX2_succeeds_270 : decode cX2_succeeds 270 = .ok (.iconst 1, 1) := by decide +kernel
theorem dX2_succeeds_271 : decode cX2_succeeds 271 = .ok (.goto 4, 3) := by decide +kernel
theorem dX2_succeeds_274 : decode cX2_succeeds 274 = .ok (.iconst 0, 1) := by decide +kernel
theorem dX2_succeeds_275 : decode cX2_succeeds 275 = .ok (.ireturn, 1) := by decide +kernel
theorem dX2_succeeds_276 : decode cX2_succeeds 276 = .ok (.iload 6, 2) := by decide +kernel
theorem dX2_succeeds_278 : decode cX2_succeeds 278 = .ok (.ifCond .ne 18, 3) := by decide +kernel
theorem dX2_succeeds_281 : decode cX2_succeeds 281 = .ok (.aload_n 0, 1) := by decide +kernel
theorem dX2_succeeds_282 : decode cX2_succeeds 282 = .ok (.getfield 55, 3) := by decide +kernel
theorem dX2_succeeds_285 : decode cX2_succeeds 285 = .ok (.iload_n 1, 1) := by decide +kernel
theorem dX2_succeeds_286 : decode cX2_succeeds 286 = .ok (.bipush 100, 2) := by decide +kernel
theorem dX2_succeeds_288 : decode cX2_succeeds 288 = .ok (.irem, 1) := by decide +kernel
theorem dX2_succeeds_289 : decode cX2_succeeds 289 = .ok (.if_icmp .lt 7, 3) := by decide +kernel
theorem dX2_succeeds_292 : decode cX2_succeeds 292 = .ok (.iconst 1, 1) := by decide +kernel
theorem dX2_succeeds_293 : decode cX2_succeeds 293 = .ok (.goto 4, 3) := by decide +kernel
theorem dX2_succeeds_296 : decode cX2_succeeds 296 = .ok (.iconst 0, 1) := by decide +kernel
theorem dX2_succeeds_297 : decode cX2_succeeds 297 = .ok (.ireturn, 1) := by decide +kernel
theorem dX2_succeeds_298 : decode cX2_succeeds 298 = .ok (.iconst 0, 1) := by decide +kernel
theorem dX2_succeeds_299 : decode cX2_succeeds 299 = .ok (.ireturn, 1) := by decide +kernel
set_option maxRecDepth 20000 in
theorem ggX2_goOften_X5_isPlace : GoodIn wsX2_goOften wsX5_isPlace := goodIn_r _ [3] (by decide +kernel) (by decide +kernel)
set_option maxRecDepth 20000 in
theorem gX2_goOften_X5_isPlace_n58 : GoodIn wsX2_goOften (wsX5_isPlace) := ggX2_goOften_X5_isPlace
set_option maxRecDepth 20000 in
theorem ggX2_goOften_X3_go : GoodIn wsX2_goOften wsX3_go := goodIn_r _ [8, 9, 10, 11, 12, 13, 14, 7, 15, 16, 17, 18, 19, 20, 21, 22, 23, 24, 25, 26, 27, 28, 29, 30, 31, 32, 33, 34, 35, 36, 37, 38, 39, 40, 41, 42, 43, 44, 45, 46, 47, 48, 49, 50, 51, 52, 53, 54, 55, 56, 57, 58, 59, 60, 61, 62, 63, 64, 65, 66, 67, 68, 69, 70, 71, 72, 73, 74, 75, 76, 77, 78, 79, 80, 81, 82, 83, 84, 85, 86, 87, 88, 89] (by decide +kernel) (by decide +kernel)
set_option maxRecDepth 20000 in
theorem gX2_goOften_X3_go : GoodIn wsX2_goOften (wsV RX2 61 RX3 yX3_go wsX3_go) := goodIn_app (goodIn_of _ (by decide +kernel)) ggX2_goOften_X3_go
theorem dX2_goOften_0 : decode cX2_goOften 0 = .ok (.iload_n 1, 1) := by decide +kernel
theorem dX2_goOften_1 : decode cX2_goOften 1 = .ok (.invokestatic 58, 3) := by decide +kernel
theorem dX2_goOften_4 : decode cX2_goOften 4 = .ok (.ifCond .eq 13, 3) := by decide +kernel
theorem dX2_goOften_7 : decode cX2_goOften 7 = .ok (.iload_n 2, 1) := by decide +kernel
theorem dX2_goOften_8 : decode cX2_goOften 8 = .ok (.iconst 1, 1) := by decide +kernel
theorem dX2_goOften_9 : decode cX2_goOften 9 = .ok (.if_icmp .gt 8, 3) := by decide +kernel
theorem dX2_goOften_12 : decode cX2_goOften 12 = .ok (.iload_n 3, 1) := by decide +kernel
theorem dX2_goOften_13 : decode cX2_goOften 13 = .ok (.iconst 1, 1) := by decide +kernel
theorem dX2_goOften_14 : decode cX2_goOften 14 = .ok (.if_icmp .ge 5, 3) := by decide +kernel
theorem dX2_goOften_17 : decode cX2_goOften 17 = .ok (.iconst 0, 1) := by decide +kernel
theorem dX2_goOften_18 : decode cX2_goOften 18 = .ok (.ireturn, 1) := by decide +kernel
theorem dX2_goOften_19 : decode cX2_goOften 19 = .ok (.iconst 0, 1) := by decide +kernel
theorem dX2_goOften_20 : decode cX2_goOften 20 = .ok (.istore 4, 2) := by decide +kernel
theorem dX2_goOften_22 : decode cX2_goOften 22 = .ok (.iload 4, 2) := by decide +kernel
theorem dX2_goOften_24 : decode cX2_goOften 24 = .ok (.iload_n 3, 1) := by decide +kernel
theorem dX2_goOften_25 : decode cX2_goOften 25 = .ok (.if_icmp .ge 25, 3) := by decide +kernel
theorem dX2_goOften_28 : decode cX2_goOften 28 = .ok (.aload_n 0, 1) := by decide +kernel
theorem dX2_goOften_29 : decode cX2_goOften 29 = .ok (.iload_n 1, 1) := by decide +kernel
theorem dX2_goOften_30 : decode cX2_goOften 30 = .ok (.iload_n 2, 1) := by decide +kernel
theorem dX2_goOften_31 : decode cX2_goOften 31 = .ok (.iconst 1, 1) := by decide +kernel
theorem dX2_goOften_32 : decode cX2_goOften 32 = .ok (.if_icmp .ne 7, 3) := by decide +kernel
theorem dX2_goOften_35 : decode cX2_goOften 35 = .ok (.iconst 1, 1) := by decide +kernel
theorem dX2_goOften_36 : decode cX2_goOften 36 = .ok (.goto 4, 3) := by decide +kernel
theorem dX2_goOften_39 : decode cX2_goOften 39 = .ok (.iconst 0, 1) := by decide +kernel
theorem dX2_goOften_40 : decode cX2_goOften 40 = .ok (.invokevirtual 61, 3) := by decide +kernel
theorem dX2_goOften_43 : decode cX2_goOften 43 = .ok (.pop, 1) := by decide +kernel
theorem dX2_goOften_44 : decode cX2_goOften 44 = .ok (.iinc 4 1, 3) := by decide +kernel
theorem dX2_goOften_47 : decode cX2_goOften 47 = .ok (.goto (-25), 3) := by decide +kernel
theorem dX2_goOften_50 : decode cX2_goOften 50 = .ok (.iconst 1, 1) := by decide +kernel
theorem dX2_goOften_51 : decode cX2_goOften 51 = .ok (.ireturn, 1) := by decide +kernel
set_option maxRecDepth 20000 in
theorem ggX2_changeDesk_X5_isDesk : GoodIn wsX2_changeDesk wsX5_isDesk := goodIn_r _ [3] (by decide +kernel) (by decide +kernel)
set_option maxRecDepth 20000 in
theorem gX2_changeDesk_X5_isDesk_n36 : GoodIn wsX2_changeDesk (wsX5_isDesk) := ggX2_changeDesk_X5_isDesk
set_option maxRecDepth 20000 in
theorem ggX2_changeDesk_X5_isDeskSetting : GoodIn wsX2_changeDesk wsX5_isDeskSetting := goodIn_r _ [5, 6] (by decide +kernel) (by decide +kernel)
set_option maxRecDepth 20000 in
theorem gX2_changeDesk_X5_isDeskSetting_n65 : GoodIn wsX2_changeDesk (wsX5_isDeskSetting) := ggX2_changeDesk_X5_isDeskSetting
set_option maxRecDepth 20000 in
theorem ggX2_changeDesk_X3_changeDesk : GoodIn wsX2_changeDesk wsX3_changeDesk := goodIn_r _ [11, 12, 13, 14, 15, 16, 10, 17, 18, 19, 20, 21, 22, 23, 24, 25, 26, 27, 28, 29, 30, 31, 32, 33, 34, 35, 36, 37, 38, 39, 40, 41, 42, 43, 44, 45, 46, 47, 48, 49, 50, 51, 52, 53, 54, 55, 56, 57, 58, 59, 60, 61, 62, 63, 64] (by decide +kernel) (by decide +kernel)
set_option maxRecDepth 20000 in
theorem gX2_changeDesk_X3_changeDesk : GoodIn wsX2_changeDesk (wsV RX2 69 RX3 yX3_changeDesk wsX3_changeDesk) := goodIn_app (goodIn_of _ (by decide +kernel)) ggX2_changeDesk_X3_changeDesk
theorem dX2_changeDesk_0 : decode cX2_changeDesk 0 = .ok (.iload_n 1, 1) := by decide +kernel
theorem dX2_changeDesk_1 : decode cX2_changeDesk 1 = .ok (.invokestatic 36, 3) := by decide +kernel
theorem dX2_changeDesk_4 : decode cX2_changeDesk 4 = .ok (.ifCond .eq 11, 3) := by decide +kernel
theorem dX2_changeDesk_7 : decode cX2_changeDesk 7 = .ok (.iload_n 2, 1) := by decide +kernel
theorem dX2_changeDesk_8 : decode cX2_changeDesk 8 = .ok (.iload_n 3, 1) := by decide +kernel
theorem dX2_changeDesk_9 : decode cX2_changeDesk 9 = .ok (.invokestatic 65, 3) := by decide +kernel
theorem dX2_changeDesk_12 : decode cX2_changeDesk 12 = .ok (.ifCond .ne 5, 3) := by decide +kernel
theorem dX2_changeDesk_15 : decode cX2_changeDesk 15 = .ok (.iconst 0, 1) := by decide +kernel
theorem dX2_changeDesk_16 : decode cX2_changeDesk 16 = .ok (.ireturn, 1) := by decide +kernel
theorem dX2_changeDesk_17 : decode cX2_changeDesk 17 = .ok (.aload_n 0, 1) := by decide +kernel
theorem dX2_changeDesk_18 : decode cX2_changeDesk 18 = .ok (.iload_n 1, 1) := by decide +kernel
theorem dX2_changeDesk_19 : decode cX2_changeDesk 19 = .ok (.iload_n 2, 1) := by decide +kernel
theorem dX2_changeDesk_20 : decode cX2_changeDesk 20 = .ok (.iload_n 3, 1) := by decide +kernel
theorem dX2_changeDesk_21 : decode cX2_changeDesk 21 = .ok (.invokevirtual 69, 3) := by decide +kernel
theorem dX2_changeDesk_24 : decode cX2_changeDesk 24 = .ok (.iconst 1, 1) := by decide +kernel
theorem dX2_changeDesk_25 : decode cX2_changeDesk 25 = .ok (.ireturn, 1) := by decide +kernel
set_option maxRecDepth 20000 in
theorem ggX2_changeBoth_X5_isCommonSetting : GoodIn wsX2_changeBoth wsX5_isCommonSetting := goodIn_r _ [3, 4, 5] (by decide +kernel) (by decide +kernel)
set_option maxRecDepth 20000 in
theorem gX2_changeBoth_X5_isCommonSetting_n72 : GoodIn wsX2_changeBoth (wsX5_isCommonSetting) := ggX2_changeBoth_X5_isCommonSetting
set_option maxRecDepth 20000 in
theorem ggX2_changeBoth_X3_changeBoth : GoodIn wsX2_changeBoth wsX3_changeBoth := goodIn_r _ [10, 11, 12, 13, 14, 9, 15, 16, 17, 18, 19, 20, 21, 22, 23, 24, 25, 26, 27, 28, 29, 30, 31, 32, 33, 34, 35, 36, 37, 38, 39, 40, 41, 42, 43, 44, 45, 46, 47, 48, 49, 50, 51, 52, 53, 54, 55, 56, 57, 58, 59, 60, 61, 62] (by decide +kernel) (by decide +kernel)
set_option maxRecDepth 20000 in
theorem gX2_changeBoth_X3_changeBoth : GoodIn wsX2_changeBoth (wsV RX2 75 RX3 yX3_changeBoth wsX3_changeBoth) := goodIn_app (goodIn_of _ (by decide +kernel)) ggX2_changeBoth_X3_changeBoth
theorem dX2_changeBoth_0 : decode cX2_changeBoth 0 = .ok (.iload_n 1, 1) := by decide +kernel
theorem dX2_changeBoth_1 : decode cX2_changeBoth 1 = .ok (.iload_n 2, 1) := by decide +kernel
theorem dX2_changeBoth_2 : decode cX2_changeBoth 2 = .ok (.invokestatic 72, 3) := by decide +kernel
theorem dX2_changeBoth_5 : decode cX2_changeBoth 5 = .ok (.ifCond .ne 5, 3) := by decide +kernel
theorem dX2_changeBoth_8 : decode cX2_changeBoth 8 = .ok (.iconst 0, 1) := by decide +kernel
theorem dX2_changeBoth_9 : decode cX2_changeBoth 9 = .ok (.ireturn, 1) := by decide +kernel
theorem dX2_changeBoth_10 : decode cX2_changeBoth 10 = .ok (.aload_n 0, 1) := by decide +kernel
theorem dX2_changeBoth_11 : decode cX2_changeBoth 11 = .ok (.iload_n 1, 1) := by decide +kernel
theorem dX2_changeBoth_12 : decode cX2_changeBoth 12 = .ok (.iload_n 2, 1) := by decide +kernel
theorem dX2_changeBoth_13 : decode cX2_changeBoth 13 = .ok (.invokevirtual 75, 3) := by decide +kernel
theorem dX2_changeBoth_16 : decode cX2_changeBoth 16 = .ok (.iconst 1, 1) := by decide +kernel
theorem dX2_changeBoth_17 : decode cX2_changeBoth 17 = .ok (.ireturn, 1) := by decide +kernel
set_option maxRecDepth 20000 in
theorem ggX2_forgetAll_X3_beginAnew : GoodIn wsX2_forgetAll wsX3_beginAnew := goodIn_r _ [5, 6, 7, 8, 9, 10, 11, 12, 13, 14, 15, 16, 17, 18, 19, 20, 21, 22, 23, 24, 25, 26, 27, 28, 29, 30, 31, 32, 33, 34, 35, 36, 37, 38, 39, 40, 41, 42, 43, 44, 45, 46, 47, 48, 49, 50, 51, 52, 53] (by decide +kernel) (by decide +kernel)
set_option maxRecDepth 20000 in
theorem gX2_forgetAll_X3_beginAnew : GoodIn wsX2_forgetAll (wsV RX2 78 RX3 yX3_beginAnew wsX3_beginAnew) := goodIn_app (goodIn_of _ (by decide +kernel)) ggX2_forgetAll_X3_beginAnew
theorem dX2_forgetAll_0 : decode cX2_forgetAll 0 = .ok (.aload_n 0, 1) := by decide +kernel
theorem dX2_forgetAll_1 : decode cX2_forgetAll 1 = .ok (.invokevirtual 78, 3) := by decide +kernel
theorem dX2_forgetAll_4 : decode cX2_forgetAll 4 = .ok (.iconst 1, 1) := by decide +kernel
theorem dX2_forgetAll_5 : decode cX2_forgetAll 5 = .ok (.ireturn, 1) := by decide +kernel
set_option maxRecDepth 20000 in
theorem ggX2_makeStrength_X5_isDesk : GoodIn wsX2_makeStrength wsX5_isDesk := goodIn_r _ [5] (by decide +kernel) (by decide +kernel)
set_option maxRecDepth 20000 in
theorem gX2_makeStrength_X5_isDesk_n36 : GoodIn wsX2_makeStrength (wsX5_isDesk) := ggX2_makeStrength_X5_isDesk
set_option maxRecDepth 20000 in
theorem ggX2_makeStrength_X3_isNote : GoodIn wsX2_makeStrength wsX3_isNote := goodIn_r _ [10, 11, 16, 17, 18, 19, 20, 21, 22, 23, 24, 25, 26] (by decide +kernel) (by decide +kernel)
set_option maxRecDepth 20000 in
theorem gX2_makeStrength_X3_isNote : GoodIn wsX2_makeStrength (wsV RX2 42 RX3 yX3_isNote wsX3_isNote) := goodIn_app (goodIn_of _ (by decide +kernel)) ggX2_makeStrength_X3_isNote
set_option maxRecDepth 20000 in
theorem ggX2_makeStrength_X3_isStrength : GoodIn wsX2_makeStrength wsX3_isStrength := goodIn_r _ [15, 11, 16, 17, 18, 19, 20, 21, 22, 23, 24, 25, 26] (by decide +kernel) (by decide +kernel)
set_option maxRecDepth 20000 in
theorem gX2_makeStrength_X3_isStrength : GoodIn wsX2_makeStrength (wsV RX2 81 RX3 yX3_isStrength wsX3_isStrength) := goodIn_app (goodIn_of _ (by decide +kernel)) ggX2_makeStrength_X3_isStrength
theorem dX2_makeStrength_0 : decode cX2_makeStrength 0 = .ok (.iload_n 1, 1) := by decide +kernel
theorem dX2_makeStrength_1 : decode cX2_makeStrength 1 = .ok (.invokestatic 36, 3) := by decide +kernel
theorem dX2_makeStrength_4 : decode cX2_makeStrength 4 = .ok (.ifCond .eq 19, 3) := by decide +kernel
theorem dX2_makeStrength_7 : decode cX2_makeStrength 7 = .ok (.aload_n 0, 1) := by decide +kernel
theorem dX2_makeStrength_8 : decode cX2_makeStrength 8 = .ok (.iload_n 2, 1) := by decide +kernel
theorem dX2_makeStrength_9 : decode cX2_makeStrength 9 = .ok (.invokevirtual 42, 3) := by decide +kernel
theorem dX2_makeStrength_12 : decode cX2_makeStrength 12 = .ok (.ifCond .eq 11, 3) := by decide +kernel
theorem dX2_makeStrength_15 : decode cX2_makeStrength 15 = .ok (.aload_n 0, 1) := by decide +kernel
theorem dX2_makeStrength_16 : decode cX2_makeStrength 16 = .ok (.iload_n 3, 1) := by decide +kernel
theorem dX2_makeStrength_17 : decode cX2_makeStrength 17 = .ok (.invokevirtual 81, 3) := by decide +kernel
theorem dX2_makeStrength_20 : decode cX2_makeStrength 20 = .ok (.ifCond .ne 5, 3) := by decide +kernel
theorem dX2_makeStrength_23 : decode cX2_makeStrength 23 = .ok (.iconst 0, 1) := by decide +kernel
theorem dX2_makeStrength_24 : decode cX2_makeStrength 24 = .ok (.ireturn, 1) := by decide +kernel
theorem dX2_makeStrength_25 : decode cX2_makeStrength 25 = .ok (.aload_n 0, 1) := by decide +kernel
theorem dX2_makeStrength_26 : decode cX2_makeStrength 26 = .ok (.getfield 45, 3) := by decide +kernel
theorem dX2_makeStrength_29 : decode cX2_makeStrength 29 = .ok (.iload_n 1, 1) := by decide +kernel
theorem dX2_makeStrength_30 : decode cX2_makeStrength 30 = .ok (.aaload, 1) := by decide +kernel
theorem dX2_makeStrength_31 : decode cX2_makeStrength 31 = .ok (.getfield 49, 3) := by decide +kernel
theorem dX2_makeStrength_34 : decode cX2_makeStrength 34 = .ok (.iload_n 2, 1) := by decide +kernel
theorem dX2_makeStrength_35 : decode cX2_makeStrength 35 = .ok (.iload_n 3, 1) := by decide +kernel
theorem dX2_makeStrength_36 : decode cX2_makeStrength 36 = .ok (.iastore, 1) := by decide +kernel
theorem dX2_makeStrength_37 : decode cX2_makeStrength 37 = .ok (.iconst 1, 1) := by decide +kernel
theorem dX2_makeStrength_38 : decode cX2_makeStrength 38 = .ok (.ireturn, 1) := by decide +kernel
set_option maxRecDepth 20000 in
theorem ggX2_isGuess_X5_isPlace : GoodIn wsX2_isGuess wsX5_isPlace := goodIn_r _ [3] (by decide +kernel) (by decide +kernel)
set_option maxRecDepth 20000 in
theorem gX2_isGuess_X5_isPlace_n58 : GoodIn wsX2_isGuess (wsX5_isPlace) := ggX2_isGuess_X5_isPlace
set_option maxRecDepth 20000 in
theorem ggX2_isGuess_X3_guessFor : GoodIn wsX2_isGuess wsX3_guessFor := goodIn_r _ [8, 9, 10, 11, 12, 7, 13, 14, 15, 16, 17, 18, 19, 20, 21, 22, 23, 24, 25, 26, 27, 28, 29, 30, 31, 32, 33, 34, 35, 36, 37, 38, 39, 40, 41, 42, 43, 44, 45, 46] (by decide +kernel) (by decide +kernel)
set_option maxRecDepth 20000 in
theorem gX2_isGuess_X3_guessFor : GoodIn wsX2_isGuess (wsV RX2 84 RX3 yX3_guessFor wsX3_guessFor) := goodIn_app (goodIn_of _ (by decide +kernel)) ggX2_isGuess_X3_guessFor
theorem dX2_isGuess_0 : decode cX2_isGuess 0 = .ok (.iload_n 1, 1) := by decide +kernel
theorem dX2_isGuess_1 : decode cX2_isGuess 1 = .ok (.invokestatic 58, 3) := by decide +kernel
theorem dX2_isGuess_4 : decode cX2_isGuess 4 = .ok (.ifCond .eq 30, 3) := by decide +kernel
theorem dX2_isGuess_7 : decode cX2_isGuess 7 = .ok (.iload_n 2, 1) := by decide +kernel
theorem dX2_isGuess_8 : decode cX2_isGuess 8 = .ok (.iconst 1, 1) := by decide +kernel
theorem dX2_isGuess_9 : decode cX2_isGuess 9 = .ok (.if_icmp .gt 25, 3) := by decide +kernel
theorem dX2_isGuess_12 : decode cX2_isGuess 12 = .ok (.aload_n 0, 1) := by decide +kernel
theorem dX2_isGuess_13 : decode cX2_isGuess 13 = .ok (.iload_n 1, 1) := by decide +kernel
theorem dX2_isGuess_14 : decode cX2_isGuess 14 = .ok (.invokevirtual 84, 3) := by decide +kernel
theorem dX2_isGuess_17 : decode cX2_isGuess 17 = .ok (.iload_n 2, 1) := by decide +kernel
theorem dX2_isGuess_18 : decode cX2_isGuess 18 = .ok (.iconst 1, 1) := by decide +kernel
theorem dX2_isGuess_19 : decode cX2_isGuess 19 = .ok (.if_icmp .ne 7, 3) := by decide +kernel
theorem dX2_isGuess_22 : decode cX2_isGuess 22 = .ok (.iconst 1, 1) := by decide +kernel
theorem dX2_isGuess_23 : decode cX2_isGuess 23 = .ok (.goto 4, 3) := by decide +kernel
theorem dX2_isGuess_26 : decode cX2_isGuess 26 = .ok (.iconst 0, 1) := by decide +kernel
theorem dX2_isGuess_27 : decode cX2_isGuess 27 = .ok (.if_icmp .ne 7, 3) := by decide +kernel
theorem dX2_isGuess_30 : decode cX2_isGuess 30 = .ok (.iconst 1, 1) := by decide +kernel
theorem dX2_isGuess_31 : decode cX2_isGuess 31 = .ok (.goto 4, 3) := by decide +kernel
theorem dX2_isGuess_34 : decode cX2_isGuess 34 = .ok (.iconst 0, 1) := by decide +kernel
theorem dX2_isGuess_35 : decode cX2_isGuess 35 = .ok (.ireturn, 1) := by decide +kernel
set_option maxRecDepth 20000 in
theorem ggX3_init_X0_init : GoodIn wsX3_init wsX0_init := goodIn_r _ [16, 17, 2, 3, 4, 18, 19, 20, 21, 22, 23, 57, 58, 59, 60, 61, 62, 63, 64] (by decide +kernel) (by decide +kernel)
set_option maxRecDepth 20000 in
theorem gX3_init_X0_init_n33 : GoodIn wsX3_init (wsX0_init) := ggX3_init_X0_init
set_option maxRecDepth 20000 in
theorem ggX3_init_X3_beginAnew : GoodIn wsX3_init wsX3_beginAnew := goodIn_r _ [28, 7, 5, 8, 9, 10, 11, 29, 30, 31, 32, 33, 34, 35, 36, 13, 37, 19, 20, 38, 21, 22, 23, 39, 40, 41, 42, 43, 44, 45, 46, 47, 48, 49, 50, 51, 52, 53, 54, 55, 56, 57, 58, 59, 60, 61, 62, 63, 64] (by decide +kernel) (by decide +kernel)
set_option maxRecDepth 20000 in
theorem gX3_init_X3_beginAnew : GoodIn wsX3_init (wsV RX3 35 RX3 yX3_beginAnew wsX3_beginAnew) := goodIn_app (goodIn_of _ (by decide +kernel)) ggX3_init_X3_beginAnew
theorem dX3_init_0 : decode cX3_init 0 = .ok (.aload_n 0, 1) := by decide +kernel
theorem dX3_init_1 : decode cX3_init 1 = .ok (.invokespecial 3, 3) := by decide +kernel
theorem dX3_init_4 : decode cX3_init 4 = .ok (.aload_n 0, 1) := by decide +kernel
theorem dX3_init_5 : decode cX3_init 5 = .ok (.iconst 3, 1) := by decide +kernel
theorem dX3_init_6 : decode cX3_init 6 = .ok (.newarray .int, 2) := by decide +kernel
theorem dX3_init_8 : decode cX3_init 8 = .ok (.putfield 9, 3) := by decide +kernel
theorem dX3_init_11 : decode cX3_init 11 = .ok (.aload_n 0, 1) := by decide +kernel
theorem dX3_init_12 : decode cX3_init 12 = .ok (.iconst 2, 1) := by decide +kernel
theorem dX3_init_13 : decode cX3_init 13 = .ok (.anewarray 15, 3) := by decide +kernel
theorem dX3_init_16 : decode cX3_init 16 = .ok (.putfield 17, 3) := by decide +kernel
theorem dX3_init_19 : decode cX3_init 19 = .ok (.aload_n 0, 1) := by decide +kernel
theorem dX3_init_20 : decode cX3_init 20 = .ok (.bipush 26, 2) := by decide +kernel
theorem dX3_init_22 : decode cX3_init 22 = .ok (.newarray .int, 2) := by decide +kernel
theorem dX3_init_24 : decode cX3_init 24 = .ok (.putfield 21, 3) := by decide +kernel
theorem dX3_init_27 : decode cX3_init 27 = .ok (.aload_n 0, 1) := by decide +kernel
theorem dX3_init_28 : decode cX3_init 28 = .ok (.bipush 26, 2) := by decide +kernel
theorem dX3_init_30 : decode cX3_init 30 = .ok (.newarray .int, 2) := by decide +kernel
theorem dX3_init_32 : decode cX3_init 32 = .ok (.putfield 24, 3) := by decide +kernel
theorem dX3_init_35 : decode cX3_init 35 = .ok (.aload_n 0, 1) := by decide +kernel
theorem dX3_init_36 : decode cX3_init 36 = .ok (.bipush 26, 2) := by decide +kernel
theorem dX3_init_38 : decode cX3_init 38 = .ok (.newarray .int, 2) := by decide +kernel
theorem dX3_init_40 : decode cX3_init 40 = .ok (.putfield 27, 3) := by decide +kernel
theorem dX3_init_43 : decode cX3_init 43 = .ok (.aload_n 0, 1) := by decide +kernel
theorem dX3_init_44 : decode cX3_init 44 = .ok (.bipush 26, 2) := by decide +kernel
theorem dX3_init_46 : decode cX3_init 46 = .ok (.newarray .int, 2) := by decide +kernel
theorem dX3_init_48 : decode cX3_init 48 = .ok (.putfield 30, 3) := by decide +kernel
theorem dX3_init_51 : decode cX3_init 51 = .ok (.aload_n 0, 1) := by decide +kernel
theorem dX3_init_52 : decode cX3_init 52 = .ok (.getfield 9, 3) := by decide +kernel
theorem dX3_init_55 : decode cX3_init 55 = .ok (.iconst 0, 1) := by decide +kernel
theorem dX3_init_56 : decode cX3_init 56 = .ok (.iconst 4, 1) := by decide +kernel
theorem dX3_init_57 : decode cX3_init 57 = .ok (.iastore, 1) := by decide +kernel
theorem dX3_init_58 : decode cX3_init 58 = .ok (.aload_n 0, 1) := by decide +kernel
theorem dX3_init_59 : decode cX3_init 59 = .ok (.getfield 9, 3) := by decide +kernel
theorem dX3_init_62 : decode cX3_init 62 = .ok (.iconst 1, 1) := by decide +kernel
theorem dX3_init_63 : decode cX3_init 63 = .ok (.iconst 2, 1) := by decide +kernel
theorem dX3_init_64 : decode cX3_init 64 = .ok (.iastore, 1) := by decide +kernel
theorem dX3_init_65 : decode cX3_init 65 = .ok (.aload_n 0, 1) := by decide +kernel
theorem dX3_init_66 : decode cX3_init 66 = .ok (.getfield 9, 3) := by decide +kernel
theorem dX3_init_69 : decode cX3_init 69 = .ok (.iconst 2, 1) := by decide +kernel
theorem dX3_init_70 : decode cX3_init 70 = .ok (.iconst 2, 1) := by decide +kernel
theorem dX3_init_71 : decode cX3_init 71 = .ok (.iastore, 1) := by decide +kernel
theorem dX3_init_72 : decode cX3_init 72 = .ok (.iconst 0, 1) := by decide +kernel
theorem dX3_init_73 : decode cX3_init 73 = .ok (.istore_n 1, 1) := by decide +kernel
theorem dX3_init_74 : decode cX3_init 74 = .ok (.iload_n 1, 1) := by decide +kernel
theorem dX3_init_75 : decode cX3_init 75 = .ok (.iconst 2, 1) := by decide +kernel
theorem dX3_init_76 : decode cX3_init 76 = .ok (.if_icmp .ge 22, 3) := by decide +kernel
theorem dX3_init_79 : decode cX3_init 79 = .ok (.aload_n 0, 1) := by decide +kernel
theorem dX3_init_80 : decode cX3_init 80 = .ok (.getfield 17, 3) := by decide +kernel
theorem dX3_init_83 : decode cX3_init 83 = .ok (.iload_n 1, 1) := by decide +kernel
theorem dX3_init_84 : decode cX3_init 84 = .ok (.new 15, 3) := by decide +kernel
theorem dX3_init_87 : decode cX3_init 87 = .ok (.dup, 1) := by decide +kernel
theorem dX3_init_88 : decode cX3_init 88 = .ok (.invokespecial 33, 3) := by decide +kernel
theorem dX3_init_91 : decode cX3_init 91 = .ok (.aastore, 1) := by decide +kernel
theorem dX3_init_92 : decode cX3_init 92 = .ok (.iinc 1 1, 3) := by decide +kernel
theorem dX3_init_95 : decode cX3_init 95 = .ok (.goto (-21), 3) := by decide +kernel
theorem dX3_init_98 : decode cX3_init 98 = .ok (.aload_n 0, 1) := by decide +kernel
theorem dX3_init_99 : decode cX3_init 99 = .ok (.getfield 17, 3) := by decide +kernel
theorem dX3_init_102 : decode cX3_init 102 = .ok (.iconst 1, 1) := by decide +kernel
theorem dX3_init_103 : decode cX3_init 103 = .ok (.aaload, 1) := by decide +kernel
theorem dX3_init_104 : decode cX3_init 104 = .ok (.getfield 34, 3) := by decide +kernel
theorem dX3_init_107 : decode cX3_init 107 = .ok (.iconst 0, 1) := by decide +kernel
theorem dX3_init_108 : decode cX3_init 108 = .ok (.iconst 3, 1) := by decide +kernel
theorem dX3_init_109 : decode cX3_init 109 = .ok (.iastore, 1) := by decide +kernel
theorem dX3_init_110 : decode cX3_init 110 = .ok (.aload_n 0, 1) := by decide +kernel
theorem dX3_init_111 : decode cX3_init 111 = .ok (.getfield 17, 3) := by decide +kernel
theorem dX3_init_114 : decode cX3_init 114 = .ok (.iconst 1, 1) := by decide +kernel
theorem dX3_init_115 : decode cX3_init 115 = .ok (.aaload, 1) := by decide +kernel
theorem dX3_init_116 : decode cX3_init 116 = .ok (.getfield 34, 3) := by decide +kernel
theorem dX3_init_119 : decode cX3_init 119 = .ok (.iconst 1, 1) := by decide +kernel
theorem dX3_init_120 : decode cX3_init 120 = .ok (.iconst 4, 1) := by decide +kernel
theorem dX3_init_121 : decode cX3_init 121 = .ok (.iastore, 1) := by decide +kernel
theorem dX3_init_122 : decode cX3_init 122 = .ok (.aload_n 0, 1) := by decide +kernel
theorem dX3_init_123 : decode cX3_init 123 = .ok (.invokevirtual 35, 3) := by decide +kernel
theorem dX3_init_126 : decode cX3_init 126 = .ok (.return_, 1) := by decide +kernel
set_option maxRecDepth 20000 in
theorem ggX3_copyFrom_X0_copyFrom : GoodIn wsX3_copyFrom wsX0_copyFrom := goodIn_r _ [20, 21, 22, 3, 4, 5, 23, 24, 25, 26, 27, 28, 29, 41, 42, 43, 44, 45, 46, 47, 48] (by decide +kernel) (by decide +kernel)
set_option maxRecDepth 20000 in
theorem gX3_copyFrom_X0_copyFrom : GoodIn wsX3_copyFrom (wsV RX3 44 RX0 yX0_copyFrom wsX0_copyFrom) := goodIn_app (goodIn_of _ (by decide +kernel)) ggX3_copyFrom_X0_copyFrom
theorem dX3_copyFrom_0 : decode cX3_copyFrom 0 = .ok (.aload_n 1, 1) := by decide +kernel
theorem dX3_copyFrom_1 : decode cX3_copyFrom 1 = .ok (.getfield 9, 3) := by decide +kernel
theorem dX3_copyFrom_4 : decode cX3_copyFrom 4 = .ok (.iconst 0, 1) := by decide +kernel
theorem dX3_copyFrom_5 : decode cX3_copyFrom 5 = .ok (.aload_n 0, 1) := by decide +kernel
theorem dX3_copyFrom_6 : decode cX3_copyFrom 6 = .ok (.getfield 9, 3) := by decide +kernel
theorem dX3_copyFrom_9 : decode cX3_copyFrom 9 = .ok (.iconst 0, 1) := by decide +kernel
theorem dX3_copyFrom_10 : decode cX3_copyFrom 10 = .ok (.iconst 3, 1) := by decide +kernel
theorem dX3_copyFrom_11 : decode cX3_copyFrom 11 = .ok (.invokestatic 38, 3) := by decide +kernel
theorem dX3_copyFrom_14 : decode cX3_copyFrom 14 = .ok (.iconst 0, 1) := by decide +kernel
theorem dX3_copyFrom_15 : decode cX3_copyFrom 15 = .ok (.istore_n 2, 1) := by decide +kernel
theorem dX3_copyFrom_16 : decode cX3_copyFrom 16 = .ok (.iload_n 2, 1) := by decide +kernel
theorem dX3_copyFrom_17 : decode cX3_copyFrom 17 = .ok (.iconst 2, 1) := by decide +kernel
theorem dX3_copyFrom_18 : decode cX3_copyFrom 18 = .ok (.if_icmp .ge 24, 3) := by decide +kernel
theorem dX3_copyFrom_21 : decode cX3_copyFrom 21 = .ok (.aload_n 0, 1) := by decide +kernel
theorem dX3_copyFrom_22 : decode cX3_copyFrom 22 = .ok (.getfield 17, 3) := by decide +kernel
theorem dX3_copyFrom_25 : decode cX3_copyFrom 25 = .ok (.iload_n 2, 1) := by decide +kernel
theorem dX3_copyFrom_26 : decode cX3_copyFrom 26 = .ok (.aaload, 1) := by decide +kernel
theorem dX3_copyFrom_27 : decode cX3_copyFrom 27 = .ok (.aload_n 1, 1) := by decide +kernel
theorem dX3_copyFrom_28 : decode cX3_copyFrom 28 = .ok (.getfield 17, 3) := by decide +kernel
theorem dX3_copyFrom_31 : decode cX3_copyFrom 31 = .ok (.iload_n 2, 1) := by decide +kernel
theorem dX3_copyFrom_32 : decode cX3_copyFrom 32 = .ok (.aaload, 1) := by decide +kernel
theorem dX3_copyFrom_33 : decode cX3_copyFrom 33 = .ok (.invokevirtual 44, 3) := by decide +kernel
theorem dX3_copyFrom_36 : decode cX3_copyFrom 36 = .ok (.iinc 2 1, 3) := by decide +kernel
theorem dX3_copyFrom_39 : decode cX3_copyFrom 39 = .ok (.goto (-23), 3) := by decide +kernel
theorem dX3_copyFrom_42 : decode cX3_copyFrom 42 = .ok (.aload_n 1, 1) := by decide +kernel
theorem dX3_copyFrom_43 : decode cX3_copyFrom 43 = .ok (.getfield 21, 3) := by decide +kernel
theorem dX3_copyFrom_46 : decode cX3_copyFrom 46 = .ok (.iconst 0, 1) := by decide +kernel
theorem dX3_copyFrom_47 : decode cX3_copyFrom 47 = .ok (.aload_n 0, 1) := by decide +kernel
theorem dX3_copyFrom_48 : decode cX3_copyFrom 48 = .ok (.getfield 21, 3) := by decide +kernel
theorem dX3_copyFrom_51 : decode cX3_copyFrom 51 = .ok (.iconst 0, 1) := by decide +kernel
theorem dX3_copyFrom_52 : decode cX3_copyFrom 52 = .ok (.bipush 26, 2) := by decide +kernel
theorem dX3_copyFrom_54 : decode cX3_copyFrom 54 = .ok (.invokestatic 38, 3) := by decide +kernel
theorem dX3_copyFrom_57 : decode cX3_copyFrom 57 = .ok (.aload_n 1, 1) := by decide +kernel
theorem dX3_copyFrom_58 : decode cX3_copyFrom 58 = .ok (.getfield 24, 3) := by decide +kernel
theorem dX3_copyFrom_61 : decode cX3_copyFrom 61 = .ok (.iconst 0, 1) := by decide +kernel
theorem dX3_copyFrom_62 : decode cX3_copyFrom 62 = .ok (.aload_n 0, 1) := by decide +kernel
theorem dX3_copyFrom_63 : decode cX3_copyFrom 63 = .ok (.getfield 24, 3) := by decide +kernel
theorem dX3_copyFrom_66 : decode cX3_copyFrom 66 = .ok (.iconst 0, 1) := by decide +kernel
theorem dX3_copyFrom_67 : decode cX3_copyFrom 67 = .ok (.bipush 26, 2) := by decide +kernel
theorem dX3_copyFrom_69 : decode cX3_copyFrom 69 = .ok (.invokestatic 38, 3) := by decide +kernel
theorem dX3_copyFrom_72 : decode cX3_copyFrom 72 = .ok (.aload_n 1, 1) := by decide +kernel
theorem dX3_copyFrom_73 : decode cX3_copyFrom 73 = .ok (.getfield 27, 3) := by decide +kernel
theorem dX3_copyFrom_76 : decode cX3_copyFrom 76 = .ok (.iconst 0, 1) := by decide +kernel
theorem dX3_copyFrom_77 : decode cX3_copyFrom 77 = .ok (.aload_n 0, 1) := by decide +kernel
theorem dX3_copyFrom_78 : decode cX3_copyFrom 78 = .ok (.getfield 27, 3) := by decide +kernel
theorem dX3_copyFrom_81 : decode cX3_copyFrom 81 = .ok (.iconst 0, 1) := by decide +kernel
theorem dX3_copyFrom_82 : decode cX3_copyFrom 82 = .ok (.bipush 26, 2) := by decide +kernel
theorem dX3_copyFrom_84 : decode cX3_copyFrom 84 = .ok (.invokestatic 38, 3) := by decide +kernel
theorem dX3_copyFrom_87 : decode cX3_copyFrom 87 = .ok (.aload_n 1, 1) := by decide +kernel
theorem dX3_copyFrom_88 : decode cX3_copyFrom 88 = .ok (.getfield 30, 3) := by decide +kernel
theorem dX3_copyFrom_91 : decode cX3_copyFrom 91 = .ok (.iconst 0, 1) := by decide +kernel
theorem dX3_copyFrom_92 : decode cX3_copyFrom 92 = .ok (.aload_n 0, 1) := by decide +kernel
theorem dX3_copyFrom_93 : decode cX3_copyFrom 93 = .ok (.getfield 30, 3) := by decide +kernel
theorem dX3_copyFrom_96 : decode cX3_copyFrom 96 = .ok (.iconst 0, 1) := by decide +kernel
theorem dX3_copyFrom_97 : decode cX3_copyFrom 97 = .ok (.bipush 26, 2) := by decide +kernel
theorem dX3_copyFrom_99 : decode cX3_copyFrom 99 = .ok (.invokestatic 38, 3) := by decide +kernel
theorem dX3_copyFrom_102 : decode cX3_copyFrom 102 = .ok (.aload_n 0, 1) := by decide +kernel
theorem dX3_copyFrom_103 : decode cX3_copyFrom 103 = .ok (.aload_n 1, 1) := by decide +kernel
theorem dX3_copyFrom_104 : decode cX3_copyFrom 104 = .ok (.getfield 48, 3) := by decide +kernel
theorem dX3_copyFrom_107 : decode cX3_copyFrom 107 = .ok (.putfield 48, 3) := by decide +kernel
theorem dX3_copyFrom_110 : decode cX3_copyFrom 110 = .ok (.aload_n 0, 1) := by decide +kernel
theorem dX3_copyFrom_111 : decode cX3_copyFrom 111 = .ok (.aload_n 1, 1) := by decide +kernel
theorem dX3_copyFrom_112 : decode cX3_copyFrom 112 = .ok (.getfield 52, 3) := by decide +kernel
theorem dX3_copyFrom_115 : decode cX3_copyFrom 115 = .ok (.putfield 52, 3) := by decide +kernel
theorem dX3_copyFrom_118 : decode cX3_copyFrom 118 = .ok (.aload_n 0, 1) := by decide +kernel
theorem dX3_copyFrom_119 : decode cX3_copyFrom 119 = .ok (.aload_n 1, 1) := by decide +kernel
theorem dX3_copyFrom_120 : decode cX3_copyFrom 120 = .ok (.getfield 55, 3) := by decide +kernel
theorem dX3_copyFrom_123 : decode cX3_copyFrom 123 = .ok (.putfield 55, 3) := by decide +kernel
theorem dX3_copyFrom_126 : decode cX3_copyFrom 126 = .ok (.aload_n 0, 1) := by decide +kernel
theorem dX3_copyFrom_127 : decode cX3_copyFrom 127 = .ok (.aload_n 1, 1) := by decide +kernel
theorem dX3_copyFrom_128 : decode cX3_copyFrom 128 = .ok (.getfield 58, 3) := by decide +kernel
theorem dX3_copyFrom_131 : decode cX3_copyFrom 131 = .ok (.putfield 58, 3) := by decide +kernel
theorem dX3_copyFrom_134 : decode cX3_copyFrom 134 = .ok (.aload_n 0, 1) := by decide +kernel
theorem dX3_copyFrom_135 : decode cX3_copyFrom 135 = .ok (.aload_n 1, 1) := by decide +kernel
theorem dX3_copyFrom_136 : decode cX3_copyFrom 136 = .ok (.getfield 61, 3) := by decide +kernel
theorem dX3_copyFrom_139 : decode cX3_copyFrom 139 = .ok (.putfield 61, 3) := by decide +kernel
theorem dX3_copyFrom_142 : decode cX3_copyFrom 142 = .ok (.return_, 1) := by decide +kernel
set_option maxRecDepth 20000 in
theorem ggX3_beginAnew_X0_beginAnew : GoodIn wsX3_beginAnew wsX0_beginAnew := goodIn_r _ [16, 17, 18, 19, 20, 21, 22, 23, 24, 25, 26, 27, 28, 41, 42, 43, 44, 45, 46, 47, 48] (by decide +kernel) (by decide +kernel)
set_option maxRecDepth 20000 in
theorem gX3_beginAnew_X0_beginAnew : GoodIn wsX3_beginAnew (wsV RX3 64 RX0 yX0_beginAnew wsX0_beginAnew) := goodIn_app (goodIn_of _ (by decide +kernel)) ggX3_beginAnew_X0_beginAnew
set_option maxRecDepth 20000 in
theorem ggX3_beginAnew_J7_fill_53178 : GoodIn wsX3_beginAnew wsJ7_fill_53178 := goodIn_r _ [28] (by decide +kernel) (by decide +kernel)
set_option maxRecDepth 20000 in
theorem gX3_beginAnew_J7_fill_53178 : GoodIn wsX3_beginAnew (va_wsS RX3 67 yJ7_fill_53178 wsJ7_fill_53178) := goodIn_app (goodIn_of _ (by decide +kernel)) ggX3_beginAnew_J7_fill_53178
theorem dX3_beginAnew_0 : decode cX3_beginAnew 0 = .ok (.iconst 0, 1) := by decide +kernel
theorem dX3_beginAnew_1 : decode cX3_beginAnew 1 = .ok (.istore_n 1, 1) := by decide +kernel
theorem dX3_beginAnew_2 : decode cX3_beginAnew 2 = .ok (.iload_n 1, 1) := by decide +kernel
theorem dX3_beginAnew_3 : decode cX3_beginAnew 3 = .ok (.iconst 2, 1) := by decide +kernel
theorem dX3_beginAnew_4 : decode cX3_beginAnew 4 = .ok (.if_icmp .ge 24, 3) := by decide +kernel
theorem dX3_beginAnew_7 : decode cX3_beginAnew 7 = .ok (.aload_n 0, 1) := by decide +kernel
theorem dX3_beginAnew_8 : decode cX3_beginAnew 8 = .ok (.getfield 17, 3) := by decide +kernel
theorem dX3_beginAnew_11 : decode cX3_beginAnew 11 = .ok (.iload_n 1, 1) := by decide +kernel
theorem dX3_beginAnew_12 : decode cX3_beginAnew 12 = .ok (.aaload, 1) := by decide +kernel
theorem dX3_beginAnew_13 : decode cX3_beginAnew 13 = .ok (.aload_n 0, 1) := by decide +kernel
theorem dX3_beginAnew_14 : decode cX3_beginAnew 14 = .ok (.getfield 9, 3) := by decide +kernel
theorem dX3_beginAnew_17 : decode cX3_beginAnew 17 = .ok (.iconst 1, 1) := by decide +kernel
theorem dX3_beginAnew_18 : decode cX3_beginAnew 18 = .ok (.iaload, 1) := by decide +kernel
theorem dX3_beginAnew_19 : decode cX3_beginAnew 19 = .ok (.invokevirtual 64, 3) := by decide +kernel
theorem dX3_beginAnew_22 : decode cX3_beginAnew 22 = .ok (.iinc 1 1, 3) := by decide +kernel
theorem dX3_beginAnew_25 : decode cX3_beginAnew 25 = .ok (.goto (-23), 3) := by decide +kernel
theorem dX3_beginAnew_28 : decode cX3_beginAnew 28 = .ok (.aload_n 0, 1) := by decide +kernel
theorem dX3_beginAnew_29 : decode cX3_beginAnew 29 = .ok (.getfield 21, 3) := by decide +kernel
theorem dX3_beginAnew_32 : decode cX3_beginAnew 32 = .ok (.iconst 1, 1) := by decide +kernel
theorem dX3_beginAnew_33 : decode cX3_beginAnew 33 = .ok (.invokestatic 67, 3) := by decide +kernel
theorem dX3_beginAnew_36 : decode cX3_beginAnew 36 = .ok (.aload_n 0, 1) := by decide +kernel
theorem dX3_beginAnew_37 : decode cX3_beginAnew 37 = .ok (.getfield 24, 3) := by decide +kernel
theorem dX3_beginAnew_40 : decode cX3_beginAnew 40 = .ok (.iconst 0, 1) := by decide +kernel
theorem dX3_beginAnew_41 : decode cX3_beginAnew 41 = .ok (.invokestatic 67, 3) := by decide +kernel
theorem dX3_beginAnew_44 : decode cX3_beginAnew 44 = .ok (.aload_n 0, 1) := by decide +kernel
theorem dX3_beginAnew_45 : decode cX3_beginAnew 45 = .ok (.getfield 27, 3) := by decide +kernel
theorem dX3_beginAnew_48 : decode cX3_beginAnew 48 = .ok (.iconst 0, 1) := by decide +kernel
theorem dX3_beginAnew_49 : decode cX3_beginAnew 49 = .ok (.invokestatic 67, 3) := by decide +kernel
theorem dX3_beginAnew_52 : decode cX3_beginAnew 52 = .ok (.aload_n 0, 1) := by decide +kernel
theorem dX3_beginAnew_53 : decode cX3_beginAnew 53 = .ok (.getfield 30, 3) := by decide +kernel
theorem dX3_beginAnew_56 : decode cX3_beginAnew 56 = .ok (.iconst 0, 1) := by decide +kernel
theorem dX3_beginAnew_57 : decode cX3_beginAnew 57 = .ok (.invokestatic 67, 3) := by decide +kernel
theorem dX3_beginAnew_60 : decode cX3_beginAnew 60 = .ok (.aload_n 0, 1) := by decide +kernel
theorem dX3_beginAnew_61 : decode cX3_beginAnew 61 = .ok (.iconst 0, 1) := by decide +kernel
theorem dX3_beginAnew_62 : decode cX3_beginAnew 62 = .ok (.putfield 48, 3) := by decide +kernel
theorem dX3_beginAnew_65 : decode cX3_beginAnew 65 = .ok (.aload_n 0, 1) := by decide +kernel
theorem dX3_beginAnew_66 : decode cX3_beginAnew 66 = .ok (.iconst 0, 1) := by decide +kernel
theorem dX3_beginAnew_67 : decode cX3_beginAnew 67 = .ok (.putfield 52, 3) := by decide +kernel
theorem dX3_beginAnew_70 : decode cX3_beginAnew 70 = .ok (.aload_n 0, 1) := by decide +kernel
theorem dX3_beginAnew_71 : decode cX3_beginAnew 71 = .ok (.iconst 0, 1) := by decide +kernel
theorem dX3_beginAnew_72 : decode cX3_beginAnew 72 = .ok (.putfield 55, 3) := by decide +kernel
theorem dX3_beginAnew_75 : decode cX3_beginAnew 75 = .ok (.aload_n 0, 1) := by decide +kernel
theorem dX3_beginAnew_76 : decode cX3_beginAnew 76 = .ok (.iconst 0, 1) := by decide +kernel
theorem dX3_beginAnew_77 : decode cX3_beginAnew 77 = .ok (.putfield 58, 3) := by decide +kernel
theorem dX3_beginAnew_80 : decode cX3_beginAnew 80 = .ok (.aload_n 0, 1) := by decide +kernel
theorem dX3_beginAnew_81 : decode cX3_beginAnew 81 = .ok (.iconst 0, 1) := by decide +kernel
theorem dX3_beginAnew_82 : decode cX3_beginAnew 82 = .ok (.putfield 61, 3) := by decide +kernel
theorem dX3_beginAnew_85 : decode cX3_beginAnew 85 = .ok (.return_, 1) := by decide +kernel
set_option maxRecDepth 20000 in
theorem ggX3_changeDesk_X3_beginAnew : GoodIn wsX3_changeDesk wsX3_beginAnew := goodIn_r _ [7, 1, 8, 9, 10, 11, 12, 13, 14, 15, 16, 17, 18, 19, 20, 21, 22, 23, 24, 25, 26, 27, 28, 29, 30, 31, 32, 33, 34, 35, 36, 37, 38, 39, 40, 41, 42, 43, 44, 45, 46, 47, 48, 49, 50, 51, 52, 53, 54] (by decide +kernel) (by decide +kernel)
set_option maxRecDepth 20000 in
theorem gX3_changeDesk_X3_beginAnew : GoodIn wsX3_changeDesk (wsV RX3 35 RX3 yX3_beginAnew wsX3_beginAnew) := goodIn_app (goodIn_of _ (by decide +kernel)) ggX3_changeDesk_X3_beginAnew
theorem dX3_changeDesk_0 : decode cX3_changeDesk 0 = .ok (.aload_n 0, 1) := by decide +kernel
theorem dX3_changeDesk_1 : decode cX3_changeDesk 1 = .ok (.getfield 17, 3) := by decide +kernel
theorem dX3_changeDesk_4 : decode cX3_changeDesk 4 = .ok (.iload_n 1, 1) := by decide +kernel
theorem dX3_changeDesk_5 : decode cX3_changeDesk 5 = .ok (.aaload, 1) := by decide +kernel
theorem dX3_changeDesk_6 : decode cX3_changeDesk 6 = .ok (.getfield 34, 3) := by decide +kernel
theorem dX3_changeDesk_9 : decode cX3_changeDesk 9 = .ok (.iload_n 2, 1) := by decide +kernel
theorem dX3_changeDesk_10 : decode cX3_changeDesk 10 = .ok (.iload_n 3, 1) := by decide +kernel
theorem dX3_changeDesk_11 : decode cX3_changeDesk 11 = .ok (.iastore, 1) := by decide +kernel
theorem dX3_changeDesk_12 : decode cX3_changeDesk 12 = .ok (.aload_n 0, 1) := by decide +kernel
theorem dX3_changeDesk_13 : decode cX3_changeDesk 13 = .ok (.invokevirtual 35, 3) := by decide +kernel
theorem dX3_changeDesk_16 : decode cX3_changeDesk 16 = .ok (.return_, 1) := by decide +kernel
set_option maxRecDepth 20000 in
theorem ggX3_changeBoth_X3_beginAnew : GoodIn wsX3_changeBoth wsX3_beginAnew := goodIn_r _ [6, 7, 1, 8, 9, 10, 11, 12, 13, 14, 15, 16, 17, 18, 19, 20, 21, 22, 23, 24, 25, 26, 27, 28, 29, 30, 31, 32, 33, 34, 35, 36, 37, 38, 39, 40, 41, 42, 43, 44, 45, 46, 47, 48, 49, 50, 51, 52, 53] (by decide +kernel) (by decide +kernel)
set_option maxRecDepth 20000 in
theorem gX3_changeBoth_X3_beginAnew : GoodIn wsX3_changeBoth (wsV RX3 35 RX3 yX3_beginAnew wsX3_beginAnew) := goodIn_app (goodIn_of _ (by decide +kernel)) ggX3_changeBoth_X3_beginAnew
theorem dX3_changeBoth_0 : decode cX3_changeBoth 0 = .ok (.aload_n 0, 1) := by decide +kernel
theorem dX3_changeBoth_1 : decode cX3_changeBoth 1 = .ok (.getfield 9, 3) := by decide +kernel
theorem dX3_changeBoth_4 : decode cX3_changeBoth 4 = .ok (.iload_n 1, 1) := by decide +kernel
theorem dX3_changeBoth_5 : decode cX3_changeBoth 5 = .ok (.iload_n 2, 1) := by decide +kernel
theorem dX3_changeBoth_6 : decode cX3_changeBoth 6 = .ok (.iastore, 1) := by decide +kernel
theorem dX3_changeBoth_7 : decode cX3_changeBoth 7 = .ok (.aload_n 0, 1) := by decide +kernel
theorem dX3_changeBoth_8 : decode cX3_changeBoth 8 = .ok (.invokevirtual 35, 3) := by decide +kernel
theorem dX3_changeBoth_11 : decode cX3_changeBoth 11 = .ok (.return_, 1) := by decide +kernel
theorem dX3_isNote_0 : decode cX3_isNote 0 = .ok (.iload_n 1, 1) := by decide +kernel
theorem dX3_isNote_1 : decode cX3_isNote 1 = .ok (.ifCond .lt 19, 3) := by decide +kernel
theorem dX3_isNote_4 : decode cX3_isNote 4 = .ok (.iload_n 1, 1) := by decide +kernel
theorem dX3_isNote_5 : decode cX3_isNote 5 = .ok (.iconst 1, 1) := by decide +kernel
theorem dX3_isNote_6 : decode cX3_isNote 6 = .ok (.aload_n 0, 1) := by decide +kernel
theorem dX3_isNote_7 : decode cX3_isNote 7 = .ok (.getfield 9, 3) := by decide +kernel
theorem dX3_isNote_10 : decode cX3_isNote 10 = .ok (.iconst 0, 1) := by decide +kernel
theorem dX3_isNote_11 : decode cX3_isNote 11 = .ok (.iaload, 1) := by decide +kernel
theorem dX3_isNote_12 : decode cX3_isNote 12 = .ok (.ishl, 1) := by decide +kernel
theorem dX3_isNote_13 : decode cX3_isNote 13 = .ok (.if_icmp .ge 7, 3) := by decide +kernel
theorem dX3_isNote_16 : decode cX3_isNote 16 = .ok (.iconst 1, 1) := by decide +kernel
theorem dX3_isNote_17 : decode cX3_isNote 17 = .ok (.goto 4, 3) := by decide +kernel
theorem dX3_isNote_20 : decode cX3_isNote 20 = .ok (.iconst 0, 1) := by decide +kernel
theorem dX3_isNote_21 : decode cX3_isNote 21 = .ok (.ireturn, 1) := by decide +kernel
theorem dX3_isStrength_0 : decode cX3_isStrength 0 = .ok (.iload_n 1, 1) := by decide +kernel
theorem dX3_isStrength_1 : decode cX3_isStrength 1 = .ok (.ifCond .lt 19, 3) := by decide +kernel
theorem dX3_isStrength_4 : decode cX3_isStrength 4 = .ok (.iload_n 1, 1) := by decide +kernel
theorem dX3_isStrength_5 : decode cX3_isStrength 5 = .ok (.iconst 2, 1) := by decide +kernel
theorem dX3_isStrength_6 : decode cX3_isStrength 6 = .ok (.aload_n 0, 1) := by decide +kernel
theorem dX3_isStrength_7 : decode cX3_isStrength 7 = .ok (.getfield 9, 3) := by decide +kernel
theorem dX3_isStrength_10 : decode cX3_isStrength 10 = .ok (.iconst 1, 1) := by decide +kernel
theorem dX3_isStrength_11 : decode cX3_isStrength 11 = .ok (.iaload, 1) := by decide +kernel
theorem dX3_isStrength_12 : decode cX3_isStrength 12 = .ok (.imul, 1) := by decide +kernel
theorem dX3_isStrength_13 : decode cX3_isStrength 13 = .ok (.if_icmp .ge 7, 3) := by decide +kernel
theorem dX3_isStrength_16 : decode cX3_isStrength 16 = .ok (.iconst 1, 1) := by decide +kernel
theorem dX3_isStrength_17 : decode cX3_isStrength 17 = .ok (.goto 4, 3) := by decide +kernel
theorem dX3_isStrength_20 : decode cX3_isStrength 20 = .ok (.iconst 0, 1) := by decide +kernel
theorem dX3_isStrength_21 : decode cX3_isStrength 21 = .ok (.ireturn, 1) := by decide +kernel
theorem dX3_allClashes_0 : decode cX3_allClashes 0 = .ok (.aload_n 0, 1) := by decide +kernel
theorem dX3_allClashes_1 : decode cX3_allClashes 1 = .ok (.getfield 17, 3) := by decide +kernel
theorem dX3_allClashes_4 : decode cX3_allClashes 4 = .ok (.iconst 0, 1) := by decide +kernel
theorem dX3_allClashes_5 : decode cX3_allClashes 5 = .ok (.aaload, 1) := by decide +kernel
theorem dX3_allClashes_6 : decode cX3_allClashes 6 = .ok (.getfield 73, 3) := by decide +kernel
theorem dX3_allClashes_9 : decode cX3_allClashes 9 = .ok (.aload_n 0, 1) := by decide +kernel
theorem dX3_allClashes_10 : decode cX3_allClashes 10 = .ok (.getfield 17, 3) := by decide +kernel
theorem dX3_allClashes_13 : decode cX3_allClashes 13 = .ok (.iconst 1, 1) := by decide +kernel
theorem dX3_allClashes_14 : decode cX3_allClashes 14 = .ok (.aaload, 1) := by decide +kernel
theorem dX3_allClashes_15 : decode cX3_allClashes 15 = .ok (.getfield 73, 3) := by decide +kernel
theorem dX3_allClashes_18 : decode cX3_allClashes 18 = .ok (.iadd, 1) := by decide +kernel
theorem dX3_allClashes_19 : decode cX3_allClashes 19 = .ok (.ireturn, 1) := by decide +kernel
set_option maxRecDepth 20000 in
theorem ggX3_noteFor_X0_noteFor : GoodIn wsX3_noteFor wsX0_noteFor := goodIn_r _ [7, 8, 9, 10, 11, 6, 12, 13, 25, 26, 27, 28, 29, 30, 31, 32] (by decide +kernel) (by decide +kernel)
set_option maxRecDepth 20000 in
theorem gX3_noteFor_X0_noteFor : GoodIn wsX3_noteFor (wsV RX3 76 RX0 yX0_noteFor wsX0_noteFor) := goodIn_app (goodIn_of _ (by decide +kernel)) ggX3_noteFor_X0_noteFor
theorem dX3_noteFor_0 : decode cX3_noteFor 0 = .ok (.aload_n 0, 1) := by decide +kernel
theorem dX3_noteFor_1 : decode cX3_noteFor 1 = .ok (.getfield 17, 3) := by decide +kernel
theorem dX3_noteFor_4 : decode cX3_noteFor 4 = .ok (.iload_n 1, 1) := by decide +kernel
theorem dX3_noteFor_5 : decode cX3_noteFor 5 = .ok (.aaload, 1) := by decide +kernel
theorem dX3_noteFor_6 : decode cX3_noteFor 6 = .ok (.iload_n 2, 1) := by decide +kernel
theorem dX3_noteFor_7 : decode cX3_noteFor 7 = .ok (.aload_n 0, 1) := by decide +kernel
theorem dX3_noteFor_8 : decode cX3_noteFor 8 = .ok (.getfield 9, 3) := by decide +kernel
theorem dX3_noteFor_11 : decode cX3_noteFor 11 = .ok (.iconst 0, 1) := by decide +kernel
theorem dX3_noteFor_12 : decode cX3_noteFor 12 = .ok (.iaload, 1) := by decide +kernel
theorem dX3_noteFor_13 : decode cX3_noteFor 13 = .ok (.invokevirtual 76, 3) := by decide +kernel
theorem dX3_noteFor_16 : decode cX3_noteFor 16 = .ok (.ireturn, 1) := by decide +kernel
set_option maxRecDepth 20000 in
theorem ggX3_deskSays_X0_noteFor : GoodIn wsX3_deskSays wsX0_noteFor := goodIn_r _ [8, 9, 10, 11, 12, 7, 13, 14, 26, 27, 28, 29, 30, 31, 32, 33] (by decide +kernel) (by decide +kernel)
set_option maxRecDepth 20000 in
theorem gX3_deskSays_X0_noteFor : GoodIn wsX3_deskSays (wsV RX3 76 RX0 yX0_noteFor wsX0_noteFor) := goodIn_app (goodIn_of _ (by decide +kernel)) ggX3_deskSays_X0_noteFor
theorem dX3_deskSays_0 : decode cX3_deskSays 0 = .ok (.aload_n 0, 1) := by decide +kernel
theorem dX3_deskSays_1 : decode cX3_deskSays 1 = .ok (.getfield 17, 3) := by decide +kernel
theorem dX3_deskSays_4 : decode cX3_deskSays 4 = .ok (.iload_n 1, 1) := by decide +kernel
theorem dX3_deskSays_5 : decode cX3_deskSays 5 = .ok (.aaload, 1) := by decide +kernel
theorem dX3_deskSays_6 : decode cX3_deskSays 6 = .ok (.astore_n 3, 1) := by decide +kernel
theorem dX3_deskSays_7 : decode cX3_deskSays 7 = .ok (.aload_n 3, 1) := by decide +kernel
theorem dX3_deskSays_8 : decode cX3_deskSays 8 = .ok (.getfield 80, 3) := by decide +kernel
theorem dX3_deskSays_11 : decode cX3_deskSays 11 = .ok (.aload_n 3, 1) := by decide +kernel
theorem dX3_deskSays_12 : decode cX3_deskSays 12 = .ok (.iload_n 2, 1) := by decide +kernel
theorem dX3_deskSays_13 : decode cX3_deskSays 13 = .ok (.aload_n 0, 1) := by decide +kernel
theorem dX3_deskSays_14 : decode cX3_deskSays 14 = .ok (.getfield 9, 3) := by decide +kernel
theorem dX3_deskSays_17 : decode cX3_deskSays 17 = .ok (.iconst 0, 1) := by decide +kernel
theorem dX3_deskSays_18 : decode cX3_deskSays 18 = .ok (.iaload, 1) := by decide +kernel
theorem dX3_deskSays_19 : decode cX3_deskSays 19 = .ok (.invokevirtual 76, 3) := by decide +kernel
theorem dX3_deskSays_22 : decode cX3_deskSays 22 = .ok (.iaload, 1) := by decide +kernel
theorem dX3_deskSays_23 : decode cX3_deskSays 23 = .ok (.aload_n 0, 1) := by decide +kernel
theorem dX3_deskSays_24 : decode cX3_deskSays 24 = .ok (.getfield 9, 3) := by decide +kernel
theorem dX3_deskSays_27 : decode cX3_deskSays 27 = .ok (.iconst 1, 1) := by decide +kernel
theorem dX3_deskSays_28 : decode cX3_deskSays 28 = .ok (.iaload, 1) := by decide +kernel
theorem dX3_deskSays_29 : decode cX3_deskSays 29 = .ok (.if_icmp .lt 7, 3) := by decide +kernel
theorem dX3_deskSays_32 : decode cX3_deskSays 32 = .ok (.iconst 1, 1) := by decide +kernel
theorem dX3_deskSays_33 : decode cX3_deskSays 33 = .ok (.goto 4, 3) := by decide +kernel
theorem dX3_deskSays_36 : decode cX3_deskSays 36 = .ok (.iconst 0, 1) := by decide +kernel
theorem dX3_deskSays_37 : decode cX3_deskSays 37 = .ok (.ireturn, 1) := by decide +kernel
set_option maxRecDepth 20000 in
theorem ggX3_guessFor_X3_deskSays : GoodIn wsX3_guessFor wsX3_deskSays := goodIn_r _ [6, 7, 8, 9, 10, 11, 12, 13, 14, 15, 16, 17, 18, 19, 20, 21, 22, 23, 24, 25, 26, 27, 28, 29, 30, 31, 32, 33, 34, 35, 36, 37, 38, 39] (by decide +kernel) (by decide +kernel)
set_option maxRecDepth 20000 in
theorem gX3_guessFor_X3_deskSays : GoodIn wsX3_guessFor (wsV RX3 83 RX3 yX3_deskSays wsX3_deskSays) := goodIn_app (goodIn_of _ (by decide +kernel)) ggX3_guessFor_X3_deskSays
theorem dX3_guessFor_0 : decode cX3_guessFor 0 = .ok (.aload_n 0, 1) := by decide +kernel
theorem dX3_guessFor_1 : decode cX3_guessFor 1 = .ok (.aload_n 0, 1) := by decide +kernel
theorem dX3_guessFor_2 : decode cX3_guessFor 2 = .ok (.getfield 21, 3) := by decide +kernel
theorem dX3_guessFor_5 : decode cX3_guessFor 5 = .ok (.iload_n 1, 1) := by decide +kernel
theorem dX3_guessFor_6 : decode cX3_guessFor 6 = .ok (.iaload, 1) := by decide +kernel
theorem dX3_guessFor_7 : decode cX3_guessFor 7 = .ok (.iconst 2, 1) := by decide +kernel
theorem dX3_guessFor_8 : decode cX3_guessFor 8 = .ok (.if_icmp .ge 7, 3) := by decide +kernel
theorem dX3_guessFor_11 : decode cX3_guessFor 11 = .ok (.iconst 0, 1) := by decide +kernel
theorem dX3_guessFor_12 : decode cX3_guessFor 12 = .ok (.goto 4, 3) := by decide +kernel
theorem dX3_guessFor_15 : decode cX3_guessFor 15 = .ok (.iconst 1, 1) := by decide +kernel
theorem dX3_guessFor_16 : decode cX3_guessFor 16 = .ok (.iload_n 1, 1) := by decide +kernel
theorem dX3_guessFor_17 : decode cX3_guessFor 17 = .ok (.invokevirtual 83, 3) := by decide +kernel
theorem dX3_guessFor_20 : decode cX3_guessFor 20 = .ok (.ireturn, 1) := by decide +kernel
set_option maxRecDepth 20000 in
theorem ggX3_go_X3_deskSays : GoodIn wsX3_go wsX3_deskSays := goodIn_r _ [8, 2, 9, 3, 10, 11, 12, 13, 14, 15, 16, 17, 18, 19, 20, 64, 65, 66, 67, 68, 69, 70, 71, 72, 73, 74, 75, 76, 77, 78, 79, 80, 81, 82] (by decide +kernel) (by decide +kernel)
set_option maxRecDepth 20000 in
theorem gX3_go_X3_deskSays : GoodIn wsX3_go (wsV RX3 83 RX3 yX3_deskSays wsX3_deskSays) := goodIn_app (goodIn_of _ (by decide +kernel)) ggX3_go_X3_deskSays
set_option maxRecDepth 20000 in
theorem ggX3_go_X3_countGuess : GoodIn wsX3_go wsX3_countGuess := goodIn_r _ [24, 25, 26, 27, 28, 29, 30, 31, 32, 33, 34, 35, 36, 3, 64, 65, 66, 67, 68, 69, 70, 71, 72, 73, 74] (by decide +kernel) (by decide +kernel)
set_option maxRecDepth 20000 in
theorem gX3_go_X3_countGuess : GoodIn wsX3_go (wsV RX3 87 RX3 yX3_countGuess wsX3_countGuess) := goodIn_app (goodIn_of _ (by decide +kernel)) ggX3_go_X3_countGuess
set_option maxRecDepth 20000 in
theorem ggX3_go_X3_moveChooser : GoodIn wsX3_go wsX3_moveChooser := goodIn_r _ [40, 1, 41, 42, 35, 43, 33, 34, 36, 64, 65, 66, 67, 68, 69, 70, 71, 72, 73, 74] (by decide +kernel) (by decide +kernel)
set_option maxRecDepth 20000 in
theorem gX3_go_X3_moveChooser : GoodIn wsX3_go (wsV RX3 91 RX3 yX3_moveChooser wsX3_moveChooser) := goodIn_app (goodIn_of _ (by decide +kernel)) ggX3_go_X3_moveChooser
set_option maxRecDepth 20000 in
theorem ggX3_go_X3_noteFor : GoodIn wsX3_go wsX3_noteFor := goodIn_r _ [47, 2, 3, 10, 11, 12, 13, 14, 15, 16, 17, 18, 19, 20, 64, 65, 66, 67, 68, 69, 70, 71, 72, 73, 74, 75, 76, 77, 78, 79, 80, 81, 82] (by decide +kernel) (by decide +kernel)
set_option maxRecDepth 20000 in
theorem gX3_go_X3_noteFor : GoodIn wsX3_go (wsV RX3 95 RX3 yX3_noteFor wsX3_noteFor) := goodIn_app (goodIn_of _ (by decide +kernel)) ggX3_go_X3_noteFor
set_option maxRecDepth 20000 in
theorem ggX3_go_X0_use : GoodIn wsX3_go wsX0_use := goodIn_r _ [51, 52, 53, 54, 55, 56, 57, 58, 42, 35, 43, 59, 34, 36, 75, 76, 77, 78, 79, 80, 81, 82] (by decide +kernel) (by decide +kernel)
set_option maxRecDepth 20000 in
theorem gX3_go_X0_use : GoodIn wsX3_go (wsV RX3 96 RX0 yX0_use wsX0_use) := goodIn_app (goodIn_of _ (by decide +kernel)) ggX3_go_X0_use
set_option maxRecDepth 20000 in
theorem ggX3_go_X0_changePath : GoodIn wsX3_go wsX0_changePath := goodIn_r _ [63, 20, 15, 16, 17, 18, 13, 19, 75, 76, 77, 78, 79, 80, 81, 82] (by decide +kernel) (by decide +kernel)
set_option maxRecDepth 20000 in
theorem gX3_go_X0_changePath : GoodIn wsX3_go (wsV RX3 100 RX0 yX0_changePath wsX0_changePath) := goodIn_app (goodIn_of _ (by decide +kernel)) ggX3_go_X0_changePath
theorem dX3_go_0 : decode cX3_go 0 = .ok (.aload_n 0, 1) := by decide +kernel
theorem dX3_go_1 : decode cX3_go 1 = .ok (.iconst 0, 1) := by decide +kernel
theorem dX3_go_2 : decode cX3_go 2 = .ok (.iload_n 1, 1) := by decide +kernel
theorem dX3_go_3 : decode cX3_go 3 = .ok (.invokevirtual 83, 3) := by decide +kernel
theorem dX3_go_6 : decode cX3_go 6 = .ok (.istore_n 3, 1) := by decide +kernel
theorem dX3_go_7 : decode cX3_go 7 = .ok (.aload_n 0, 1) := by decide +kernel
theorem dX3_go_8 : decode cX3_go 8 = .ok (.iconst 1, 1) := by decide +kernel
theorem dX3_go_9 : decode cX3_go 9 = .ok (.iload_n 1, 1) := by decide +kernel
theorem dX3_go_10 : decode cX3_go 10 = .ok (.invokevirtual 83, 3) := by decide +kernel
theorem dX3_go_13 : decode cX3_go 13 = .ok (.istore 4, 2) := by decide +kernel
theorem dX3_go_15 : decode cX3_go 15 = .ok (.aload_n 0, 1) := by decide +kernel
theorem dX3_go_16 : decode cX3_go 16 = .ok (.getfield 21, 3) := by decide +kernel
theorem dX3_go_19 : decode cX3_go 19 = .ok (.iload_n 1, 1) := by decide +kernel
theorem dX3_go_20 : decode cX3_go 20 = .ok (.iaload, 1) := by decide +kernel
theorem dX3_go_21 : decode cX3_go 21 = .ok (.iconst 2, 1) := by decide +kernel
theorem dX3_go_22 : decode cX3_go 22 = .ok (.if_icmp .ge 7, 3) := by decide +kernel
theorem dX3_go_25 : decode cX3_go 25 = .ok (.iload_n 3, 1) := by decide +kernel
theorem dX3_go_26 : decode cX3_go 26 = .ok (.goto 5, 3) := by decide +kernel
theorem dX3_go_29 : decode cX3_go 29 = .ok (.iload 4, 2) := by decide +kernel
theorem dX3_go_31 : decode cX3_go 31 = .ok (.iload_n 2, 1) := by decide +kernel
theorem dX3_go_32 : decode cX3_go 32 = .ok (.if_icmp .ne 7, 3) := by decide +kernel
theorem dX3_go_35 : decode cX3_go 35 = .ok (.iconst 1, 1) := by decide +kernel
theorem dX3_go_36 : decode cX3_go 36 = .ok (.goto 4, 3) := by decide +kernel
theorem dX3_go_39 : decode cX3_go 39 = .ok (.iconst 0, 1) := by decide +kernel
theorem dX3_go_40 : decode cX3_go 40 = .ok (.istore 5, 2) := by decide +kernel
theorem dX3_go_42 : decode cX3_go 42 = .ok (.aload_n 0, 1) := by decide +kernel
theorem dX3_go_43 : decode cX3_go 43 = .ok (.iload_n 1, 1) := by decide +kernel
theorem dX3_go_44 : decode cX3_go 44 = .ok (.iload_n 2, 1) := by decide +kernel
theorem dX3_go_45 : decode cX3_go 45 = .ok (.iload 5, 2) := by decide +kernel
theorem dX3_go_47 : decode cX3_go 47 = .ok (.invokevirtual 87, 3) := by decide +kernel
theorem dX3_go_50 : decode cX3_go 50 = .ok (.iload_n 3, 1) := by decide +kernel
theorem dX3_go_51 : decode cX3_go 51 = .ok (.iload 4, 2) := by decide +kernel
theorem dX3_go_53 : decode cX3_go 53 = .ok (.if_icmp .eq 19, 3) := by decide +kernel
theorem dX3_go_56 : decode cX3_go 56 = .ok (.aload_n 0, 1) := by decide +kernel
theorem dX3_go_57 : decode cX3_go 57 = .ok (.iload_n 1, 1) := by decide +kernel
theorem dX3_go_58 : decode cX3_go 58 = .ok (.iload 4, 2) := by decide +kernel
theorem dX3_go_60 : decode cX3_go 60 = .ok (.iload_n 2, 1) := by decide +kernel
theorem dX3_go_61 : decode cX3_go 61 = .ok (.if_icmp .ne 7, 3) := by decide +kernel
theorem dX3_go_64 : decode cX3_go 64 = .ok (.iconst 1, 1) := by decide +kernel
theorem dX3_go_65 : decode cX3_go 65 = .ok (.goto 4, 3) := by decide +kernel
theorem dX3_go_68 : decode cX3_go 68 = .ok (.iconst 0, 1) := by decide +kernel
theorem dX3_go_69 : decode cX3_go 69 = .ok (.invokevirtual 91, 3) := by decide +kernel
theorem dX3_go_72 : decode cX3_go 72 = .ok (.iconst 0, 1) := by decide +kernel
theorem dX3_go_73 : decode cX3_go 73 = .ok (.istore 6, 2) := by decide +kernel
theorem dX3_go_75 : decode cX3_go 75 = .ok (.iload 6, 2) := by decide +kernel
theorem dX3_go_77 : decode cX3_go 77 = .ok (.iconst 2, 1) := by decide +kernel
theorem dX3_go_78 : decode cX3_go 78 = .ok (.if_icmp .ge 46, 3) := by decide +kernel
theorem dX3_go_81 : decode cX3_go 81 = .ok (.aload_n 0, 1) := by decide +kernel
theorem dX3_go_82 : decode cX3_go 82 = .ok (.getfield 17, 3) := by decide +kernel
theorem dX3_go_85 : decode cX3_go 85 = .ok (.iload 6, 2) := by decide +kernel
theorem dX3_go_87 : decode cX3_go 87 = .ok (.aaload, 1) := by decide +kernel
theorem dX3_go_88 : decode cX3_go 88 = .ok (.aload_n 0, 1) := by decide +kernel
theorem dX3_go_89 : decode cX3_go 89 = .ok (.iload 6, 2) := by decide +kernel
theorem dX3_go_91 : decode cX3_go 91 = .ok (.iload_n 1, 1) := by decide +kernel
theorem dX3_go_92 : decode cX3_go 92 = .ok (.invokevirtual 95, 3) := by decide +kernel
theorem dX3_go_95 : decode cX3_go 95 = .ok (.iload_n 1, 1) := by decide +kernel
theorem dX3_go_96 : decode cX3_go 96 = .ok (.iload_n 2, 1) := by decide +kernel
theorem dX3_go_97 : decode cX3_go 97 = .ok (.aload_n 0, 1) := by decide +kernel
theorem dX3_go_98 : decode cX3_go 98 = .ok (.getfield 9, 3) := by decide +kernel
theorem dX3_go_101 : decode cX3_go 101 = .ok (.iconst 1, 1) := by decide +kernel
theorem dX3_go_102 : decode cX3_go 102 = .ok (.iaload, 1) := by decide +kernel
theorem dX3_go_103 : decode cX3_go 103 = .ok (.invokevirtual 96, 3) := by decide +kernel
theorem dX3_go_106 : decode cX3_go 106 = .ok (.aload_n 0, 1) := by decide +kernel
theorem dX3_go_107 : decode cX3_go 107 = .ok (.getfield 17, 3) := by decide +kernel
theorem dX3_go_110 : decode cX3_go 110 = .ok (.iload 6, 2) := by decide +kernel
theorem dX3_go_112 : decode cX3_go 112 = .ok (.aaload, 1) := by decide +kernel
theorem dX3_go_113 : decode cX3_go 113 = .ok (.iload_n 1, 1) := by decide +kernel
theorem dX3_go_114 : decode cX3_go 114 = .ok (.iload_n 2, 1) := by decide +kernel
theorem dX3_go_115 : decode cX3_go 115 = .ok (.invokevirtual 100, 3) := by decide +kernel
theorem dX3_go_118 : decode cX3_go 118 = .ok (.iinc 6 1, 3) := by decide +kernel
theorem dX3_go_121 : decode cX3_go 121 = .ok (.goto (-46), 3) := by decide +kernel
theorem dX3_go_124 : decode cX3_go 124 = .ok (.iload 5, 2) := by decide +kernel
theorem dX3_go_126 : decode cX3_go 126 = .ok (.ireturn, 1) := by decide +kernel
set_option maxRecDepth 20000 in
theorem ggX3_goAll_X3_go : GoodIn wsX3_goAll wsX3_go := goodIn_r _ [7, 8, 9, 10, 11, 12, 13, 6, 14, 15, 16, 17, 18, 19, 20, 21, 22, 23, 24, 25, 26, 27, 28, 29, 30, 31, 32, 33, 34, 35, 36, 37, 38, 39, 40, 41, 42, 43, 44, 45, 46, 47, 48, 49, 50, 51, 52, 53, 54, 55, 56, 57, 58, 59, 60, 61, 62, 63, 64, 65, 66, 67, 68, 69, 78, 79, 80, 81, 82, 83, 84, 85, 86, 87, 88, 89, 90, 91, 92, 93, 94, 95, 96] (by decide +kernel) (by decide +kernel)
set_option maxRecDepth 20000 in
theorem gX3_goAll_X3_go : GoodIn wsX3_goAll (wsV RX3 111 RX3 yX3_go wsX3_go) := goodIn_app (goodIn_of _ (by decide +kernel)) ggX3_goAll_X3_go
theorem dX3_goAll_0 : decode cX3_goAll 0 = .ok (.iconst 0, 1) := by decide +kernel
theorem dX3_goAll_1 : decode cX3_goAll 1 = .ok (.istore_n 2, 1) := by decide +kernel
theorem dX3_goAll_2 : decode cX3_goAll 2 = .ok (.iload_n 2, 1) := by decide +kernel
theorem dX3_goAll_3 : decode cX3_goAll 3 = .ok (.aload_n 1, 1) := by decide +kernel
theorem dX3_goAll_4 : decode cX3_goAll 4 = .ok (.getfield 103, 3) := by decide +kernel
theorem dX3_goAll_7 : decode cX3_goAll 7 = .ok (.if_icmp .ge 43, 3) := by decide +kernel
theorem dX3_goAll_10 : decode cX3_goAll 10 = .ok (.iload_n 2, 1) := by decide +kernel
theorem dX3_goAll_11 : decode cX3_goAll 11 = .ok (.sipush 300, 3) := by decide +kernel
theorem dX3_goAll_14 : decode cX3_goAll 14 = .ok (.if_icmp .ge 36, 3) := by decide +kernel
theorem dX3_goAll_17 : decode cX3_goAll 17 = .ok (.aload_n 1, 1) := by decide +kernel
theorem dX3_goAll_18 : decode cX3_goAll 18 = .ok (.getfield 108, 3) := by decide +kernel
theorem dX3_goAll_21 : decode cX3_goAll 21 = .ok (.iload_n 2, 1) := by decide +kernel
theorem dX3_goAll_22 : decode cX3_goAll 22 = .ok (.iaload, 1) := by decide +kernel
theorem dX3_goAll_23 : decode cX3_goAll 23 = .ok (.istore_n 3, 1) := by decide +kernel
theorem dX3_goAll_24 : decode cX3_goAll 24 = .ok (.aload_n 0, 1) := by decide +kernel
theorem dX3_goAll_25 : decode cX3_goAll 25 = .ok (.iload_n 3, 1) := by decide +kernel
theorem dX3_goAll_26 : decode cX3_goAll 26 = .ok (.iconst 2, 1) := by decide +kernel
theorem dX3_goAll_27 : decode cX3_goAll 27 = .ok (.idiv, 1) := by decide +kernel
theorem dX3_goAll_28 : decode cX3_goAll 28 = .ok (.iload_n 3, 1) := by decide +kernel
theorem dX3_goAll_29 : decode cX3_goAll 29 = .ok (.iconst 2, 1) := by decide +kernel
theorem dX3_goAll_30 : decode cX3_goAll 30 = .ok (.irem, 1) := by decide +kernel
theorem dX3_goAll_31 : decode cX3_goAll 31 = .ok (.iconst 1, 1) := by decide +kernel
theorem dX3_goAll_32 : decode cX3_goAll 32 = .ok (.if_icmp .ne 7, 3) := by decide +kernel
theorem dX3_goAll_35 : decode cX3_goAll 35 = .ok (.iconst 1, 1) := by decide +kernel
theorem dX3_goAll_36 : decode cX3_goAll 36 = .ok (.goto 4, 3) := by decide +kernel
theorem dX3_goAll_39 : decode cX3_goAll 39 = .ok (.iconst 0, 1) := by decide +kernel
theorem dX3_goAll_40 : decode cX3_goAll 40 = .ok (.invokevirtual 111, 3) := by decide +kernel
theorem dX3_goAll_43 : decode cX3_goAll 43 = .ok (.pop, 1) := by decide +kernel
theorem dX3_goAll_44 : decode cX3_goAll 44 = .ok (.iinc 2 1, 3) := by decide +kernel
theorem dX3_goAll_47 : decode cX3_goAll 47 = .ok (.goto (-45), 3) := by decide +kernel
theorem dX3_goAll_50 : decode cX3_goAll 50 = .ok (.return_, 1) := by decide +kernel
theorem dX3_countGuess_0 : decode cX3_countGuess 0 = .ok (.aload_n 0, 1) := by decide +kernel
theorem dX3_countGuess_1 : decode cX3_countGuess 1 = .ok (.dup, 1) := by decide +kernel
theorem dX3_countGuess_2 : decode cX3_countGuess 2 = .ok (.getfield 48, 3) := by decide +kernel
theorem dX3_countGuess_5 : decode cX3_countGuess 5 = .ok (.iconst 1, 1) := by decide +kernel
theorem dX3_countGuess_6 : decode cX3_countGuess 6 = .ok (.iadd, 1) := by decide +kernel
theorem dX3_countGuess_7 : decode cX3_countGuess 7 = .ok (.putfield 48, 3) := by decide +kernel
theorem dX3_countGuess_10 : decode cX3_countGuess 10 = .ok (.aload_n 0, 1) := by decide +kernel
theorem dX3_countGuess_11 : decode cX3_countGuess 11 = .ok (.getfield 24, 3) := by decide +kernel
theorem dX3_countGuess_14 : decode cX3_countGuess 14 = .ok (.iload_n 1, 1) := by decide +kernel
theorem dX3_countGuess_15 : decode cX3_countGuess 15 = .ok (.dup2, 1) := by decide +kernel
theorem dX3_countGuess_16 : decode cX3_countGuess 16 = .ok (.iaload, 1) := by decide +kernel
theorem dX3_countGuess_17 : decode cX3_countGuess 17 = .ok (.iconst 1, 1) := by decide +kernel
theorem dX3_countGuess_18 : decode cX3_countGuess 18 = .ok (.iadd, 1) := by decide +kernel
theorem dX3_countGuess_19 : decode cX3_countGuess 19 = .ok (.iastore, 1) := by decide +kernel
theorem dX3_countGuess_20 : decode cX3_countGuess 20 = .ok (.iload_n 2, 1) := by decide +kernel
theorem dX3_countGuess_21 : decode cX3_countGuess 21 = .ok (.ifCond .eq 13, 3) := by decide +kernel
theorem dX3_countGuess_24 : decode cX3_countGuess 24 = .ok (.aload_n 0, 1) := by decide +kernel
theorem dX3_countGuess_25 : decode cX3_countGuess 25 = .ok (.getfield 27, 3) := by decide +kernel
theorem dX3_countGuess_28 : decode cX3_countGuess 28 = .ok (.iload_n 1, 1) := by decide +kernel
theorem dX3_countGuess_29 : decode cX3_countGuess 29 = .ok (.dup2, 1) := by decide +kernel
theorem dX3_countGuess_30 : decode cX3_countGuess 30 = .ok (.iaload, 1) := by decide +kernel
theorem dX3_countGuess_31 : decode cX3_countGuess 31 = .ok (.iconst 1, 1) := by decide +kernel
theorem dX3_countGuess_32 : decode cX3_countGuess 32 = .ok (.iadd, 1) := by decide +kernel
theorem dX3_countGuess_33 : decode cX3_countGuess 33 = .ok (.iastore, 1) := by decide +kernel
theorem dX3_countGuess_34 : decode cX3_countGuess 34 = .ok (.iload_n 3, 1) := by decide +kernel
theorem dX3_countGuess_35 : decode cX3_countGuess 35 = .ok (.ifCond .eq 61, 3) := by decide +kernel
theorem dX3_countGuess_38 : decode cX3_countGuess 38 = .ok (.aload_n 0, 1) := by decide +kernel
theorem dX3_countGuess_39 : decode cX3_countGuess 39 = .ok (.dup, 1) := by decide +kernel
theorem dX3_countGuess_40 : decode cX3_countGuess 40 = .ok (.getfield 52, 3) := by decide +kernel
theorem dX3_countGuess_43 : decode cX3_countGuess 43 = .ok (.iconst 1, 1) := by decide +kernel
theorem dX3_countGuess_44 : decode cX3_countGuess 44 = .ok (.iadd, 1) := by decide +kernel
theorem dX3_countGuess_45 : decode cX3_countGuess 45 = .ok (.putfield 52, 3) := by decide +kernel
theorem dX3_countGuess_48 : decode cX3_countGuess 48 = .ok (.aload_n 0, 1) := by decide +kernel
theorem dX3_countGuess_49 : decode cX3_countGuess 49 = .ok (.getfield 30, 3) := by decide +kernel
theorem dX3_countGuess_52 : decode cX3_countGuess 52 = .ok (.iload_n 1, 1) := by decide +kernel
theorem dX3_countGuess_53 : decode cX3_countGuess 53 = .ok (.dup2, 1) := by decide +kernel
theorem dX3_countGuess_54 : decode cX3_countGuess 54 = .ok (.iaload, 1) := by decide +kernel
theorem dX3_countGuess_55 : decode cX3_countGuess 55 = .ok (.iconst 1, 1) := by decide +kernel
theorem dX3_countGuess_56 : decode cX3_countGuess 56 = .ok (.iadd, 1) := by decide +kernel
theorem dX3_countGuess_57 : decode cX3_countGuess 57 = .ok (.iastore, 1) := by decide +kernel
theorem dX3_countGuess_58 : decode cX3_countGuess 58 = .ok (.aload_n 0, 1) := by decide +kernel
theorem dX3_countGuess_59 : decode cX3_countGuess 59 = .ok (.dup, 1) := by decide +kernel
theorem dX3_countGuess_60 : decode cX3_countGuess 60 = .ok (.getfield 55, 3) := by decide +kernel
theorem dX3_countGuess_63 : decode cX3_countGuess 63 = .ok (.iconst 1, 1) := by decide +kernel
theorem dX3_countGuess_64 : decode cX3_countGuess 64 = .ok (.iadd, 1) := by decide +kernel
theorem dX3_countGuess_65 : decode cX3_countGuess 65 = .ok (.putfield 55, 3) := by decide +kernel
theorem dX3_countGuess_68 : decode cX3_countGuess 68 = .ok (.aload_n 0, 1) := by decide +kernel
theorem dX3_countGuess_69 : decode cX3_countGuess 69 = .ok (.dup, 1) := by decide +kernel
theorem dX3_countGuess_70 : decode cX3_countGuess 70 = .ok (.getfield 58, 3) := by decide +kernel
theorem dX3_countGuess_73 : decode cX3_countGuess 73 = .ok (.iconst 1, 1) := by decide +kernel
theorem dX3_countGuess_74 : decode cX3_countGuess 74 = .ok (.iadd, 1) := by decide +kernel
theorem dX3_countGuess_75 : decode cX3_countGuess 75 = .ok (.putfield 58, 3) := by decide +kernel
theorem dX3_countGuess_78 : decode cX3_countGuess 78 = .ok (.aload_n 0, 1) := by decide +kernel
theorem dX3_countGuess_79 : decode cX3_countGuess 79 = .ok (.aload_n 0, 1) := by decide +kernel
theorem dX3_countGuess_80 : decode cX3_countGuess 80 = .ok (.getfield 61, 3) := by decide +kernel
theorem dX3_countGuess_83 : decode cX3_countGuess 83 = .ok (.aload_n 0, 1) := by decide +kernel
theorem dX3_countGuess_84 : decode cX3_countGuess 84 = .ok (.getfield 58, 3) := by decide +kernel
theorem dX3_countGuess_87 : decode cX3_countGuess 87 = .ok (.invokestatic 115, 3) := by decide +kernel
theorem dX3_countGuess_90 : decode cX3_countGuess 90 = .ok (.putfield 61, 3) := by decide +kernel
theorem dX3_countGuess_93 : decode cX3_countGuess 93 = .ok (.goto 23, 3) := by decide +kernel
theorem dX3_countGuess_96 : decode cX3_countGuess 96 = .ok (.aload_n 0, 1) := by decide +kernel
theorem dX3_countGuess_97 : decode cX3_countGuess 97 = .ok (.dup, 1) := by decide +kernel
theorem dX3_countGuess_98 : decode cX3_countGuess 98 = .ok (.getfield 55, 3) := by decide +kernel
theorem dX3_countGuess_101 : decode cX3_countGuess 101 = .ok (.aload_n 0, 1) := by decide +kernel
theorem dX3_countGuess_102 : decode cX3_countGuess 102 = .ok (.getfield 9, 3) := by decide +kernel
theorem dX3_countGuess_105 : decode cX3_countGuess 105 = .ok (.iconst 2, 1) := by decide +kernel
theorem dX3_countGuess_106 : decode cX3_countGuess 106 = .ok (.iaload, 1) := by decide +kernel
theorem dX3_countGuess_107 : decode cX3_countGuess 107 = .ok (.isub, 1) := by decide +kernel
theorem dX3_countGuess_108 : decode cX3_countGuess 108 = .ok (.putfield 55, 3) := by decide +kernel
theorem dX3_countGuess_111 : decode cX3_countGuess 111 = .ok (.aload_n 0, 1) := by decide +kernel
theorem dX3_countGuess_112 : decode cX3_countGuess 112 = .ok (.iconst 0, 1) := by decide +kernel
theorem dX3_countGuess_113 : decode cX3_countGuess 113 = .ok (.putfield 58, 3) := by decide +kernel
theorem dX3_countGuess_116 : decode cX3_countGuess 116 = .ok (.return_, 1) := by decide +kernel
theorem dX3_moveChooser_0 : decode cX3_moveChooser 0 = .ok (.iload_n 2, 1) := by decide +kernel
theorem dX3_moveChooser_1 : decode cX3_moveChooser 1 = .ok (.ifCond .eq 24, 3) := by decide +kernel
theorem dX3_moveChooser_4 : decode cX3_moveChooser 4 = .ok (.aload_n 0, 1) := by decide +kernel
theorem dX3_moveChooser_5 : decode cX3_moveChooser 5 = .ok (.getfield 21, 3) := by decide +kernel
theorem dX3_moveChooser_8 : decode cX3_moveChooser 8 = .ok (.iload_n 1, 1) := by decide +kernel
theorem dX3_moveChooser_9 : decode cX3_moveChooser 9 = .ok (.aload_n 0, 1) := by decide +kernel
theorem dX3_moveChooser_10 : decode cX3_moveChooser 10 = .ok (.getfield 21, 3) := by decide +kernel
theorem dX3_moveChooser_13 : decode cX3_moveChooser 13 = .ok (.iload_n 1, 1) := by decide +kernel
theorem dX3_moveChooser_14 : decode cX3_moveChooser 14 = .ok (.iaload, 1) := by decide +kernel
theorem dX3_moveChooser_15 : decode cX3_moveChooser 15 = .ok (.iconst 1, 1) := by decide +kernel
theorem dX3_moveChooser_16 : decode cX3_moveChooser 16 = .ok (.iadd, 1) := by decide +kernel
theorem dX3_moveChooser_17 : decode cX3_moveChooser 17 = .ok (.iconst 3, 1) := by decide +kernel
theorem dX3_moveChooser_18 : decode cX3_moveChooser 18 = .ok (.invokestatic 120, 3) := by decide +kernel
theorem dX3_moveChooser_21 : decode cX3_moveChooser 21 = .ok (.iastore, 1) := by decide +kernel
theorem dX3_moveChooser_22 : decode cX3_moveChooser 22 = .ok (.goto 21, 3) := by decide +kernel
theorem dX3_moveChooser_25 : decode cX3_moveChooser 25 = .ok (.aload_n 0, 1) := by decide +kernel
theorem dX3_moveChooser_26 : decode cX3_moveChooser 26 = .ok (.getfield 21, 3) := by decide +kernel
theorem dX3_moveChooser_29 : decode cX3_moveChooser 29 = .ok (.iload_n 1, 1) := by decide +kernel
theorem dX3_moveChooser_30 : decode cX3_moveChooser 30 = .ok (.aload_n 0, 1) := by decide +kernel
theorem dX3_moveChooser_31 : decode cX3_moveChooser 31 = .ok (.getfield 21, 3) := by decide +kernel
theorem dX3_moveChooser_34 : decode cX3_moveChooser 34 = .ok (.iload_n 1, 1) := by decide +kernel
theorem dX3_moveChooser_35 : decode cX3_moveChooser 35 = .ok (.iaload, 1) := by decide +kernel
theorem dX3_moveChooser_36 : decode cX3_moveChooser 36 = .ok (.iconst 1, 1) := by decide +kernel
theorem dX3_moveChooser_37 : decode cX3_moveChooser 37 = .ok (.isub, 1) := by decide +kernel
theorem dX3_moveChooser_38 : decode cX3_moveChooser 38 = .ok (.iconst 0, 1) := by decide +kernel
theorem dX3_moveChooser_39 : decode cX3_moveChooser 39 = .ok (.invokestatic 115, 3) := by decide +kernel
theorem dX3_moveChooser_42 : decode cX3_moveChooser 42 = .ok (.iastore, 1) := by decide +kernel
theorem dX3_moveChooser_43 : decode cX3_moveChooser 43 = .ok (.return_, 1) := by decide +kernel
theorem dX4_init_0 : decode cX4_init 0 = .ok (.aload_n 0, 1) := by decide +kernel
theorem dX4_init_1 : decode cX4_init 1 = .ok (.invokespecial 3, 3) := by decide +kernel
theorem dX4_init_4 : decode cX4_init 4 = .ok (.aload_n 0, 1) := by decide +kernel
theorem dX4_init_5 : decode cX4_init 5 = .ok (.bipush 80, 2) := by decide +kernel
theorem dX4_init_7 : decode cX4_init 7 = .ok (.newarray .int, 2) := by decide +kernel
theorem dX4_init_9 : decode cX4_init 9 = .ok (.putfield 11, 3) := by decide +kernel
theorem dX4_init_12 : decode cX4_init 12 = .ok (.aload_n 0, 1) := by decide +kernel
theorem dX4_init_13 : decode cX4_init 13 = .ok (.sipush 300, 3) := by decide +kernel
theorem dX4_init_16 : decode cX4_init 16 = .ok (.newarray .int, 2) := by decide +kernel
theorem dX4_init_18 : decode cX4_init 18 = .ok (.putfield 15, 3) := by decide +kernel
theorem dX4_init_21 : decode cX4_init 21 = .ok (.aload_n 0, 1) := by decide +kernel
theorem dX4_init_22 : decode cX4_init 22 = .ok (.iconst 4, 1) := by decide +kernel
theorem dX4_init_23 : decode cX4_init 23 = .ok (.newarray .int, 2) := by decide +kernel
theorem dX4_init_25 : decode cX4_init 25 = .ok (.putfield 18, 3) := by decide +kernel
theorem dX4_init_28 : decode cX4_init 28 = .ok (.return_, 1) := by decide +kernel
theorem dX4_add_0 : decode cX4_add 0 = .ok (.aload_n 0, 1) := by decide +kernel
theorem dX4_add_1 : decode cX4_add 1 = .ok (.getfield 21, 3) := by decide +kernel
theorem dX4_add_4 : decode cX4_add 4 = .ok (.bipush 80, 2) := by decide +kernel
theorem dX4_add_6 : decode cX4_add 6 = .ok (.if_icmp .lt 5, 3) := by decide +kernel
theorem dX4_add_9 : decode cX4_add 9 = .ok (.iconst 0, 1) := by decide +kernel
theorem dX4_add_10 : decode cX4_add 10 = .ok (.ireturn, 1) := by decide +kernel
theorem dX4_add_11 : decode cX4_add 11 = .ok (.aload_n 0, 1) := by decide +kernel
theorem dX4_add_12 : decode cX4_add 12 = .ok (.getfield 11, 3) := by decide +kernel
theorem dX4_add_15 : decode cX4_add 15 = .ok (.aload_n 0, 1) := by decide +kernel
theorem dX4_add_16 : decode cX4_add 16 = .ok (.getfield 21, 3) := by decide +kernel
theorem dX4_add_19 : decode cX4_add 19 = .ok (.iload_n 1, 1) := by decide +kernel
theorem dX4_add_20 : decode cX4_add 20 = .ok (.iastore, 1) := by decide +kernel
theorem dX4_add_21 : decode cX4_add 21 = .ok (.aload_n 0, 1) := by decide +kernel
theorem dX4_add_22 : decode cX4_add 22 = .ok (.dup, 1) := by decide +kernel
theorem dX4_add_23 : decode cX4_add 23 = .ok (.getfield 21, 3) := by decide +kernel
theorem dX4_add_26 : decode cX4_add 26 = .ok (.iconst 1, 1) := by decide +kernel
theorem dX4_add_27 : decode cX4_add 27 = .ok (.iadd, 1) := by decide +kernel
theorem dX4_add_28 : decode cX4_add 28 = .ok (.putfield 21, 3) := by decide +kernel
theorem dX4_add_31 : decode cX4_add 31 = .ok (.iconst 1, 1) := by decide +kernel
theorem dX4_add_32 : decode cX4_add 32 = .ok (.ireturn, 1) := by decide +kernel
set_option maxRecDepth 20000 in
theorem ggX4_isPlayable_X4_read : GoodIn wsX4_isPlayable wsX4_read := goodIn_r _ [7, 2, 8, 9, 10, 11, 1, 12, 13, 14, 6, 15, 16, 17, 18, 19, 20, 21, 22, 23, 24, 25, 26, 27, 28, 29, 30, 31, 32, 33, 34, 35, 36, 37, 38, 39, 40, 41, 42] (by decide +kernel) (by decide +kernel)
set_option maxRecDepth 20000 in
theorem gX4_isPlayable_X4_read : GoodIn wsX4_isPlayable (wsV RX4 25 RX4 yX4_read wsX4_read) := goodIn_app (goodIn_of _ (by decide +kernel)) ggX4_isPlayable_X4_read
theorem dX4_isPlayable_0 : decode cX4_isPlayable 0 = .ok (.aload_n 0, 1) := by decide +kernel
theorem dX4_isPlayable_1 : decode cX4_isPlayable 1 = .ok (.invokevirtual 25, 3) := by decide +kernel
theorem dX4_isPlayable_4 : decode cX4_isPlayable 4 = .ok (.ldc 29, 2) := by decide +kernel
theorem dX4_isPlayable_6 : decode cX4_isPlayable 6 = .ok (.if_icmp .ne 17, 3) := by decide +kernel
theorem dX4_isPlayable_9 : decode cX4_isPlayable 9 = .ok (.aload_n 0, 1) := by decide +kernel
theorem dX4_isPlayable_10 : decode cX4_isPlayable 10 = .ok (.getfield 30, 3) := by decide +kernel
theorem dX4_isPlayable_13 : decode cX4_isPlayable 13 = .ok (.sipush 300, 3) := by decide +kernel
theorem dX4_isPlayable_16 : decode cX4_isPlayable 16 = .ok (.if_icmp .gt 7, 3) := by decide +kernel
theorem dX4_isPlayable_19 : decode cX4_isPlayable 19 = .ok (.iconst 1, 1) := by decide +kernel
theorem dX4_isPlayable_20 : decode cX4_isPlayable 20 = .ok (.goto 4, 3) := by decide +kernel
theorem dX4_isPlayable_23 : decode cX4_isPlayable 23 = .ok (.iconst 0, 1) := by decide +kernel
theorem dX4_isPlayable_24 : decode cX4_isPlayable 24 = .ok (.ireturn, 1) := by decide +kernel
set_option maxRecDepth 20000 in
theorem ggX4_read_X4_readCharacter : GoodIn wsX4_read wsX4_readCharacter := goodIn_r _ [11, 3, 12, 13, 14, 10, 15, 1, 16, 17, 18, 19, 20, 21, 2, 22, 23, 24, 25, 26, 27, 28, 29, 30, 31, 32, 33, 34, 35, 36, 37, 38] (by decide +kernel) (by decide +kernel)
set_option maxRecDepth 20000 in
theorem gX4_read_X4_readCharacter : GoodIn wsX4_read (wsV RX4 39 RX4 yX4_readCharacter wsX4_readCharacter) := goodIn_app (goodIn_of _ (by decide +kernel)) ggX4_read_X4_readCharacter
theorem dX4_read_0 : decode cX4_read 0 = .ok (.aload_n 0, 1) := by decide +kernel
theorem dX4_read_1 : decode cX4_read 1 = .ok (.iconst 0, 1) := by decide +kernel
theorem dX4_read_2 : decode cX4_read 2 = .ok (.putfield 30, 3) := by decide +kernel
theorem dX4_read_5 : decode cX4_read 5 = .ok (.aload_n 0, 1) := by decide +kernel
theorem dX4_read_6 : decode cX4_read 6 = .ok (.iconst 0, 1) := by decide +kernel
theorem dX4_read_7 : decode cX4_read 7 = .ok (.putfield 33, 3) := by decide +kernel
theorem dX4_read_10 : decode cX4_read 10 = .ok (.aload_n 0, 1) := by decide +kernel
theorem dX4_read_11 : decode cX4_read 11 = .ok (.iconst 0, 1) := by decide +kernel
theorem dX4_read_12 : decode cX4_read 12 = .ok (.putfield 36, 3) := by decide +kernel
theorem dX4_read_15 : decode cX4_read 15 = .ok (.iconst 0, 1) := by decide +kernel
theorem dX4_read_16 : decode cX4_read 16 = .ok (.istore_n 1, 1) := by decide +kernel
theorem dX4_read_17 : decode cX4_read 17 = .ok (.iload_n 1, 1) := by decide +kernel
theorem dX4_read_18 : decode cX4_read 18 = .ok (.aload_n 0, 1) := by decide +kernel
theorem dX4_read_19 : decode cX4_read 19 = .ok (.getfield 21, 3) := by decide +kernel
theorem dX4_read_22 : decode cX4_read 22 = .ok (.if_icmp .ge 24, 3) := by decide +kernel
theorem dX4_read_25 : decode cX4_read 25 = .ok (.aload_n 0, 1) := by decide +kernel
theorem dX4_read_26 : decode cX4_read 26 = .ok (.aload_n 0, 1) := by decide +kernel
theorem dX4_read_27 : decode cX4_read 27 = .ok (.getfield 11, 3) := by decide +kernel
theorem dX4_read_30 : decode cX4_read 30 = .ok (.iload_n 1, 1) := by decide +kernel
theorem dX4_read_31 : decode cX4_read 31 = .ok (.iaload, 1) := by decide +kernel
theorem dX4_read_32 : decode cX4_read 32 = .ok (.invokevirtual 39, 3) := by decide +kernel
theorem dX4_read_35 : decode cX4_read 35 = .ok (.ifCond .ne 5, 3) := by decide +kernel
theorem dX4_read_38 : decode cX4_read 38 = .ok (.iload_n 1, 1) := by decide +kernel
theorem dX4_read_39 : decode cX4_read 39 = .ok (.ireturn, 1) := by decide +kernel
theorem dX4_read_40 : decode cX4_read 40 = .ok (.iinc 1 1, 3) := by decide +kernel
theorem dX4_read_43 : decode cX4_read 43 = .ok (.goto (-26), 3) := by decide +kernel
theorem dX4_read_46 : decode cX4_read 46 = .ok (.aload_n 0, 1) := by decide +kernel
theorem dX4_read_47 : decode cX4_read 47 = .ok (.getfield 33, 3) := by decide +kernel
theorem dX4_read_50 : decode cX4_read 50 = .ok (.ifCond .ne 22, 3) := by decide +kernel
theorem dX4_read_53 : decode cX4_read 53 = .ok (.aload_n 0, 1) := by decide +kernel
theorem dX4_read_54 : decode cX4_read 54 = .ok (.getfield 36, 3) := by decide +kernel
theorem dX4_read_57 : decode cX4_read 57 = .ok (.ifCond .eq 11, 3) := by decide +kernel
theorem dX4_read_60 : decode cX4_read 60 = .ok (.aload_n 0, 1) := by decide +kernel
theorem dX4_read_61 : decode cX4_read 61 = .ok (.getfield 36, 3) := by decide +kernel
theorem dX4_read_64 : decode cX4_read 64 = .ok (.iconst 1, 1) := by decide +kernel
theorem dX4_read_65 : decode cX4_read 65 = .ok (.if_icmp .ne 7, 3) := by decide +kernel
theorem dX4_read_68 : decode cX4_read 68 = .ok (.iconst 1, 1) := by decide +kernel
theorem dX4_read_69 : decode cX4_read 69 = .ok (.goto 4, 3) := by decide +kernel
theorem dX4_read_72 : decode cX4_read 72 = .ok (.iconst 0, 1) := by decide +kernel
theorem dX4_read_73 : decode cX4_read 73 = .ok (.istore_n 1, 1) := by decide +kernel
theorem dX4_read_74 : decode cX4_read 74 = .ok (.iload_n 1, 1) := by decide +kernel
theorem dX4_read_75 : decode cX4_read 75 = .ok (.ifCond .eq 8, 3) := by decide +kernel
theorem dX4_read_78 : decode cX4_read 78 = .ok (.ldc 29, 2) := by decide +kernel
theorem dX4_read_80 : decode cX4_read 80 = .ok (.goto 7, 3) := by decide +kernel
theorem dX4_read_83 : decode cX4_read 83 = .ok (.aload_n 0, 1) := by decide +kernel
theorem dX4_read_84 : decode cX4_read 84 = .ok (.getfield 21, 3) := by decide +kernel
theorem dX4_read_87 : decode cX4_read 87 = .ok (.ireturn, 1) := by decide +kernel
set_option maxRecDepth 20000 in
theorem ggX4_readCharacter_X4_readSign : GoodIn wsX4_readCharacter wsX4_readSign := goodIn_r _ [6, 7, 8, 9, 1, 24, 25, 26, 27, 28, 29, 30, 31] (by decide +kernel) (by decide +kernel)
set_option maxRecDepth 20000 in
theorem gX4_readCharacter_X4_readSign : GoodIn wsX4_readCharacter (wsV RX4 43 RX4 yX4_readSign wsX4_readSign) := goodIn_app (goodIn_of _ (by decide +kernel)) ggX4_readCharacter_X4_readSign
set_option maxRecDepth 20000 in
theorem ggX4_readCharacter_X4_readDigit : GoodIn wsX4_readCharacter wsX4_readDigit := goodIn_r _ [13, 14, 15, 1, 16, 17, 18, 5, 19, 7, 8, 24, 25, 26, 27, 28, 29, 30, 31] (by decide +kernel) (by decide +kernel)
set_option maxRecDepth 20000 in
theorem gX4_readCharacter_X4_readDigit : GoodIn wsX4_readCharacter (wsV RX4 46 RX4 yX4_readDigit wsX4_readDigit) := goodIn_app (goodIn_of _ (by decide +kernel)) ggX4_readCharacter_X4_readDigit
set_option maxRecDepth 20000 in
theorem ggX4_readCharacter_X4_readItem : GoodIn wsX4_readCharacter wsX4_readItem := goodIn_r _ [23, 9, 1, 14, 15, 7, 24, 25, 26, 27, 28, 29, 30, 31] (by decide +kernel) (by decide +kernel)
set_option maxRecDepth 20000 in
theorem gX4_readCharacter_X4_readItem : GoodIn wsX4_readCharacter (wsV RX4 49 RX4 yX4_readItem wsX4_readItem) := goodIn_app (goodIn_of _ (by decide +kernel)) ggX4_readCharacter_X4_readItem
theorem dX4_readCharacter_0 : decode cX4_readCharacter 0 = .ok (.aload_n 0, 1) := by decide +kernel
theorem dX4_readCharacter_1 : decode cX4_readCharacter 1 = .ok (.getfield 36, 3) := by decide +kernel
theorem dX4_readCharacter_4 : decode cX4_readCharacter 4 = .ok (.lookupswitch 40 #[(2, 28), (3, 34)], 28) := by decide +kernel
theorem dX4_readCharacter_32 : decode cX4_readCharacter 32 = .ok (.aload_n 0, 1) := by decide +kernel
theorem dX4_readCharacter_33 : decode cX4_readCharacter 33 = .ok (.iload_n 1, 1) := by decide +kernel
theorem dX4_readCharacter_34 : decode cX4_readCharacter 34 = .ok (.invokevirtual 43, 3) := by decide +kernel
theorem dX4_readCharacter_37 : decode cX4_readCharacter 37 = .ok (.ireturn, 1) := by decide +kernel
theorem dX4_readCharacter_38 : decode cX4_readCharacter 38 = .ok (.aload_n 0, 1) := by decide +kernel
theorem dX4_readCharacter_39 : decode cX4_readCharacter 39 = .ok (.iload_n 1, 1) := by decide +kernel
theorem dX4_readCharacter_40 : decode cX4_readCharacter 40 = .ok (.invokevirtual 46, 3) := by decide +kernel
theorem dX4_readCharacter_43 : decode cX4_readCharacter 43 = .ok (.ireturn, 1) := by decide +kernel
theorem dX4_readCharacter_44 : decode cX4_readCharacter 44 = .ok (.aload_n 0, 1) := by decide +kernel
theorem dX4_readCharacter_45 : decode cX4_readCharacter 45 = .ok (.iload_n 1, 1) := by decide +kernel
theorem dX4_readCharacter_46 : decode cX4_readCharacter 46 = .ok (.invokevirtual 49, 3) := by decide +kernel
theorem dX4_readCharacter_49 : decode cX4_readCharacter 49 = .ok (.ireturn, 1) := by decide +kernel
theorem dX4_readItem_0 : decode cX4_readItem 0 = .ok (.iload_n 1, 1) := by decide +kernel
theorem dX4_readItem_1 : decode cX4_readItem 1 = .ok (.bipush 97, 2) := by decide +kernel
theorem dX4_readItem_3 : decode cX4_readItem 3 = .ok (.if_icmp .lt 24, 3) := by decide +kernel
theorem dX4_readItem_6 : decode cX4_readItem 6 = .ok (.iload_n 1, 1) := by decide +kernel
theorem dX4_readItem_7 : decode cX4_readItem 7 = .ok (.bipush 122, 2) := by decide +kernel
theorem dX4_readItem_9 : decode cX4_readItem 9 = .ok (.if_icmp .gt 18, 3) := by decide +kernel
theorem dX4_readItem_12 : decode cX4_readItem 12 = .ok (.aload_n 0, 1) := by decide +kernel
theorem dX4_readItem_13 : decode cX4_readItem 13 = .ok (.iload_n 1, 1) := by decide +kernel
theorem dX4_readItem_14 : decode cX4_readItem 14 = .ok (.bipush 97, 2) := by decide +kernel
theorem dX4_readItem_16 : decode cX4_readItem 16 = .ok (.isub, 1) := by decide +kernel
theorem dX4_readItem_17 : decode cX4_readItem 17 = .ok (.putfield 52, 3) := by decide +kernel
theorem dX4_readItem_20 : decode cX4_readItem 20 = .ok (.aload_n 0, 1) := by decide +kernel
theorem dX4_readItem_21 : decode cX4_readItem 21 = .ok (.iconst 2, 1) := by decide +kernel
theorem dX4_readItem_22 : decode cX4_readItem 22 = .ok (.putfield 36, 3) := by decide +kernel
theorem dX4_readItem_25 : decode cX4_readItem 25 = .ok (.iconst 1, 1) := by decide +kernel
theorem dX4_readItem_26 : decode cX4_readItem 26 = .ok (.ireturn, 1) := by decide +kernel
theorem dX4_readItem_27 : decode cX4_readItem 27 = .ok (.iload_n 1, 1) := by decide +kernel
theorem dX4_readItem_28 : decode cX4_readItem 28 = .ok (.bipush 40, 2) := by decide +kernel
theorem dX4_readItem_30 : decode cX4_readItem 30 = .ok (.if_icmp .ne 41, 3) := by decide +kernel
theorem dX4_readItem_33 : decode cX4_readItem 33 = .ok (.aload_n 0, 1) := by decide +kernel
theorem dX4_readItem_34 : decode cX4_readItem 34 = .ok (.getfield 33, 3) := by decide +kernel
theorem dX4_readItem_37 : decode cX4_readItem 37 = .ok (.iconst 4, 1) := by decide +kernel
theorem dX4_readItem_38 : decode cX4_readItem 38 = .ok (.if_icmp .ge 33, 3) := by decide +kernel
theorem dX4_readItem_41 : decode cX4_readItem 41 = .ok (.aload_n 0, 1) := by decide +kernel
theorem dX4_readItem_42 : decode cX4_readItem 42 = .ok (.getfield 18, 3) := by decide +kernel
theorem dX4_readItem_45 : decode cX4_readItem 45 = .ok (.aload_n 0, 1) := by decide +kernel
theorem dX4_readItem_46 : decode cX4_readItem 46 = .ok (.getfield 33, 3) := by decide +kernel
theorem dX4_readItem_49 : decode cX4_readItem 49 = .ok (.aload_n 0, 1) := by decide +kernel
theorem dX4_readItem_50 : decode cX4_readItem 50 = .ok (.getfield 30, 3) := by decide +kernel
theorem dX4_readItem_53 : decode cX4_readItem 53 = .ok (.iastore, 1) := by decide +kernel
theorem dX4_readItem_54 : decode cX4_readItem 54 = .ok (.aload_n 0, 1) := by decide +kernel
theorem dX4_readItem_55 : decode cX4_readItem 55 = .ok (.dup, 1) := by decide +kernel
theorem dX4_readItem_56 : decode cX4_readItem 56 = .ok (.getfield 33, 3) := by decide +kernel
theorem dX4_readItem_59 : decode cX4_readItem 59 = .ok (.iconst 1, 1) := by decide +kernel
theorem dX4_readItem_60 : decode cX4_readItem 60 = .ok (.iadd, 1) := by decide +kernel
theorem dX4_readItem_61 : decode cX4_readItem 61 = .ok (.putfield 33, 3) := by decide +kernel
theorem dX4_readItem_64 : decode cX4_readItem 64 = .ok (.aload_n 0, 1) := by decide +kernel
theorem dX4_readItem_65 : decode cX4_readItem 65 = .ok (.iconst 0, 1) := by decide +kernel
theorem dX4_readItem_66 : decode cX4_readItem 66 = .ok (.putfield 36, 3) := by decide +kernel
theorem dX4_readItem_69 : decode cX4_readItem 69 = .ok (.iconst 1, 1) := by decide +kernel
theorem dX4_readItem_70 : decode cX4_readItem 70 = .ok (.ireturn, 1) := by decide +kernel
theorem dX4_readItem_71 : decode cX4_readItem 71 = .ok (.iload_n 1, 1) := by decide +kernel
theorem dX4_readItem_72 : decode cX4_readItem 72 = .ok (.bipush 41, 2) := by decide +kernel
theorem dX4_readItem_74 : decode cX4_readItem 74 = .ok (.if_icmp .ne 25, 3) := by decide +kernel
theorem dX4_readItem_77 : decode cX4_readItem 77 = .ok (.aload_n 0, 1) := by decide +kernel
theorem dX4_readItem_78 : decode cX4_readItem 78 = .ok (.getfield 33, 3) := by decide +kernel
theorem dX4_readItem_81 : decode cX4_readItem 81 = .ok (.ifCond .le 18, 3) := by decide +kernel
theorem dX4_readItem_84 : decode cX4_readItem 84 = .ok (.aload_n 0, 1) := by decide +kernel
theorem dX4_readItem_85 : decode cX4_readItem 85 = .ok (.getfield 36, 3) := by decide +kernel
theorem dX4_readItem_88 : decode cX4_readItem 88 = .ok (.iconst 1, 1) := by decide +kernel
theorem dX4_readItem_89 : decode cX4_readItem 89 = .ok (.if_icmp .ne 10, 3) := by decide +kernel
theorem dX4_readItem_92 : decode cX4_readItem 92 = .ok (.aload_n 0, 1) := by decide +kernel
theorem dX4_readItem_93 : decode cX4_readItem 93 = .ok (.iconst 3, 1) := by decide +kernel
theorem dX4_readItem_94 : decode cX4_readItem 94 = .ok (.putfield 36, 3) := by decide +kernel
theorem dX4_readItem_97 : decode cX4_readItem 97 = .ok (.iconst 1, 1) := by decide +kernel
theorem dX4_readItem_98 : decode cX4_readItem 98 = .ok (.ireturn, 1) := by decide +kernel
theorem dX4_readItem_99 : decode cX4_readItem 99 = .ok (.iconst 0, 1) := by decide +kernel
theorem dX4_readItem_100 : decode cX4_readItem 100 = .ok (.ireturn, 1) := by decide +kernel
theorem dX4_readSign_0 : decode cX4_readSign 0 = .ok (.iload_n 1, 1) := by decide +kernel
theorem dX4_readSign_1 : decode cX4_readSign 1 = .ok (.bipush 43, 2) := by decide +kernel
theorem dX4_readSign_3 : decode cX4_readSign 3 = .ok (.if_icmp .eq 11, 3) := by decide +kernel
theorem dX4_readSign_6 : decode cX4_readSign 6 = .ok (.iload_n 1, 1) := by decide +kernel
theorem dX4_readSign_7 : decode cX4_readSign 7 = .ok (.bipush 45, 2) := by decide +kernel
theorem dX4_readSign_9 : decode cX4_readSign 9 = .ok (.if_icmp .eq 5, 3) := by decide +kernel
theorem dX4_readSign_12 : decode cX4_readSign 12 = .ok (.iconst 0, 1) := by decide +kernel
theorem dX4_readSign_13 : decode cX4_readSign 13 = .ok (.ireturn, 1) := by decide +kernel
theorem dX4_readSign_14 : decode cX4_readSign 14 = .ok (.aload_n 0, 1) := by decide +kernel
theorem dX4_readSign_15 : decode cX4_readSign 15 = .ok (.getfield 30, 3) := by decide +kernel
theorem dX4_readSign_18 : decode cX4_readSign 18 = .ok (.sipush 300, 3) := by decide +kernel
theorem dX4_readSign_21 : decode cX4_readSign 21 = .ok (.if_icmp .ge 30, 3) := by decide +kernel
theorem dX4_readSign_24 : decode cX4_readSign 24 = .ok (.aload_n 0, 1) := by decide +kernel
theorem dX4_readSign_25 : decode cX4_readSign 25 = .ok (.getfield 15, 3) := by decide +kernel
theorem dX4_readSign_28 : decode cX4_readSign 28 = .ok (.aload_n 0, 1) := by decide +kernel
theorem dX4_readSign_29 : decode cX4_readSign 29 = .ok (.getfield 30, 3) := by decide +kernel
theorem dX4_readSign_32 : decode cX4_readSign 32 = .ok (.iconst 2, 1) := by decide +kernel
theorem dX4_readSign_33 : decode cX4_readSign 33 = .ok (.aload_n 0, 1) := by decide +kernel
theorem dX4_readSign_34 : decode cX4_readSign 34 = .ok (.getfield 52, 3) := by decide +kernel
theorem dX4_readSign_37 : decode cX4_readSign 37 = .ok (.imul, 1) := by decide +kernel
theorem dX4_readSign_38 : decode cX4_readSign 38 = .ok (.iload_n 1, 1) := by decide +kernel
theorem dX4_readSign_39 : decode cX4_readSign 39 = .ok (.bipush 43, 2) := by decide +kernel
theorem dX4_readSign_41 : decode cX4_readSign 41 = .ok (.if_icmp .ne 7, 3) := by decide +kernel
theorem dX4_readSign_44 : decode cX4_readSign 44 = .ok (.iconst 1, 1) := by decide +kernel
theorem dX4_readSign_45 : decode cX4_readSign 45 = .ok (.goto 4, 3) := by decide +kernel
theorem dX4_readSign_48 : decode cX4_readSign 48 = .ok (.iconst 0, 1) := by decide +kernel
theorem dX4_readSign_49 : decode cX4_readSign 49 = .ok (.iadd, 1) := by decide +kernel
theorem dX4_readSign_50 : decode cX4_readSign 50 = .ok (.iastore, 1) := by decide +kernel
theorem dX4_readSign_51 : decode cX4_readSign 51 = .ok (.aload_n 0, 1) := by decide +kernel
theorem dX4_readSign_52 : decode cX4_readSign 52 = .ok (.dup, 1) := by decide +kernel
theorem dX4_readSign_53 : decode cX4_readSign 53 = .ok (.getfield 30, 3) := by decide +kernel
theorem dX4_readSign_56 : decode cX4_readSign 56 = .ok (.iconst 1, 1) := by decide +kernel
theorem dX4_readSign_57 : decode cX4_readSign 57 = .ok (.iadd, 1) := by decide +kernel
theorem dX4_readSign_58 : decode cX4_readSign 58 = .ok (.putfield 30, 3) := by decide +kernel
theorem dX4_readSign_61 : decode cX4_readSign 61 = .ok (.aload_n 0, 1) := by decide +kernel
theorem dX4_readSign_62 : decode cX4_readSign 62 = .ok (.iconst 1, 1) := by decide +kernel
theorem dX4_readSign_63 : decode cX4_readSign 63 = .ok (.putfield 36, 3) := by decide +kernel
theorem dX4_readSign_66 : decode cX4_readSign 66 = .ok (.iconst 1, 1) := by decide +kernel
theorem dX4_readSign_67 : decode cX4_readSign 67 = .ok (.ireturn, 1) := by decide +kernel
set_option maxRecDepth 20000 in
theorem ggX4_readDigit_X4_repeatFrom : GoodIn wsX4_readDigit wsX4_repeatFrom := goodIn_r _ [8, 9, 10, 11, 12, 13, 14, 15, 16, 17, 18] (by decide +kernel) (by decide +kernel)
set_option maxRecDepth 20000 in
theorem gX4_readDigit_X4_repeatFrom : GoodIn wsX4_readDigit (wsV RX4 55 RX4 yX4_repeatFrom wsX4_repeatFrom) := goodIn_app (goodIn_of _ (by decide +kernel)) ggX4_readDigit_X4_repeatFrom
theorem dX4_readDigit_0 : decode cX4_readDigit 0 = .ok (.iload_n 1, 1) := by decide +kernel
theorem dX4_readDigit_1 : decode cX4_readDigit 1 = .ok (.bipush 50, 2) := by decide +kernel
theorem dX4_readDigit_3 : decode cX4_readDigit 3 = .ok (.if_icmp .lt 17, 3) := by decide +kernel
theorem dX4_readDigit_6 : decode cX4_readDigit 6 = .ok (.iload_n 1, 1) := by decide +kernel
theorem dX4_readDigit_7 : decode cX4_readDigit 7 = .ok (.bipush 57, 2) := by decide +kernel
theorem dX4_readDigit_9 : decode cX4_readDigit 9 = .ok (.if_icmp .gt 11, 3) := by decide +kernel
theorem dX4_readDigit_12 : decode cX4_readDigit 12 = .ok (.aload_n 0, 1) := by decide +kernel
theorem dX4_readDigit_13 : decode cX4_readDigit 13 = .ok (.getfield 33, 3) := by decide +kernel
theorem dX4_readDigit_16 : decode cX4_readDigit 16 = .ok (.iconst 1, 1) := by decide +kernel
theorem dX4_readDigit_17 : decode cX4_readDigit 17 = .ok (.if_icmp .ge 5, 3) := by decide +kernel
theorem dX4_readDigit_20 : decode cX4_readDigit 20 = .ok (.iconst 0, 1) := by decide +kernel
theorem dX4_readDigit_21 : decode cX4_readDigit 21 = .ok (.ireturn, 1) := by decide +kernel
theorem dX4_readDigit_22 : decode cX4_readDigit 22 = .ok (.aload_n 0, 1) := by decide +kernel
theorem dX4_readDigit_23 : decode cX4_readDigit 23 = .ok (.dup, 1) := by decide +kernel
theorem dX4_readDigit_24 : decode cX4_readDigit 24 = .ok (.getfield 33, 3) := by decide +kernel
theorem dX4_readDigit_27 : decode cX4_readDigit 27 = .ok (.iconst 1, 1) := by decide +kernel
theorem dX4_readDigit_28 : decode cX4_readDigit 28 = .ok (.isub, 1) := by decide +kernel
theorem dX4_readDigit_29 : decode cX4_readDigit 29 = .ok (.putfield 33, 3) := by decide +kernel
theorem dX4_readDigit_32 : decode cX4_readDigit 32 = .ok (.aload_n 0, 1) := by decide +kernel
theorem dX4_readDigit_33 : decode cX4_readDigit 33 = .ok (.aload_n 0, 1) := by decide +kernel
theorem dX4_readDigit_34 : decode cX4_readDigit 34 = .ok (.getfield 18, 3) := by decide +kernel
theorem dX4_readDigit_37 : decode cX4_readDigit 37 = .ok (.aload_n 0, 1) := by decide +kernel
theorem dX4_readDigit_38 : decode cX4_readDigit 38 = .ok (.getfield 33, 3) := by decide +kernel
theorem dX4_readDigit_41 : decode cX4_readDigit 41 = .ok (.iaload, 1) := by decide +kernel
theorem dX4_readDigit_42 : decode cX4_readDigit 42 = .ok (.iload_n 1, 1) := by decide +kernel
theorem dX4_readDigit_43 : decode cX4_readDigit 43 = .ok (.bipush 48, 2) := by decide +kernel
theorem dX4_readDigit_45 : decode cX4_readDigit 45 = .ok (.isub, 1) := by decide +kernel
theorem dX4_readDigit_46 : decode cX4_readDigit 46 = .ok (.invokevirtual 55, 3) := by decide +kernel
theorem dX4_readDigit_49 : decode cX4_readDigit 49 = .ok (.aload_n 0, 1) := by decide +kernel
theorem dX4_readDigit_50 : decode cX4_readDigit 50 = .ok (.iconst 1, 1) := by decide +kernel
theorem dX4_readDigit_51 : decode cX4_readDigit 51 = .ok (.putfield 36, 3) := by decide +kernel
theorem dX4_readDigit_54 : decode cX4_readDigit 54 = .ok (.iconst 1, 1) := by decide +kernel
theorem dX4_readDigit_55 : decode cX4_readDigit 55 = .ok (.ireturn, 1) := by decide +kernel
theorem dX4_repeatFrom_0 : decode cX4_repeatFrom 0 = .ok (.aload_n 0, 1) := by decide +kernel
theorem dX4_repeatFrom_1 : decode cX4_repeatFrom 1 = .ok (.getfield 30, 3) := by decide +kernel
theorem dX4_repeatFrom_4 : decode cX4_repeatFrom 4 = .ok (.iload_n 1, 1) := by decide +kernel
theorem dX4_repeatFrom_5 : decode cX4_repeatFrom 5 = .ok (.isub, 1) := by decide +kernel
theorem dX4_repeatFrom_6 : decode cX4_repeatFrom 6 = .ok (.istore_n 3, 1) := by decide +kernel
theorem dX4_repeatFrom_7 : decode cX4_repeatFrom 7 = .ok (.iload_n 1, 1) := by decide +kernel
theorem dX4_repeatFrom_8 : decode cX4_repeatFrom 8 = .ok (.iload_n 3, 1) := by decide +kernel
theorem dX4_repeatFrom_9 : decode cX4_repeatFrom 9 = .ok (.iload_n 2, 1) := by decide +kernel
theorem dX4_repeatFrom_10 : decode cX4_repeatFrom 10 = .ok (.imul, 1) := by decide +kernel
theorem dX4_repeatFrom_11 : decode cX4_repeatFrom 11 = .ok (.iadd, 1) := by decide +kernel
theorem dX4_repeatFrom_12 : decode cX4_repeatFrom 12 = .ok (.istore 4, 2) := by decide +kernel
theorem dX4_repeatFrom_14 : decode cX4_repeatFrom 14 = .ok (.iload 4, 2) := by decide +kernel
theorem dX4_repeatFrom_16 : decode cX4_repeatFrom 16 = .ok (.sipush 300, 3) := by decide +kernel
theorem dX4_repeatFrom_19 : decode cX4_repeatFrom 19 = .ok (.if_icmp .gt 38, 3) := by decide +kernel
theorem dX4_repeatFrom_22 : decode cX4_repeatFrom 22 = .ok (.aload_n 0, 1) := by decide +kernel
theorem dX4_repeatFrom_23 : decode cX4_repeatFrom 23 = .ok (.getfield 30, 3) := by decide +kernel
theorem dX4_repeatFrom_26 : decode cX4_repeatFrom 26 = .ok (.istore 5, 2) := by decide +kernel
theorem dX4_repeatFrom_28 : decode cX4_repeatFrom 28 = .ok (.iload 5, 2) := by decide +kernel
theorem dX4_repeatFrom_30 : decode cX4_repeatFrom 30 = .ok (.iload 4, 2) := by decide +kernel
theorem dX4_repeatFrom_32 : decode cX4_repeatFrom 32 = .ok (.if_icmp .ge 25, 3) := by decide +kernel
theorem dX4_repeatFrom_35 : decode cX4_repeatFrom 35 = .ok (.aload_n 0, 1) := by decide +kernel
theorem dX4_repeatFrom_36 : decode cX4_repeatFrom 36 = .ok (.getfield 15, 3) := by decide +kernel
theorem dX4_repeatFrom_39 : decode cX4_repeatFrom 39 = .ok (.iload 5, 2) := by decide +kernel
theorem dX4_repeatFrom_41 : decode cX4_repeatFrom 41 = .ok (.aload_n 0, 1) := by decide +kernel
theorem dX4_repeatFrom_42 : decode cX4_repeatFrom 42 = .ok (.getfield 15, 3) := by decide +kernel
theorem dX4_repeatFrom_45 : decode cX4_repeatFrom 45 = .ok (.iload 5, 2) := by decide +kernel
theorem dX4_repeatFrom_47 : decode cX4_repeatFrom 47 = .ok (.iload_n 3, 1) := by decide +kernel
theorem dX4_repeatFrom_48 : decode cX4_repeatFrom 48 = .ok (.isub, 1) := by decide +kernel
theorem dX4_repeatFrom_49 : decode cX4_repeatFrom 49 = .ok (.iaload, 1) := by decide +kernel
theorem dX4_repeatFrom_50 : decode cX4_repeatFrom 50 = .ok (.iastore, 1) := by decide +kernel
theorem dX4_repeatFrom_51 : decode cX4_repeatFrom 51 = .ok (.iinc 5 1, 3) := by decide +kernel
theorem dX4_repeatFrom_54 : decode cX4_repeatFrom 54 = .ok (.goto (-26), 3) := by decide +kernel
theorem dX4_repeatFrom_57 : decode cX4_repeatFrom 57 = .ok (.aload_n 0, 1) := by decide +kernel
theorem dX4_repeatFrom_58 : decode cX4_repeatFrom 58 = .ok (.iload 4, 2) := by decide +kernel
theorem dX4_repeatFrom_60 : decode cX4_repeatFrom 60 = .ok (.putfield 30, 3) := by decide +kernel
theorem dX4_repeatFrom_63 : decode cX4_repeatFrom 63 = .ok (.return_, 1) := by decide +kernel
