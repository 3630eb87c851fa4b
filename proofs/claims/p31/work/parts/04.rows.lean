theorem dX5_isDesk_0 : decode cX5_isDesk 0 = .ok (.iload_n 0, 1) := by decide +kernel
theorem dX5_isDesk_1 : decode cX5_isDesk 1 = .ok (.ifCond .lt 12, 3) := by decide +kernel
theorem dX5_isDesk_4 : decode cX5_isDesk 4 = .ok (.iload_n 0, 1) := by decide +kernel
theorem dX5_isDesk_5 : decode cX5_isDesk 5 = .ok (.iconst 2, 1) := by decide +kernel
theorem dX5_isDesk_6 : decode cX5_isDesk 6 = .ok (.if_icmp .ge 7, 3) := by decide +kernel
theorem dX5_isDesk_9 : decode cX5_isDesk 9 = .ok (.iconst 1, 1) := by decide +kernel
theorem dX5_isDesk_10 : decode cX5_isDesk 10 = .ok (.goto 4, 3) := by decide +kernel
theorem dX5_isDesk_13 : decode cX5_isDesk 13 = .ok (.iconst 0, 1) := by decide +kernel
theorem dX5_isDesk_14 : decode cX5_isDesk 14 = .ok (.ireturn, 1) := by decide +kernel
theorem dX5_isPlace_0 : decode cX5_isPlace 0 = .ok (.iload_n 0, 1) := by decide +kernel
theorem dX5_isPlace_1 : decode cX5_isPlace 1 = .ok (.ifCond .lt 13, 3) := by decide +kernel
theorem dX5_isPlace_4 : decode cX5_isPlace 4 = .ok (.iload_n 0, 1) := by decide +kernel
theorem dX5_isPlace_5 : decode cX5_isPlace 5 = .ok (.bipush 26, 2) := by decide +kernel
theorem dX5_isPlace_7 : decode cX5_isPlace 7 = .ok (.if_icmp .ge 7, 3) := by decide +kernel
theorem dX5_isPlace_10 : decode cX5_isPlace 10 = .ok (.iconst 1, 1) := by decide +kernel
theorem dX5_isPlace_11 : decode cX5_isPlace 11 = .ok (.goto 4, 3) := by decide +kernel
theorem dX5_isPlace_14 : decode cX5_isPlace 14 = .ok (.iconst 0, 1) := by decide +kernel
theorem dX5_isPlace_15 : decode cX5_isPlace 15 = .ok (.ireturn, 1) := by decide +kernel
theorem dX5_isDeskSetting_0 : decode cX5_isDeskSetting 0 = .ok (.iload_n 0, 1) := by decide +kernel
theorem dX5_isDeskSetting_1 : decode cX5_isDeskSetting 1 = .ok (.ifCond .lt 25, 3) := by decide +kernel
theorem dX5_isDeskSetting_4 : decode cX5_isDeskSetting 4 = .ok (.iload_n 0, 1) := by decide +kernel
theorem dX5_isDeskSetting_5 : decode cX5_isDeskSetting 5 = .ok (.iconst 3, 1) := by decide +kernel
theorem dX5_isDeskSetting_6 : decode cX5_isDeskSetting 6 = .ok (.if_icmp .ge 20, 3) := by decide +kernel
theorem dX5_isDeskSetting_9 : decode cX5_isDeskSetting 9 = .ok (.iload_n 1, 1) := by decide +kernel
theorem dX5_isDeskSetting_10 : decode cX5_isDeskSetting 10 = .ok (.ifCond .lt 16, 3) := by decide +kernel
theorem dX5_isDeskSetting_13 : decode cX5_isDeskSetting 13 = .ok (.iload_n 1, 1) := by decide +kernel
theorem dX5_isDeskSetting_14 : decode cX5_isDeskSetting 14 = .ok (.getstatic 253, 3) := by decide +kernel
theorem dX5_isDeskSetting_17 : decode cX5_isDeskSetting 17 = .ok (.iload_n 0, 1) := by decide +kernel
theorem dX5_isDeskSetting_18 : decode cX5_isDeskSetting 18 = .ok (.iaload, 1) := by decide +kernel
theorem dX5_isDeskSetting_19 : decode cX5_isDeskSetting 19 = .ok (.if_icmp .gt 7, 3) := by decide +kernel
theorem dX5_isDeskSetting_22 : decode cX5_isDeskSetting 22 = .ok (.iconst 1, 1) := by decide +kernel
theorem dX5_isDeskSetting_23 : decode cX5_isDeskSetting 23 = .ok (.goto 4, 3) := by decide +kernel
theorem dX5_isDeskSetting_26 : decode cX5_isDeskSetting 26 = .ok (.iconst 0, 1) := by decide +kernel
theorem dX5_isDeskSetting_27 : decode cX5_isDeskSetting 27 = .ok (.ireturn, 1) := by decide +kernel
theorem dX5_isCommonSetting_0 : decode cX5_isCommonSetting 0 = .ok (.iload_n 0, 1) := by decide +kernel
theorem dX5_isCommonSetting_1 : decode cX5_isCommonSetting 1 = .ok (.ifCond .lt 30, 3) := by decide +kernel
theorem dX5_isCommonSetting_4 : decode cX5_isCommonSetting 4 = .ok (.iload_n 0, 1) := by decide +kernel
theorem dX5_isCommonSetting_5 : decode cX5_isCommonSetting 5 = .ok (.iconst 3, 1) := by decide +kernel
theorem dX5_isCommonSetting_6 : decode cX5_isCommonSetting 6 = .ok (.if_icmp .ge 25, 3) := by decide +kernel
theorem dX5_isCommonSetting_9 : decode cX5_isCommonSetting 9 = .ok (.iload_n 1, 1) := by decide +kernel
theorem dX5_isCommonSetting_10 : decode cX5_isCommonSetting 10 = .ok (.getstatic 256, 3) := by decide +kernel
theorem dX5_isCommonSetting_13 : decode cX5_isCommonSetting 13 = .ok (.iload_n 0, 1) := by decide +kernel
theorem dX5_isCommonSetting_14 : decode cX5_isCommonSetting 14 = .ok (.iaload, 1) := by decide +kernel
theorem dX5_isCommonSetting_15 : decode cX5_isCommonSetting 15 = .ok (.if_icmp .lt 16, 3) := by decide +kernel
theorem dX5_isCommonSetting_18 : decode cX5_isCommonSetting 18 = .ok (.iload_n 1, 1) := by decide +kernel
theorem dX5_isCommonSetting_19 : decode cX5_isCommonSetting 19 = .ok (.getstatic 259, 3) := by decide +kernel
theorem dX5_isCommonSetting_22 : decode cX5_isCommonSetting 22 = .ok (.iload_n 0, 1) := by decide +kernel
theorem dX5_isCommonSetting_23 : decode cX5_isCommonSetting 23 = .ok (.iaload, 1) := by decide +kernel
theorem dX5_isCommonSetting_24 : decode cX5_isCommonSetting 24 = .ok (.if_icmp .gt 7, 3) := by decide +kernel
theorem dX5_isCommonSetting_27 : decode cX5_isCommonSetting 27 = .ok (.iconst 1, 1) := by decide +kernel
theorem dX5_isCommonSetting_28 : decode cX5_isCommonSetting 28 = .ok (.goto 4, 3) := by decide +kernel
theorem dX5_isCommonSetting_31 : decode cX5_isCommonSetting 31 = .ok (.iconst 0, 1) := by decide +kernel
theorem dX5_isCommonSetting_32 : decode cX5_isCommonSetting 32 = .ok (.ireturn, 1) := by decide +kernel
theorem dJ7_fill_53178_0 : decode cJ7_fill_53178 0 = .ok (.iconst 0, 1) := by decide +kernel
theorem dJ7_fill_53178_1 : decode cJ7_fill_53178 1 = .ok (.istore_n 2, 1) := by decide +kernel
theorem dJ7_fill_53178_2 : decode cJ7_fill_53178 2 = .ok (.aload_n 0, 1) := by decide +kernel
theorem dJ7_fill_53178_3 : decode cJ7_fill_53178 3 = .ok (.arraylength, 1) := by decide +kernel
theorem dJ7_fill_53178_4 : decode cJ7_fill_53178 4 = .ok (.istore_n 3, 1) := by decide +kernel
theorem dJ7_fill_53178_5 : decode cJ7_fill_53178 5 = .ok (.iload_n 2, 1) := by decide +kernel
theorem dJ7_fill_53178_6 : decode cJ7_fill_53178 6 = .ok (.iload_n 3, 1) := by decide +kernel
theorem dJ7_fill_53178_7 : decode cJ7_fill_53178 7 = .ok (.if_icmp .ge 13, 3) := by decide +kernel
theorem dJ7_fill_53178_10 : decode cJ7_fill_53178 10 = .ok (.aload_n 0, 1) := by decide +kernel
theorem dJ7_fill_53178_11 : decode cJ7_fill_53178 11 = .ok (.iload_n 2, 1) := by decide +kernel
theorem dJ7_fill_53178_12 : decode cJ7_fill_53178 12 = .ok (.iload_n 1, 1) := by decide +kernel
theorem dJ7_fill_53178_13 : decode cJ7_fill_53178 13 = .ok (.iastore, 1) := by decide +kernel
theorem dJ7_fill_53178_14 : decode cJ7_fill_53178 14 = .ok (.iinc 2 1, 3) := by decide +kernel
theorem dJ7_fill_53178_17 : decode cJ7_fill_53178 17 = .ok (.goto (-12), 3) := by decide +kernel
theorem dJ7_fill_53178_20 : decode cJ7_fill_53178 20 = .ok (.return_, 1) := by decide +kernel
abbrev vwCl : List vw_C := [(RX0, TX0, 8), (RX1, TX1, 3), (RX3, TX3, 11), (RX4, TX4, 8), (RX5, TX5, 6)]
