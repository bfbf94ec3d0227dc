theorem dX10_classesLeft_1 : decode cX10_classesLeft 1 = .ok (.istore_n 1, 1) := by decide +kernel
theorem dX10_classesLeft_2 : decode cX10_classesLeft 2 = .ok (.iconst 1, 1) := by decide +kernel
theorem dX10_classesLeft_3 : decode cX10_classesLeft 3 = .ok (.istore_n 2, 1) := by decide +kernel
theorem dX10_classesLeft_4 : decode cX10_classesLeft 4 = .ok (.iload_n 2, 1) := by decide +kernel
theorem dX10_classesLeft_5 : decode cX10_classesLeft 5 = .ok (.iconst 3, 1) := by decide +kernel
theorem dX10_classesLeft_6 : decode cX10_classesLeft 6 = .ok (.if_icmp .gt 29, 3) := by decide +kernel
theorem dX10_classesLeft_9 : decode cX10_classesLeft 9 = .ok (.aload_n 0, 1) := by decide +kernel
theorem dX10_classesLeft_10 : decode cX10_classesLeft 10 = .ok (.getfield 23, 3) := by decide +kernel
theorem dX10_classesLeft_13 : decode cX10_classesLeft 13 = .ok (.iload_n 2, 1) := by decide +kernel
theorem dX10_classesLeft_14 : decode cX10_classesLeft 14 = .ok (.iconst 1, 1) := by decide +kernel
theorem dX10_classesLeft_15 : decode cX10_classesLeft 15 = .ok (.isub, 1) := by decide +kernel
theorem dX10_classesLeft_16 : decode cX10_classesLeft 16 = .ok (.aaload, 1) := by decide +kernel
theorem dX10_classesLeft_17 : decode cX10_classesLeft 17 = .ok (.invokevirtual 167, 3) := by decide +kernel
theorem dX10_classesLeft_20 : decode cX10_classesLeft 20 = .ok (.ifCond .eq 9, 3) := by decide +kernel
theorem dX10_classesLeft_23 : decode cX10_classesLeft 23 = .ok (.iload_n 1, 1) := by decide +kernel
theorem dX10_classesLeft_24 : decode cX10_classesLeft 24 = .ok (.iconst 1, 1) := by decide +kernel
theorem dX10_classesLeft_25 : decode cX10_classesLeft 25 = .ok (.iload_n 2, 1) := by decide +kernel
theorem dX10_classesLeft_26 : decode cX10_classesLeft 26 = .ok (.ishl, 1) := by decide +kernel
theorem dX10_classesLeft_27 : decode cX10_classesLeft 27 = .ok (.iadd, 1) := by decide +kernel
theorem dX10_classesLeft_28 : decode cX10_classesLeft 28 = .ok (.istore_n 1, 1) := by decide +kernel
theorem dX10_classesLeft_29 : decode cX10_classesLeft 29 = .ok (.iinc 2 1, 3) := by decide +kernel
theorem dX10_classesLeft_32 : decode cX10_classesLeft 32 = .ok (.goto (-28), 3) := by decide +kernel
theorem dX10_classesLeft_35 : decode cX10_classesLeft 35 = .ok (.iload_n 1, 1) := by decide +kernel
theorem dX10_classesLeft_36 : decode cX10_classesLeft 36 = .ok (.ireturn, 1) := by decide +kernel
set_option maxRecDepth 100000 in
theorem ggX10_hasEvents_X2_isEmpty : GoodIn wsX10_hasEvents wsX2_isEmpty := goodIn_r _ [6, 7, 25, 26, 27, 28, 29] rfl (by decide +kernel)
set_option maxRecDepth 20000 in
theorem gX10_hasEvents_X2_isEmpty : GoodIn wsX10_hasEvents (wsV RX10 170 RX2 yX2_isEmpty wsX2_isEmpty) := goodIn_app (goodIn_of _ (by decide +kernel)) ggX10_hasEvents_X2_isEmpty
theorem dX10_hasEvents_0 : decode cX10_hasEvents 0 = .ok (.iconst 0, 1) := by decide +kernel
theorem dX10_hasEvents_1 : decode cX10_hasEvents 1 = .ok (.istore_n 1, 1) := by decide +kernel
theorem dX10_hasEvents_2 : decode cX10_hasEvents 2 = .ok (.iload_n 1, 1) := by decide +kernel
theorem dX10_hasEvents_3 : decode cX10_hasEvents 3 = .ok (.iconst 3, 1) := by decide +kernel
theorem dX10_hasEvents_4 : decode cX10_hasEvents 4 = .ok (.if_icmp .ge 23, 3) := by decide +kernel
theorem dX10_hasEvents_7 : decode cX10_hasEvents 7 = .ok (.aload_n 0, 1) := by decide +kernel
theorem dX10_hasEvents_8 : decode cX10_hasEvents 8 = .ok (.getfield 23, 3) := by decide +kernel
theorem dX10_hasEvents_11 : decode cX10_hasEvents 11 = .ok (.iload_n 1, 1) := by decide +kernel
theorem dX10_hasEvents_12 : decode cX10_hasEvents 12 = .ok (.aaload, 1) := by decide +kernel
theorem dX10_hasEvents_13 : decode cX10_hasEvents 13 = .ok (.invokevirtual 170, 3) := by decide +kernel
theorem dX10_hasEvents_16 : decode cX10_hasEvents 16 = .ok (.ifCond .ne 5, 3) := by decide +kernel
theorem dX10_hasEvents_19 : decode cX10_hasEvents 19 = .ok (.iconst 1, 1) := by decide +kernel
theorem dX10_hasEvents_20 : decode cX10_hasEvents 20 = .ok (.ireturn, 1) := by decide +kernel
theorem dX10_hasEvents_21 : decode cX10_hasEvents 21 = .ok (.iinc 1 1, 3) := by decide +kernel
theorem dX10_hasEvents_24 : decode cX10_hasEvents 24 = .ok (.goto (-22), 3) := by decide +kernel
theorem dX10_hasEvents_27 : decode cX10_hasEvents 27 = .ok (.iconst 0, 1) := by decide +kernel
theorem dX10_hasEvents_28 : decode cX10_hasEvents 28 = .ok (.ireturn, 1) := by decide +kernel
set_option maxRecDepth 100000 in
theorem ggX10_waitNoMore_X2_waitNoMore : GoodIn wsX10_waitNoMore wsX2_waitNoMore := goodIn_r _ [7, 8, 26, 27, 28, 29, 30] rfl (by decide +kernel)
set_option maxRecDepth 20000 in
theorem gX10_waitNoMore_X2_waitNoMore : GoodIn wsX10_waitNoMore (wsV RX10 173 RX2 yX2_waitNoMore wsX2_waitNoMore) := goodIn_app (goodIn_of _ (by decide +kernel)) ggX10_waitNoMore_X2_waitNoMore
theorem dX10_waitNoMore_0 : decode cX10_waitNoMore 0 = .ok (.aload_n 0, 1) := by decide +kernel
theorem dX10_waitNoMore_1 : decode cX10_waitNoMore 1 = .ok (.iconst 0, 1) := by decide +kernel
theorem dX10_waitNoMore_2 : decode cX10_waitNoMore 2 = .ok (.putfield 39, 3) := by decide +kernel
theorem dX10_waitNoMore_5 : decode cX10_waitNoMore 5 = .ok (.iconst 0, 1) := by decide +kernel
theorem dX10_waitNoMore_6 : decode cX10_waitNoMore 6 = .ok (.istore_n 1, 1) := by decide +kernel
theorem dX10_waitNoMore_7 : decode cX10_waitNoMore 7 = .ok (.iload_n 1, 1) := by decide +kernel
theorem dX10_waitNoMore_8 : decode cX10_waitNoMore 8 = .ok (.iconst 3, 1) := by decide +kernel
theorem dX10_waitNoMore_9 : decode cX10_waitNoMore 9 = .ok (.if_icmp .ge 18, 3) := by decide +kernel
theorem dX10_waitNoMore_12 : decode cX10_waitNoMore 12 = .ok (.aload_n 0, 1) := by decide +kernel
theorem dX10_waitNoMore_13 : decode cX10_waitNoMore 13 = .ok (.getfield 23, 3) := by decide +kernel
theorem dX10_waitNoMore_16 : decode cX10_waitNoMore 16 = .ok (.iload_n 1, 1) := by decide +kernel
theorem dX10_waitNoMore_17 : decode cX10_waitNoMore 17 = .ok (.aaload, 1) := by decide +kernel
theorem dX10_waitNoMore_18 : decode cX10_waitNoMore 18 = .ok (.invokevirtual 173, 3) := by decide +kernel
theorem dX10_waitNoMore_21 : decode cX10_waitNoMore 21 = .ok (.iinc 1 1, 3) := by decide +kernel
theorem dX10_waitNoMore_24 : decode cX10_waitNoMore 24 = .ok (.goto (-17), 3) := by decide +kernel
theorem dX10_waitNoMore_27 : decode cX10_waitNoMore 27 = .ok (.return_, 1) := by decide +kernel
set_option maxRecDepth 100000 in
theorem ggX11_init_X5_init : GoodIn wsX11_init wsX5_init := goodIn_r _ [30, 31, 2, 3, 32, 33, 34, 35, 36, 37, 38, 39, 25, 26, 40, 41, 42, 43, 44, 45, 46, 47, 95, 96, 141, 142, 139, 140] rfl (by decide +kernel)
set_option maxRecDepth 20000 in
theorem gX11_init_X5_init : GoodIn wsX11_init (wsX5_init) := ggX11_init_X5_init
set_option maxRecDepth 100000 in
theorem ggX11_init_X9_init : GoodIn wsX11_init wsX9_init := goodIn_r _ [50, 51, 2, 3, 52, 53, 120, 121, 122] rfl (by decide +kernel)
set_option maxRecDepth 20000 in
theorem gX11_init_X9_init : GoodIn wsX11_init (wsX9_init) := ggX11_init_X9_init
set_option maxRecDepth 100000 in
theorem ggX11_init_X10_init : GoodIn wsX11_init wsX10_init := goodIn_r _ [56, 57, 2, 3, 46, 58, 59, 60, 61, 62, 63, 25, 26, 64, 65, 66, 67, 68, 69, 70, 43, 44, 45, 47, 71, 72, 73, 74, 75, 76, 103, 104, 105, 106, 107, 108, 109, 110, 111, 112, 113, 114, 115, 116, 117, 118, 119, 139, 140, 143, 144, 145, 146, 147] rfl (by decide +kernel)
set_option maxRecDepth 20000 in
theorem gX11_init_X10_init : GoodIn wsX11_init (wsX10_init) := ggX11_init_X10_init
set_option maxRecDepth 100000 in
theorem ggX11_init_X6_init : GoodIn wsX11_init wsX6_init := goodIn_r _ [79, 80, 2, 3, 81, 25, 26, 82, 46, 83, 84, 85, 86, 87, 43, 44, 45, 47, 139, 140, 123, 124, 125, 126, 127, 128, 129, 130, 131, 132, 133, 134] rfl (by decide +kernel)
set_option maxRecDepth 20000 in
theorem gX11_init_X6_init : GoodIn wsX11_init (wsX6_init) := ggX11_init_X6_init
set_option maxRecDepth 100000 in
theorem ggX11_init_X7_init : GoodIn wsX11_init wsX7_init := goodIn_r _ [89, 90, 2, 3, 91, 25, 26, 92, 93, 43, 44, 45, 46, 47, 139, 140, 135, 136, 137, 138] rfl (by decide +kernel)
set_option maxRecDepth 20000 in
theorem gX11_init_X7_init_n39 : GoodIn wsX11_init (wsX7_init) := ggX11_init_X7_init
set_option maxRecDepth 100000 in
theorem ggX11_init_X1_init : GoodIn wsX11_init wsX1_init := goodIn_r _ [44, 45, 2, 3, 46, 47, 139, 140] rfl (by decide +kernel)
set_option maxRecDepth 20000 in
theorem gX11_init_X1_init : GoodIn wsX11_init (wsX1_init) := ggX11_init_X1_init
theorem dX11_init_0 : decode cX11_init 0 = .ok (.aload_n 0, 1) := by decide +kernel
theorem dX11_init_1 : decode cX11_init 1 = .ok (.invokespecial 1, 3) := by decide +kernel
theorem dX11_init_4 : decode cX11_init 4 = .ok (.aload_n 0, 1) := by decide +kernel
theorem dX11_init_5 : decode cX11_init 5 = .ok (.new 7, 3) := by decide +kernel
theorem dX11_init_8 : decode cX11_init 8 = .ok (.dup, 1) := by decide +kernel
theorem dX11_init_9 : decode cX11_init 9 = .ok (.invokespecial 9, 3) := by decide +kernel
theorem dX11_init_12 : decode cX11_init 12 = .ok (.putfield 10, 3) := by decide +kernel
theorem dX11_init_15 : decode cX11_init 15 = .ok (.aload_n 0, 1) := by decide +kernel
theorem dX11_init_16 : decode cX11_init 16 = .ok (.new 16, 3) := by decide +kernel
theorem dX11_init_19 : decode cX11_init 19 = .ok (.dup, 1) := by decide +kernel
theorem dX11_init_20 : decode cX11_init 20 = .ok (.new 18, 3) := by decide +kernel
theorem dX11_init_23 : decode cX11_init 23 = .ok (.dup, 1) := by decide +kernel
theorem dX11_init_24 : decode cX11_init 24 = .ok (.aload_n 0, 1) := by decide +kernel
theorem dX11_init_25 : decode cX11_init 25 = .ok (.getfield 10, 3) := by decide +kernel
theorem dX11_init_28 : decode cX11_init 28 = .ok (.iconst 1, 1) := by decide +kernel
theorem dX11_init_29 : decode cX11_init 29 = .ok (.invokespecial 20, 3) := by decide +kernel
theorem dX11_init_32 : decode cX11_init 32 = .ok (.invokespecial 23, 3) := by decide +kernel
theorem dX11_init_35 : decode cX11_init 35 = .ok (.putfield 26, 3) := by decide +kernel
theorem dX11_init_38 : decode cX11_init 38 = .ok (.aload_n 0, 1) := by decide +kernel
theorem dX11_init_39 : decode cX11_init 39 = .ok (.new 30, 3) := by decide +kernel
theorem dX11_init_42 : decode cX11_init 42 = .ok (.dup, 1) := by decide +kernel
theorem dX11_init_43 : decode cX11_init 43 = .ok (.new 18, 3) := by decide +kernel
theorem dX11_init_46 : decode cX11_init 46 = .ok (.dup, 1) := by decide +kernel
theorem dX11_init_47 : decode cX11_init 47 = .ok (.aload_n 0, 1) := by decide +kernel
theorem dX11_init_48 : decode cX11_init 48 = .ok (.getfield 10, 3) := by decide +kernel
theorem dX11_init_51 : decode cX11_init 51 = .ok (.iconst 2, 1) := by decide +kernel
theorem dX11_init_52 : decode cX11_init 52 = .ok (.invokespecial 20, 3) := by decide +kernel
theorem dX11_init_55 : decode cX11_init 55 = .ok (.invokespecial 32, 3) := by decide +kernel
theorem dX11_init_58 : decode cX11_init 58 = .ok (.putfield 33, 3) := by decide +kernel
theorem dX11_init_61 : decode cX11_init 61 = .ok (.aload_n 0, 1) := by decide +kernel
theorem dX11_init_62 : decode cX11_init 62 = .ok (.new 37, 3) := by decide +kernel
theorem dX11_init_65 : decode cX11_init 65 = .ok (.dup, 1) := by decide +kernel
theorem dX11_init_66 : decode cX11_init 66 = .ok (.invokespecial 39, 3) := by decide +kernel
theorem dX11_init_69 : decode cX11_init 69 = .ok (.putfield 40, 3) := by decide +kernel
theorem dX11_init_72 : decode cX11_init 72 = .ok (.aload_n 0, 1) := by decide +kernel
theorem dX11_init_73 : decode cX11_init 73 = .ok (.new 37, 3) := by decide +kernel
theorem dX11_init_76 : decode cX11_init 76 = .ok (.dup, 1) := by decide +kernel
theorem dX11_init_77 : decode cX11_init 77 = .ok (.invokespecial 39, 3) := by decide +kernel
theorem dX11_init_80 : decode cX11_init 80 = .ok (.putfield 44, 3) := by decide +kernel
theorem dX11_init_83 : decode cX11_init 83 = .ok (.aload_n 0, 1) := by decide +kernel
theorem dX11_init_84 : decode cX11_init 84 = .ok (.new 47, 3) := by decide +kernel
theorem dX11_init_87 : decode cX11_init 87 = .ok (.dup, 1) := by decide +kernel
theorem dX11_init_88 : decode cX11_init 88 = .ok (.bipush 60, 2) := by decide +kernel
theorem dX11_init_90 : decode cX11_init 90 = .ok (.invokespecial 49, 3) := by decide +kernel
theorem dX11_init_93 : decode cX11_init 93 = .ok (.putfield 52, 3) := by decide +kernel
theorem dX11_init_96 : decode cX11_init 96 = .ok (.return_, 1) := by decide +kernel
set_option maxRecDepth 100000 in
theorem ggX11_kind_X10_classify : GoodIn wsX11_kind wsX10_classify := goodIn_r _ [6, 7, 14, 15, 16, 17, 18, 19, 20, 21, 22, 23, 24, 25, 26, 27, 28, 29, 30] rfl (by decide +kernel)
set_option maxRecDepth 20000 in
theorem gX11_kind_X10_classify : GoodIn wsX11_kind (wsV RX11 56 RX10 yX10_classify wsX10_classify) := goodIn_app (goodIn_of _ (by decide +kernel)) ggX11_kind_X10_classify
theorem dX11_kind_0 : decode cX11_kind 0 = .ok (.aload_n 0, 1) := by decide +kernel
theorem dX11_kind_1 : decode cX11_kind 1 = .ok (.getfield 26, 3) := by decide +kernel
theorem dX11_kind_4 : decode cX11_kind 4 = .ok (.iload_n 1, 1) := by decide +kernel
theorem dX11_kind_5 : decode cX11_kind 5 = .ok (.iload_n 2, 1) := by decide +kernel
theorem dX11_kind_6 : decode cX11_kind 6 = .ok (.invokevirtual 56, 3) := by decide +kernel
theorem dX11_kind_9 : decode cX11_kind 9 = .ok (.ireturn, 1) := by decide +kernel
set_option maxRecDepth 100000 in
theorem ggX11_change_X10_changeValue : GoodIn wsX11_change wsX10_changeValue := goodIn_r _ [6, 7, 8, 9, 10, 11, 12, 13, 14, 15, 16, 17, 18, 19, 20, 21, 22, 23, 24, 25, 26, 27, 28, 29, 30, 31, 32, 39, 40, 41, 42, 43, 44, 45, 46, 47, 48, 49, 50, 51, 52, 53, 54, 55, 56, 57, 58, 59, 60] rfl (by decide +kernel)
set_option maxRecDepth 20000 in
theorem gX11_change_X10_changeValue : GoodIn wsX11_change (wsV RX11 60 RX10 yX10_changeValue wsX10_changeValue) := goodIn_app (goodIn_of _ (by decide +kernel)) ggX11_change_X10_changeValue
theorem dX11_change_0 : decode cX11_change 0 = .ok (.aload_n 0, 1) := by decide +kernel
theorem dX11_change_1 : decode cX11_change 1 = .ok (.getfield 26, 3) := by decide +kernel
theorem dX11_change_4 : decode cX11_change 4 = .ok (.iload_n 1, 1) := by decide +kernel
theorem dX11_change_5 : decode cX11_change 5 = .ok (.iload_n 2, 1) := by decide +kernel
theorem dX11_change_6 : decode cX11_change 6 = .ok (.invokevirtual 60, 3) := by decide +kernel
theorem dX11_change_9 : decode cX11_change 9 = .ok (.ireturn, 1) := by decide +kernel
set_option maxRecDepth 100000 in
theorem ggX11_reports_X10_allowReports : GoodIn wsX11_reports wsX10_allowReports := goodIn_r _ [6, 7, 8, 9, 10, 11, 5, 12, 13, 14, 15, 16, 17, 18, 19, 26, 27, 28, 29, 30, 31, 32, 33, 34, 35, 36, 37, 38, 39, 40, 41, 42, 43, 44, 45, 46, 47] rfl (by decide +kernel)
set_option maxRecDepth 20000 in
theorem gX11_reports_X10_allowReports : GoodIn wsX11_reports (wsV RX11 63 RX10 yX10_allowReports wsX10_allowReports) := goodIn_app (goodIn_of _ (by decide +kernel)) ggX11_reports_X10_allowReports
theorem dX11_reports_0 : decode cX11_reports 0 = .ok (.aload_n 0, 1) := by decide +kernel
theorem dX11_reports_1 : decode cX11_reports 1 = .ok (.getfield 26, 3) := by decide +kernel
theorem dX11_reports_4 : decode cX11_reports 4 = .ok (.iload_n 1, 1) := by decide +kernel
theorem dX11_reports_5 : decode cX11_reports 5 = .ok (.invokevirtual 63, 3) := by decide +kernel
theorem dX11_reports_8 : decode cX11_reports 8 = .ok (.return_, 1) := by decide +kernel
set_option maxRecDepth 100000 in
theorem ggX11_tick_X10_goOn : GoodIn wsX11_tick wsX10_goOn := goodIn_r _ [6, 7, 8, 9, 10, 11, 12, 13, 14, 5, 15, 16, 17, 18, 19, 20, 21, 22, 23, 24, 25, 26, 27, 28, 29, 30, 31, 32, 33, 34, 35, 36, 37, 38, 39, 40, 41, 42, 43, 44, 45, 46, 47, 48, 49, 50, 51, 52, 53, 54, 55, 56, 57, 58, 59, 60, 61, 62, 63, 64, 65, 66, 67, 68, 69, 70, 71, 72, 73, 74, 75, 76, 77, 78, 79, 80, 81, 82, 83, 84, 85, 86, 87, 88, 89, 90, 91, 92, 93, 94, 95, 96, 97, 98, 99, 100, 101, 102, 103, 104, 105, 106, 107, 108, 109, 110, 111, 112, 113, 114, 115, 116, 117, 118, 119, 120, 121, 122, 123, 124, 125, 126, 127, 128, 129, 130, 131, 132, 133, 134, 135, 136, 137, 138, 139, 140, 141, 142, 143, 144, 145, 146, 147, 148, 149, 150, 151, 152, 153, 154, 155, 156, 157, 164, 165, 166, 167, 168, 169, 170, 171, 172, 173, 174, 175, 176, 177, 178, 179, 180, 181, 182, 183, 184, 185, 186, 187, 188, 189, 190, 191, 192, 193, 194] rfl (by decide +kernel)
set_option maxRecDepth 20000 in
theorem gX11_tick_X10_goOn : GoodIn wsX11_tick (wsV RX11 67 RX10 yX10_goOn wsX10_goOn) := goodIn_app (goodIn_of _ (by decide +kernel)) ggX11_tick_X10_goOn
theorem dX11_tick_0 : decode cX11_tick 0 = .ok (.aload_n 0, 1) := by decide +kernel
theorem dX11_tick_1 : decode cX11_tick 1 = .ok (.getfield 26, 3) := by decide +kernel
theorem dX11_tick_4 : decode cX11_tick 4 = .ok (.invokevirtual 67, 3) := by decide +kernel
theorem dX11_tick_7 : decode cX11_tick 7 = .ok (.ireturn, 1) := by decide +kernel
set_option maxRecDepth 100000 in
theorem ggX11_poll_X6_ask : GoodIn wsX11_poll wsX6_ask := goodIn_r _ [6, 7, 8, 9, 10, 11, 12, 13, 14, 15, 16, 17, 18, 19, 20, 21, 22, 23, 24, 25, 26, 27, 28, 29, 30, 31, 32, 33, 34, 35, 36, 37, 38, 39, 40, 41, 42, 43, 44, 45, 46, 47, 48, 49, 50, 51, 52, 53, 54, 55, 56, 57, 58, 59, 60, 61, 62, 63, 64, 65, 66, 67, 68, 69, 70, 71, 72, 73, 74, 75, 76, 77, 78, 79, 80, 81, 82, 83, 84, 85, 86, 87, 88, 89, 90, 91, 92, 93, 94, 95, 96, 97, 98, 105, 106, 107, 108, 109, 110, 111, 112, 113, 114, 115, 116, 117, 118, 119, 120, 121, 122, 123, 124, 125] rfl (by decide +kernel)
set_option maxRecDepth 20000 in
theorem gX11_poll_X6_ask : GoodIn wsX11_poll (wsV RX11 71 RX6 yX6_ask wsX6_ask) := goodIn_app (goodIn_of _ (by decide +kernel)) ggX11_poll_X6_ask
theorem dX11_poll_0 : decode cX11_poll 0 = .ok (.iload_n 1, 1) := by decide +kernel
theorem dX11_poll_1 : decode cX11_poll 1 = .ok (.iconst 1, 1) := by decide +kernel
theorem dX11_poll_2 : decode cX11_poll 2 = .ok (.if_icmp .lt 9, 3) := by decide +kernel
theorem dX11_poll_5 : decode cX11_poll 5 = .ok (.iload_n 1, 1) := by decide +kernel
theorem dX11_poll_6 : decode cX11_poll 6 = .ok (.bipush 15, 2) := by decide +kernel
theorem dX11_poll_8 : decode cX11_poll 8 = .ok (.if_icmp .le 7, 3) := by decide +kernel
theorem dX11_poll_11 : decode cX11_poll 11 = .ok (.iconst (-1), 1) := by decide +kernel
theorem dX11_poll_12 : decode cX11_poll 12 = .ok (.goto 11, 3) := by decide +kernel
theorem dX11_poll_15 : decode cX11_poll 15 = .ok (.aload_n 0, 1) := by decide +kernel
theorem dX11_poll_16 : decode cX11_poll 16 = .ok (.getfield 33, 3) := by decide +kernel
theorem dX11_poll_19 : decode cX11_poll 19 = .ok (.iload_n 1, 1) := by decide +kernel
theorem dX11_poll_20 : decode cX11_poll 20 = .ok (.invokevirtual 71, 3) := by decide +kernel
theorem dX11_poll_23 : decode cX11_poll 23 = .ok (.ireturn, 1) := by decide +kernel
set_option maxRecDepth 100000 in
theorem ggX11_bring_X5_takeOut : GoodIn wsX11_bring wsX5_takeOut := goodIn_r _ [6, 7, 8, 9, 10, 11, 5, 12, 311, 312] rfl (by decide +kernel)
set_option maxRecDepth 20000 in
theorem gX11_bring_X5_takeOut : GoodIn wsX11_bring (wsV RX11 75 RX5 yX5_takeOut wsX5_takeOut) := goodIn_app (goodIn_of _ (by decide +kernel)) ggX11_bring_X5_takeOut
set_option maxRecDepth 100000 in
theorem ggX11_bring_X11_deliver : GoodIn wsX11_bring wsX11_deliver := goodIn_r _ [17, 18, 19, 20, 21, 22, 23, 24, 25, 26, 27, 28, 29, 30, 31, 32, 33, 34, 35, 36, 37, 38, 39, 40, 41, 42, 43, 44, 45, 46, 47, 48, 49, 50, 51, 52, 53, 54, 55, 56, 57, 58, 59, 60, 61, 62, 63, 64, 65, 66, 67, 68, 69, 70, 71, 72, 73, 74, 75, 76, 77, 78, 79, 80, 81, 82, 83, 84, 85, 86, 87, 88, 89, 90, 91, 92, 93, 94, 95, 96, 97, 98, 99, 100, 101, 102, 103, 104, 105, 106, 107, 108, 109, 110, 111, 112, 113, 114, 115, 116, 117, 118, 119, 120, 121, 122, 123, 124, 125, 126, 127, 128, 129, 130, 131, 132, 133, 134, 135, 136, 137, 138, 139, 140, 141, 142, 143, 144, 145, 146, 147, 148, 149, 150, 151, 152, 153, 154, 155, 156, 157, 158, 159, 160, 161, 162, 163, 164, 165, 166, 167, 168, 169, 170, 171, 172, 173, 174, 175, 176, 177, 178, 179, 180, 181, 182, 183, 184, 185, 186, 187, 188, 189, 190, 191, 192, 193, 194, 195, 196, 197, 198, 199, 200, 201, 202, 203, 204, 205, 206, 207, 208, 209, 210, 211, 212, 213, 214, 215, 216, 217, 218, 219, 220, 221, 222, 223, 224, 225, 226, 227, 228, 229, 230, 231, 232, 233, 234, 235, 5, 236, 7, 8, 237, 3, 4, 6, 9, 10, 11, 12, 238, 239, 240, 241, 242, 243, 244, 245, 246, 247, 248, 249, 250, 251, 252, 253, 254, 255, 256, 257, 258, 259, 260, 261, 262, 263, 264, 265, 266, 267, 268, 269, 270, 271, 272, 273, 274, 275, 276, 277, 278, 279, 280, 281, 282, 283, 284, 285, 286, 287, 288, 289, 290, 291, 292, 293, 294, 295, 296, 297, 298, 299, 300, 313, 314, 305, 306, 307, 308, 309, 310, 315, 316, 317, 318, 319, 320, 321, 322, 323, 324, 325, 326, 327, 328, 329, 330, 331, 332, 333, 334, 335, 336, 337, 338, 339, 340, 341, 342, 343, 344, 345, 311, 312, 346, 347, 348, 349, 350, 351, 352, 353, 354, 355, 356, 357] rfl (by decide +kernel)
set_option maxRecDepth 20000 in
theorem gX11_bring_X11_deliver : GoodIn wsX11_bring (wsV RX11 79 RX11 yX11_deliver wsX11_deliver) := goodIn_app (goodIn_of _ (by decide +kernel)) ggX11_bring_X11_deliver
set_option maxRecDepth 100000 in
theorem ggX11_bring_X5_size : GoodIn wsX11_bring wsX5_size := goodIn_r _ [304, 7, 311, 312] rfl (by decide +kernel)
set_option maxRecDepth 20000 in
theorem gX11_bring_X5_size : GoodIn wsX11_bring (wsV RX11 83 RX5 yX5_size wsX5_size) := goodIn_app (goodIn_of _ (by decide +kernel)) ggX11_bring_X5_size
theorem dX11_bring_0 : decode cX11_bring 0 = .ok (.aload_n 0, 1) := by decide +kernel
theorem dX11_bring_1 : decode cX11_bring 1 = .ok (.getfield 10, 3) := by decide +kernel
theorem dX11_bring_4 : decode cX11_bring 4 = .ok (.iload_n 1, 1) := by decide +kernel
theorem dX11_bring_5 : decode cX11_bring 5 = .ok (.invokevirtual 75, 3) := by decide +kernel
theorem dX11_bring_8 : decode cX11_bring 8 = .ok (.astore_n 2, 1) := by decide +kernel
theorem dX11_bring_9 : decode cX11_bring 9 = .ok (.aload_n 2, 1) := by decide +kernel
theorem dX11_bring_10 : decode cX11_bring 10 = .ok (.ifnonnull 5, 3) := by decide +kernel
theorem dX11_bring_13 : decode cX11_bring 13 = .ok (.iconst (-1), 1) := by decide +kernel
theorem dX11_bring_14 : decode cX11_bring 14 = .ok (.ireturn, 1) := by decide +kernel
theorem dX11_bring_15 : decode cX11_bring 15 = .ok (.aload_n 0, 1) := by decide +kernel
theorem dX11_bring_16 : decode cX11_bring 16 = .ok (.aload_n 2, 1) := by decide +kernel
theorem dX11_bring_17 : decode cX11_bring 17 = .ok (.invokevirtual 79, 3) := by decide +kernel
theorem dX11_bring_20 : decode cX11_bring 20 = .ok (.aload_n 0, 1) := by decide +kernel
theorem dX11_bring_21 : decode cX11_bring 21 = .ok (.getfield 10, 3) := by decide +kernel
theorem dX11_bring_24 : decode cX11_bring 24 = .ok (.invokevirtual 83, 3) := by decide +kernel
theorem dX11_bring_27 : decode cX11_bring 27 = .ok (.ireturn, 1) := by decide +kernel
set_option maxRecDepth 100000 in
theorem ggX11_twice_X5_frame : GoodIn wsX11_twice wsX5_frame := goodIn_r _ [6, 7, 8, 311, 312] rfl (by decide +kernel)
set_option maxRecDepth 20000 in
theorem gX11_twice_X5_frame : GoodIn wsX11_twice (wsV RX11 86 RX5 yX5_frame wsX5_frame) := goodIn_app (goodIn_of _ (by decide +kernel)) ggX11_twice_X5_frame
set_option maxRecDepth 100000 in
theorem ggX11_twice_X11_deliver : GoodIn wsX11_twice wsX11_deliver := goodIn_r _ [13, 14, 15, 16, 17, 18, 19, 20, 21, 22, 23, 24, 25, 26, 27, 28, 29, 30, 31, 32, 33, 34, 35, 36, 37, 38, 39, 40, 41, 42, 43, 44, 45, 46, 47, 48, 49, 50, 51, 52, 53, 54, 55, 56, 57, 58, 59, 60, 61, 62, 63, 64, 65, 66, 67, 68, 69, 70, 71, 72, 73, 74, 75, 76, 77, 78, 79, 80, 81, 82, 83, 84, 85, 86, 87, 88, 89, 90, 91, 92, 93, 94, 95, 96, 97, 98, 99, 100, 101, 102, 103, 104, 105, 106, 107, 108, 109, 110, 111, 112, 113, 114, 115, 116, 117, 118, 119, 120, 121, 122, 123, 124, 125, 126, 127, 128, 129, 130, 131, 132, 133, 134, 135, 136, 137, 138, 139, 140, 141, 142, 143, 144, 145, 146, 147, 148, 149, 150, 151, 152, 153, 154, 155, 156, 157, 158, 159, 160, 161, 162, 163, 164, 165, 166, 167, 168, 169, 170, 171, 172, 173, 174, 175, 176, 177, 178, 179, 180, 181, 182, 183, 184, 185, 186, 187, 188, 189, 190, 191, 192, 193, 194, 195, 196, 197, 198, 199, 200, 201, 202, 203, 204, 205, 206, 207, 208, 209, 210, 211, 212, 213, 214, 215, 216, 217, 218, 219, 220, 221, 222, 223, 224, 225, 226, 227, 228, 229, 230, 231, 5, 232, 7, 8, 233, 234, 235, 236, 237, 3, 4, 6, 238, 239, 240, 241, 242, 243, 244, 245, 246, 247, 248, 249, 250, 251, 252, 253, 254, 255, 256, 257, 258, 259, 260, 261, 262, 263, 264, 265, 266, 267, 268, 269, 270, 271, 272, 273, 274, 275, 276, 277, 278, 279, 280, 281, 282, 283, 284, 285, 286, 287, 288, 289, 290, 291, 292, 293, 294, 295, 296, 297, 298, 299, 300, 313, 314, 305, 306, 307, 308, 309, 310, 315, 316, 317, 318, 319, 320, 321, 322, 323, 324, 325, 326, 327, 328, 329, 330, 331, 332, 333, 334, 335, 336, 337, 338, 339, 340, 341, 342, 343, 344, 345, 311, 312, 346, 347, 348, 349, 350, 351, 352, 353, 354, 355, 356, 357] rfl (by decide +kernel)
set_option maxRecDepth 20000 in
theorem gX11_twice_X11_deliver : GoodIn wsX11_twice (wsV RX11 79 RX11 yX11_deliver wsX11_deliver) := goodIn_app (goodIn_of _ (by decide +kernel)) ggX11_twice_X11_deliver
set_option maxRecDepth 100000 in
theorem ggX11_twice_X5_size : GoodIn wsX11_twice wsX5_size := goodIn_r _ [304, 7, 311, 312] rfl (by decide +kernel)
set_option maxRecDepth 20000 in
theorem gX11_twice_X5_size : GoodIn wsX11_twice (wsV RX11 83 RX5 yX5_size wsX5_size) := goodIn_app (goodIn_of _ (by decide +kernel)) ggX11_twice_X5_size
theorem dX11_twice_0 : decode cX11_twice 0 = .ok (.aload_n 0, 1) := by decide +kernel
theorem dX11_twice_1 : decode cX11_twice 1 = .ok (.getfield 10, 3) := by decide +kernel
theorem dX11_twice_4 : decode cX11_twice 4 = .ok (.iload_n 1, 1) := by decide +kernel
theorem dX11_twice_5 : decode cX11_twice 5 = .ok (.invokevirtual 86, 3) := by decide +kernel
theorem dX11_twice_8 : decode cX11_twice 8 = .ok (.astore_n 2, 1) := by decide +kernel
theorem dX11_twice_9 : decode cX11_twice 9 = .ok (.aload_n 2, 1) := by decide +kernel
theorem dX11_twice_10 : decode cX11_twice 10 = .ok (.ifnonnull 5, 3) := by decide +kernel
theorem dX11_twice_13 : decode cX11_twice 13 = .ok (.iconst (-1), 1) := by decide +kernel
theorem dX11_twice_14 : decode cX11_twice 14 = .ok (.ireturn, 1) := by decide +kernel
theorem dX11_twice_15 : decode cX11_twice 15 = .ok (.aload_n 0, 1) := by decide +kernel
theorem dX11_twice_16 : decode cX11_twice 16 = .ok (.aload_n 2, 1) := by decide +kernel
theorem dX11_twice_17 : decode cX11_twice 17 = .ok (.invokevirtual 79, 3) := by decide +kernel
theorem dX11_twice_20 : decode cX11_twice 20 = .ok (.aload_n 0, 1) := by decide +kernel
theorem dX11_twice_21 : decode cX11_twice 21 = .ok (.getfield 10, 3) := by decide +kernel
theorem dX11_twice_24 : decode cX11_twice 24 = .ok (.invokevirtual 83, 3) := by decide +kernel
theorem dX11_twice_27 : decode cX11_twice 27 = .ok (.ireturn, 1) := by decide +kernel
set_option maxRecDepth 100000 in
theorem ggX11_lose_X5_takeOut : GoodIn wsX11_lose wsX5_takeOut := goodIn_r _ [6, 7, 8, 9, 10, 11, 5, 12, 23, 24] rfl (by decide +kernel)
set_option maxRecDepth 20000 in
theorem gX11_lose_X5_takeOut : GoodIn wsX11_lose (wsV RX11 75 RX5 yX5_takeOut wsX5_takeOut) := goodIn_app (goodIn_of _ (by decide +kernel)) ggX11_lose_X5_takeOut
set_option maxRecDepth 100000 in
theorem ggX11_lose_X5_size : GoodIn wsX11_lose wsX5_size := goodIn_r _ [16, 7, 23, 24] rfl (by decide +kernel)
set_option maxRecDepth 20000 in
theorem gX11_lose_X5_size : GoodIn wsX11_lose (wsV RX11 83 RX5 yX5_size wsX5_size) := goodIn_app (goodIn_of _ (by decide +kernel)) ggX11_lose_X5_size
theorem dX11_lose_0 : decode cX11_lose 0 = .ok (.aload_n 0, 1) := by decide +kernel
theorem dX11_lose_1 : decode cX11_lose 1 = .ok (.getfield 10, 3) := by decide +kernel
theorem dX11_lose_4 : decode cX11_lose 4 = .ok (.iload_n 1, 1) := by decide +kernel
theorem dX11_lose_5 : decode cX11_lose 5 = .ok (.invokevirtual 75, 3) := by decide +kernel
theorem dX11_lose_8 : decode cX11_lose 8 = .ok (.ifnonnull 7, 3) := by decide +kernel
theorem dX11_lose_11 : decode cX11_lose 11 = .ok (.iconst (-1), 1) := by decide +kernel
theorem dX11_lose_12 : decode cX11_lose 12 = .ok (.goto 10, 3) := by decide +kernel
theorem dX11_lose_15 : decode cX11_lose 15 = .ok (.aload_n 0, 1) := by decide +kernel
theorem dX11_lose_16 : decode cX11_lose 16 = .ok (.getfield 10, 3) := by decide +kernel
theorem dX11_lose_19 : decode cX11_lose 19 = .ok (.invokevirtual 83, 3) := by decide +kernel
theorem dX11_lose_22 : decode cX11_lose 22 = .ok (.ireturn, 1) := by decide +kernel
set_option maxRecDepth 100000 in
theorem ggX11_poke_X5_frame : GoodIn wsX11_poke wsX5_frame := goodIn_r _ [6, 7, 8, 36, 37] rfl (by decide +kernel)
set_option maxRecDepth 20000 in
theorem gX11_poke_X5_frame : GoodIn wsX11_poke (wsV RX11 86 RX5 yX5_frame wsX5_frame) := goodIn_app (goodIn_of _ (by decide +kernel)) ggX11_poke_X5_frame
set_option maxRecDepth 100000 in
theorem ggX11_poke_X3_spoil : GoodIn wsX11_poke wsX3_spoil := goodIn_r _ [13, 14, 15, 16, 17, 18, 19, 20, 21, 22, 23, 24, 25, 26, 27, 28, 29, 38, 39, 40, 41] rfl (by decide +kernel)
set_option maxRecDepth 20000 in
theorem gX11_poke_X3_spoil : GoodIn wsX11_poke (wsV RX11 89 RX3 yX3_spoil wsX3_spoil) := goodIn_app (goodIn_of _ (by decide +kernel)) ggX11_poke_X3_spoil
theorem dX11_poke_0 : decode cX11_poke 0 = .ok (.aload_n 0, 1) := by decide +kernel
theorem dX11_poke_1 : decode cX11_poke 1 = .ok (.getfield 10, 3) := by decide +kernel
theorem dX11_poke_4 : decode cX11_poke 4 = .ok (.iload_n 1, 1) := by decide +kernel
theorem dX11_poke_5 : decode cX11_poke 5 = .ok (.invokevirtual 86, 3) := by decide +kernel
theorem dX11_poke_8 : decode cX11_poke 8 = .ok (.astore 4, 2) := by decide +kernel
theorem dX11_poke_10 : decode cX11_poke 10 = .ok (.aload 4, 2) := by decide +kernel
theorem dX11_poke_12 : decode cX11_poke 12 = .ok (.ifnull 29, 3) := by decide +kernel
theorem dX11_poke_15 : decode cX11_poke 15 = .ok (.iload_n 3, 1) := by decide +kernel
theorem dX11_poke_16 : decode cX11_poke 16 = .ok (.iconst 1, 1) := by decide +kernel
theorem dX11_poke_17 : decode cX11_poke 17 = .ok (.if_icmp .lt 24, 3) := by decide +kernel
theorem dX11_poke_20 : decode cX11_poke 20 = .ok (.iload_n 3, 1) := by decide +kernel
theorem dX11_poke_21 : decode cX11_poke 21 = .ok (.sipush 255, 3) := by decide +kernel
theorem dX11_poke_24 : decode cX11_poke 24 = .ok (.if_icmp .gt 17, 3) := by decide +kernel
theorem dX11_poke_27 : decode cX11_poke 27 = .ok (.aload 4, 2) := by decide +kernel
theorem dX11_poke_29 : decode cX11_poke 29 = .ok (.iload_n 2, 1) := by decide +kernel
theorem dX11_poke_30 : decode cX11_poke 30 = .ok (.iload_n 3, 1) := by decide +kernel
theorem dX11_poke_31 : decode cX11_poke 31 = .ok (.invokevirtual 89, 3) := by decide +kernel
theorem dX11_poke_34 : decode cX11_poke 34 = .ok (.ifCond .eq 7, 3) := by decide +kernel
theorem dX11_poke_37 : decode cX11_poke 37 = .ok (.iconst 1, 1) := by decide +kernel
theorem dX11_poke_38 : decode cX11_poke 38 = .ok (.goto 4, 3) := by decide +kernel
theorem dX11_poke_41 : decode cX11_poke 41 = .ok (.iconst 0, 1) := by decide +kernel
theorem dX11_poke_42 : decode cX11_poke 42 = .ok (.ireturn, 1) := by decide +kernel
set_option maxRecDepth 100000 in
theorem ggX11_at_X5_frame : GoodIn wsX11_at wsX5_frame := goodIn_r _ [6, 7, 8, 28, 29] rfl (by decide +kernel)
set_option maxRecDepth 20000 in
theorem gX11_at_X5_frame : GoodIn wsX11_at (wsV RX11 86 RX5 yX5_frame wsX5_frame) := goodIn_app (goodIn_of _ (by decide +kernel)) ggX11_at_X5_frame
set_option maxRecDepth 100000 in
theorem ggX11_at_X3_get : GoodIn wsX11_at wsX3_get := goodIn_r _ [13, 14, 15, 16, 17, 18, 19, 20, 21, 30, 31, 32, 33] rfl (by decide +kernel)
set_option maxRecDepth 20000 in
theorem gX11_at_X3_get : GoodIn wsX11_at (wsV RX11 94 RX3 yX3_get wsX3_get) := goodIn_app (goodIn_of _ (by decide +kernel)) ggX11_at_X3_get
theorem dX11_at_0 : decode cX11_at 0 = .ok (.aload_n 0, 1) := by decide +kernel
theorem dX11_at_1 : decode cX11_at 1 = .ok (.getfield 10, 3) := by decide +kernel
theorem dX11_at_4 : decode cX11_at 4 = .ok (.iload_n 1, 1) := by decide +kernel
theorem dX11_at_5 : decode cX11_at 5 = .ok (.invokevirtual 86, 3) := by decide +kernel
theorem dX11_at_8 : decode cX11_at 8 = .ok (.astore_n 3, 1) := by decide +kernel
theorem dX11_at_9 : decode cX11_at 9 = .ok (.aload_n 3, 1) := by decide +kernel
theorem dX11_at_10 : decode cX11_at 10 = .ok (.ifnonnull 7, 3) := by decide +kernel
theorem dX11_at_13 : decode cX11_at 13 = .ok (.iconst (-1), 1) := by decide +kernel
theorem dX11_at_14 : decode cX11_at 14 = .ok (.goto 8, 3) := by decide +kernel
theorem dX11_at_17 : decode cX11_at 17 = .ok (.aload_n 3, 1) := by decide +kernel
theorem dX11_at_18 : decode cX11_at 18 = .ok (.iload_n 2, 1) := by decide +kernel
theorem dX11_at_19 : decode cX11_at 19 = .ok (.invokevirtual 94, 3) := by decide +kernel
theorem dX11_at_22 : decode cX11_at 22 = .ok (.ireturn, 1) := by decide +kernel
set_option maxRecDepth 100000 in
theorem ggX11_flying_X5_size : GoodIn wsX11_flying wsX5_size := goodIn_r _ [6, 7, 14, 15] rfl (by decide +kernel)
set_option maxRecDepth 20000 in
theorem gX11_flying_X5_size : GoodIn wsX11_flying (wsV RX11 83 RX5 yX5_size wsX5_size) := goodIn_app (goodIn_of _ (by decide +kernel)) ggX11_flying_X5_size
theorem dX11_flying_0 : decode cX11_flying 0 = .ok (.aload_n 0, 1) := by decide +kernel
theorem dX11_flying_1 : decode cX11_flying 1 = .ok (.getfield 10, 3) := by decide +kernel
theorem dX11_flying_4 : decode cX11_flying 4 = .ok (.invokevirtual 83, 3) := by decide +kernel
theorem dX11_flying_7 : decode cX11_flying 7 = .ok (.ireturn, 1) := by decide +kernel
set_option maxRecDepth 100000 in
theorem ggX11_feed_X1_add : GoodIn wsX11_feed wsX1_add := goodIn_r _ [6, 7, 8, 15, 16] rfl (by decide +kernel)
set_option maxRecDepth 20000 in
theorem gX11_feed_X1_add : GoodIn wsX11_feed (wsV RX11 97 RX1 yX1_add wsX1_add) := goodIn_app (goodIn_of _ (by decide +kernel)) ggX11_feed_X1_add
theorem dX11_feed_0 : decode cX11_feed 0 = .ok (.iload_n 1, 1) := by decide +kernel
theorem dX11_feed_1 : decode cX11_feed 1 = .ok (.ifCond .lt 25, 3) := by decide +kernel
theorem dX11_feed_4 : decode cX11_feed 4 = .ok (.iload_n 1, 1) := by decide +kernel
theorem dX11_feed_5 : decode cX11_feed 5 = .ok (.sipush 255, 3) := by decide +kernel
theorem dX11_feed_8 : decode cX11_feed 8 = .ok (.if_icmp .gt 18, 3) := by decide +kernel
theorem dX11_feed_11 : decode cX11_feed 11 = .ok (.aload_n 0, 1) := by decide +kernel
theorem dX11_feed_12 : decode cX11_feed 12 = .ok (.getfield 52, 3) := by decide +kernel
theorem dX11_feed_15 : decode cX11_feed 15 = .ok (.iload_n 1, 1) := by decide +kernel
theorem dX11_feed_16 : decode cX11_feed 16 = .ok (.invokevirtual 97, 3) := by decide +kernel
theorem dX11_feed_19 : decode cX11_feed 19 = .ok (.ifCond .eq 7, 3) := by decide +kernel
theorem dX11_feed_22 : decode cX11_feed 22 = .ok (.iconst 1, 1) := by decide +kernel
theorem dX11_feed_23 : decode cX11_feed 23 = .ok (.goto 4, 3) := by decide +kernel
theorem dX11_feed_26 : decode cX11_feed 26 = .ok (.iconst 0, 1) := by decide +kernel
theorem dX11_feed_27 : decode cX11_feed 27 = .ok (.ireturn, 1) := by decide +kernel
set_option maxRecDepth 100000 in
theorem ggX11_inject_X6_hear : GoodIn wsX11_inject wsX6_hear := goodIn_r _ [8, 9, 10, 11, 12, 13, 14, 15, 16, 17, 7, 18, 19, 20, 21, 22, 23, 24, 25, 26, 27, 28, 29, 30, 31, 32, 33, 34, 35, 36, 37, 38, 39, 40, 41, 42, 43, 44, 45, 46, 47, 48, 49, 50, 51, 52, 53, 54, 55, 56, 57, 58, 59, 60, 61, 62, 63, 64, 65, 66, 67, 68, 69, 70, 71, 72, 73, 74, 75, 76, 77, 78, 79, 80, 81, 82, 83, 84, 85, 86, 87, 88, 89, 90, 91, 92, 93, 94, 95, 96, 97, 98, 99, 100, 101, 102, 103, 104, 105, 106, 107, 108, 109, 110, 111, 112, 113, 114, 115, 116, 117, 118, 119, 120, 121, 122, 123, 124, 125, 126, 127, 128, 129, 130, 131, 132, 133, 134, 135, 136, 137, 138, 139, 140, 141, 142, 143, 144, 248, 249, 250, 251, 252, 253, 254, 255, 256, 257, 258, 259, 260, 261, 262, 263, 264, 265, 266, 267, 268] rfl (by decide +kernel)
set_option maxRecDepth 20000 in
theorem gX11_inject_X6_hear : GoodIn wsX11_inject (wsV RX11 101 RX6 yX6_hear wsX6_hear) := goodIn_app (goodIn_of _ (by decide +kernel)) ggX11_inject_X6_hear
set_option maxRecDepth 100000 in
theorem ggX11_inject_X10_hear : GoodIn wsX11_inject wsX10_hear := goodIn_r _ [149, 150, 151, 152, 153, 154, 148, 155, 156, 21, 22, 23, 24, 25, 157, 27, 28, 29, 30, 158, 159, 160, 161, 162, 163, 164, 165, 166, 167, 168, 169, 170, 171, 172, 173, 174, 175, 176, 177, 178, 179, 180, 87, 181, 182, 183, 184, 185, 186, 187, 188, 189, 190, 191, 192, 193, 194, 195, 196, 197, 198, 199, 200, 201, 202, 203, 204, 205, 206, 207, 208, 73, 74, 75, 209, 126, 127, 128, 129, 77, 78, 79, 210, 41, 36, 42, 211, 212, 213, 214, 215, 86, 88, 216, 217, 218, 219, 220, 221, 222, 223, 224, 225, 226, 227, 228, 229, 230, 231, 232, 233, 234, 235, 236, 237, 238, 239, 240, 81, 82, 83, 84, 85, 89, 90, 91, 92, 93, 94, 95, 96, 97, 98, 99, 100, 101, 102, 103, 104, 105, 106, 107, 108, 109, 110, 111, 112, 113, 114, 115, 116, 117, 118, 119, 120, 121, 122, 123, 124, 125, 130, 131, 132, 133, 134, 135, 136, 137, 138, 139, 63, 140, 141, 142, 143, 144, 269, 270, 271, 272, 273, 274, 275, 276, 277, 278, 279, 280, 281, 282, 283, 284, 285, 260, 261, 286, 287, 288, 289, 290, 262, 263, 264, 265, 266, 267, 268] rfl (by decide +kernel)
set_option maxRecDepth 20000 in
theorem gX11_inject_X10_hear : GoodIn wsX11_inject (wsV RX11 105 RX10 yX10_hear wsX10_hear) := goodIn_app (goodIn_of _ (by decide +kernel)) ggX11_inject_X10_hear
set_option maxRecDepth 100000 in
theorem ggX11_inject_X1_clear : GoodIn wsX11_inject wsX1_clear := goodIn_r _ [75, 25, 260, 261] rfl (by decide +kernel)
set_option maxRecDepth 20000 in
theorem gX11_inject_X1_clear : GoodIn wsX11_inject (wsV RX11 106 RX1 yX1_clear wsX1_clear) := goodIn_app (goodIn_of _ (by decide +kernel)) ggX11_inject_X1_clear
theorem dX11_inject_0 : decode cX11_inject 0 = .ok (.iload_n 1, 1) := by decide +kernel
theorem dX11_inject_1 : decode cX11_inject 1 = .ok (.ifCond .eq 10, 3) := by decide +kernel
theorem dX11_inject_4 : decode cX11_inject 4 = .ok (.iload_n 1, 1) := by decide +kernel
theorem dX11_inject_5 : decode cX11_inject 5 = .ok (.iconst 1, 1) := by decide +kernel
theorem dX11_inject_6 : decode cX11_inject 6 = .ok (.if_icmp .eq 5, 3) := by decide +kernel
theorem dX11_inject_9 : decode cX11_inject 9 = .ok (.iconst 0, 1) := by decide +kernel
theorem dX11_inject_10 : decode cX11_inject 10 = .ok (.ireturn, 1) := by decide +kernel
theorem dX11_inject_11 : decode cX11_inject 11 = .ok (.iload_n 1, 1) := by decide +kernel
theorem dX11_inject_12 : decode cX11_inject 12 = .ok (.ifCond .ne 17, 3) := by decide +kernel
theorem dX11_inject_15 : decode cX11_inject 15 = .ok (.aload_n 0, 1) := by decide +kernel
theorem dX11_inject_16 : decode cX11_inject 16 = .ok (.getfield 33, 3) := by decide +kernel
theorem dX11_inject_19 : decode cX11_inject 19 = .ok (.aload_n 0, 1) := by decide +kernel
theorem dX11_inject_20 : decode cX11_inject 20 = .ok (.getfield 52, 3) := by decide +kernel
theorem dX11_inject_23 : decode cX11_inject 23 = .ok (.invokevirtual 101, 3) := by decide +kernel
theorem dX11_inject_26 : decode cX11_inject 26 = .ok (.goto 14, 3) := by decide +kernel
theorem dX11_inject_29 : decode cX11_inject 29 = .ok (.aload_n 0, 1) := by decide +kernel
theorem dX11_inject_30 : decode cX11_inject 30 = .ok (.getfield 26, 3) := by decide +kernel
theorem dX11_inject_33 : decode cX11_inject 33 = .ok (.aload_n 0, 1) := by decide +kernel
theorem dX11_inject_34 : decode cX11_inject 34 = .ok (.getfield 52, 3) := by decide +kernel
theorem dX11_inject_37 : decode cX11_inject 37 = .ok (.invokevirtual 105, 3) := by decide +kernel
theorem dX11_inject_40 : decode cX11_inject 40 = .ok (.istore_n 2, 1) := by decide +kernel
theorem dX11_inject_41 : decode cX11_inject 41 = .ok (.aload_n 0, 1) := by decide +kernel
theorem dX11_inject_42 : decode cX11_inject 42 = .ok (.getfield 52, 3) := by decide +kernel
theorem dX11_inject_45 : decode cX11_inject 45 = .ok (.invokevirtual 106, 3) := by decide +kernel
theorem dX11_inject_48 : decode cX11_inject 48 = .ok (.iload_n 2, 1) := by decide +kernel
theorem dX11_inject_49 : decode cX11_inject 49 = .ok (.ireturn, 1) := by decide +kernel
set_option maxRecDepth 100000 in
theorem ggX11_view_X6_seen : GoodIn wsX11_view wsX6_seen := goodIn_r _ [6, 7, 8, 15, 16, 17, 18, 19, 20, 21, 22, 23, 24, 25, 26] rfl (by decide +kernel)
set_option maxRecDepth 20000 in
theorem gX11_view_X6_seen : GoodIn wsX11_view (wsV RX11 109 RX6 yX6_seen wsX6_seen) := goodIn_app (goodIn_of _ (by decide +kernel)) ggX11_view_X6_seen
theorem dX11_view_0 : decode cX11_view 0 = .ok (.aload_n 0, 1) := by decide +kernel
theorem dX11_view_1 : decode cX11_view 1 = .ok (.getfield 33, 3) := by decide +kernel
theorem dX11_view_4 : decode cX11_view 4 = .ok (.iload_n 1, 1) := by decide +kernel
theorem dX11_view_5 : decode cX11_view 5 = .ok (.iload_n 2, 1) := by decide +kernel
theorem dX11_view_6 : decode cX11_view 6 = .ok (.invokevirtual 109, 3) := by decide +kernel
theorem dX11_view_9 : decode cX11_view 9 = .ok (.ireturn, 1) := by decide +kernel
set_option maxRecDepth 100000 in
theorem ggX11_taken_X6_takenEvent : GoodIn wsX11_taken wsX6_takenEvent := goodIn_r _ [6, 7, 8, 15, 16, 17, 18, 19, 20, 21, 22, 23, 24, 25, 26] rfl (by decide +kernel)
set_option maxRecDepth 20000 in
theorem gX11_taken_X6_takenEvent : GoodIn wsX11_taken (wsV RX11 113 RX6 yX6_takenEvent wsX6_takenEvent) := goodIn_app (goodIn_of _ (by decide +kernel)) ggX11_taken_X6_takenEvent
theorem dX11_taken_0 : decode cX11_taken 0 = .ok (.aload_n 0, 1) := by decide +kernel
theorem dX11_taken_1 : decode cX11_taken 1 = .ok (.getfield 33, 3) := by decide +kernel
theorem dX11_taken_4 : decode cX11_taken 4 = .ok (.iload_n 1, 1) := by decide +kernel
theorem dX11_taken_5 : decode cX11_taken 5 = .ok (.iload_n 2, 1) := by decide +kernel
theorem dX11_taken_6 : decode cX11_taken 6 = .ok (.invokevirtual 113, 3) := by decide +kernel
theorem dX11_taken_9 : decode cX11_taken 9 = .ok (.ireturn, 1) := by decide +kernel
set_option maxRecDepth 100000 in
theorem ggX11_event_X10_keptEvent : GoodIn wsX11_event wsX10_keptEvent := goodIn_r _ [6, 7, 8, 9, 10, 11, 12, 13, 14, 15, 16, 17, 18, 19, 20, 21, 28, 29, 30, 31, 32, 33, 34, 35, 36, 37, 38, 39, 40, 41, 42, 43, 44, 45, 46, 47, 48, 49] rfl (by decide +kernel)
set_option maxRecDepth 20000 in
theorem gX11_event_X10_keptEvent : GoodIn wsX11_event (wsV RX11 116 RX10 yX10_keptEvent wsX10_keptEvent) := goodIn_app (goodIn_of _ (by decide +kernel)) ggX11_event_X10_keptEvent
theorem dX11_event_0 : decode cX11_event 0 = .ok (.aload_n 0, 1) := by decide +kernel
theorem dX11_event_1 : decode cX11_event 1 = .ok (.getfield 26, 3) := by decide +kernel
theorem dX11_event_4 : decode cX11_event 4 = .ok (.iload_n 1, 1) := by decide +kernel
theorem dX11_event_5 : decode cX11_event 5 = .ok (.iload_n 2, 1) := by decide +kernel
theorem dX11_event_6 : decode cX11_event 6 = .ok (.iload_n 3, 1) := by decide +kernel
theorem dX11_event_7 : decode cX11_event 7 = .ok (.invokevirtual 116, 3) := by decide +kernel
theorem dX11_event_10 : decode cX11_event 10 = .ok (.ireturn, 1) := by decide +kernel
set_option maxRecDepth 100000 in
theorem ggX11_count_X1_size : GoodIn wsX11_count wsX1_size := goodIn_r _ [10, 11, 51, 52] rfl (by decide +kernel)
set_option maxRecDepth 20000 in
theorem gX11_count_X1_size : GoodIn wsX11_count (wsV RX11 155 RX1 yX1_size wsX1_size) := goodIn_app (goodIn_of _ (by decide +kernel)) ggX11_count_X1_size
theorem dX11_count_0 : decode cX11_count 0 = .ok (.iload_n 1, 1) := by decide +kernel
theorem dX11_count_1 : decode cX11_count 1 = .ok (.tableswitch 183 0 11 #[63, 71, 79, 87, 103, 119, 127, 135, 143, 151, 159, 175], 63) := by decide +kernel
theorem dX11_count_64 : decode cX11_count 64 = .ok (.aload_n 0, 1) := by decide +kernel
theorem dX11_count_65 : decode cX11_count 65 = .ok (.getfield 26, 3) := by decide +kernel
theorem dX11_count_68 : decode cX11_count 68 = .ok (.getfield 120, 3) := by decide +kernel
theorem dX11_count_71 : decode cX11_count 71 = .ok (.ireturn, 1) := by decide +kernel
theorem dX11_count_72 : decode cX11_count 72 = .ok (.aload_n 0, 1) := by decide +kernel
theorem dX11_count_73 : decode cX11_count 73 = .ok (.getfield 33, 3) := by decide +kernel
theorem dX11_count_76 : decode cX11_count 76 = .ok (.getfield 124, 3) := by decide +kernel
theorem dX11_count_79 : decode cX11_count 79 = .ok (.ireturn, 1) := by decide +kernel
theorem dX11_count_80 : decode cX11_count 80 = .ok (.aload_n 0, 1) := by decide +kernel
theorem dX11_count_81 : decode cX11_count 81 = .ok (.getfield 33, 3) := by decide +kernel
theorem dX11_count_84 : decode cX11_count 84 = .ok (.getfield 127, 3) := by decide +kernel
theorem dX11_count_87 : decode cX11_count 87 = .ok (.ireturn, 1) := by decide +kernel
theorem dX11_count_88 : decode cX11_count 88 = .ok (.aload_n 0, 1) := by decide +kernel
theorem dX11_count_89 : decode cX11_count 89 = .ok (.getfield 44, 3) := by decide +kernel
theorem dX11_count_92 : decode cX11_count 92 = .ok (.getfield 130, 3) := by decide +kernel
theorem dX11_count_95 : decode cX11_count 95 = .ok (.aload_n 0, 1) := by decide +kernel
theorem dX11_count_96 : decode cX11_count 96 = .ok (.getfield 40, 3) := by decide +kernel
theorem dX11_count_99 : decode cX11_count 99 = .ok (.getfield 130, 3) := by decide +kernel
theorem dX11_count_102 : decode cX11_count 102 = .ok (.iadd, 1) := by decide +kernel
theorem dX11_count_103 : decode cX11_count 103 = .ok (.ireturn, 1) := by decide +kernel
theorem dX11_count_104 : decode cX11_count 104 = .ok (.aload_n 0, 1) := by decide +kernel
theorem dX11_count_105 : decode cX11_count 105 = .ok (.getfield 33, 3) := by decide +kernel
theorem dX11_count_108 : decode cX11_count 108 = .ok (.getfield 133, 3) := by decide +kernel
theorem dX11_count_111 : decode cX11_count 111 = .ok (.aload_n 0, 1) := by decide +kernel
theorem dX11_count_112 : decode cX11_count 112 = .ok (.getfield 26, 3) := by decide +kernel
theorem dX11_count_115 : decode cX11_count 115 = .ok (.getfield 136, 3) := by decide +kernel
theorem dX11_count_118 : decode cX11_count 118 = .ok (.iadd, 1) := by decide +kernel
theorem dX11_count_119 : decode cX11_count 119 = .ok (.ireturn, 1) := by decide +kernel
theorem dX11_count_120 : decode cX11_count 120 = .ok (.aload_n 0, 1) := by decide +kernel
theorem dX11_count_121 : decode cX11_count 121 = .ok (.getfield 33, 3) := by decide +kernel
theorem dX11_count_124 : decode cX11_count 124 = .ok (.getfield 137, 3) := by decide +kernel
theorem dX11_count_127 : decode cX11_count 127 = .ok (.ireturn, 1) := by decide +kernel
theorem dX11_count_128 : decode cX11_count 128 = .ok (.aload_n 0, 1) := by decide +kernel
theorem dX11_count_129 : decode cX11_count 129 = .ok (.getfield 26, 3) := by decide +kernel
theorem dX11_count_132 : decode cX11_count 132 = .ok (.getfield 140, 3) := by decide +kernel
theorem dX11_count_135 : decode cX11_count 135 = .ok (.ireturn, 1) := by decide +kernel
theorem dX11_count_136 : decode cX11_count 136 = .ok (.aload_n 0, 1) := by decide +kernel
theorem dX11_count_137 : decode cX11_count 137 = .ok (.getfield 26, 3) := by decide +kernel
theorem dX11_count_140 : decode cX11_count 140 = .ok (.getfield 143, 3) := by decide +kernel
theorem dX11_count_143 : decode cX11_count 143 = .ok (.ireturn, 1) := by decide +kernel
theorem dX11_count_144 : decode cX11_count 144 = .ok (.aload_n 0, 1) := by decide +kernel
theorem dX11_count_145 : decode cX11_count 145 = .ok (.getfield 33, 3) := by decide +kernel
theorem dX11_count_148 : decode cX11_count 148 = .ok (.getfield 146, 3) := by decide +kernel
theorem dX11_count_151 : decode cX11_count 151 = .ok (.ireturn, 1) := by decide +kernel
theorem dX11_count_152 : decode cX11_count 152 = .ok (.aload_n 0, 1) := by decide +kernel
theorem dX11_count_153 : decode cX11_count 153 = .ok (.getfield 33, 3) := by decide +kernel
theorem dX11_count_156 : decode cX11_count 156 = .ok (.getfield 149, 3) := by decide +kernel
theorem dX11_count_159 : decode cX11_count 159 = .ok (.ireturn, 1) := by decide +kernel
theorem dX11_count_160 : decode cX11_count 160 = .ok (.aload_n 0, 1) := by decide +kernel
theorem dX11_count_161 : decode cX11_count 161 = .ok (.getfield 26, 3) := by decide +kernel
theorem dX11_count_164 : decode cX11_count 164 = .ok (.getfield 152, 3) := by decide +kernel
theorem dX11_count_167 : decode cX11_count 167 = .ok (.ifCond .ne 7, 3) := by decide +kernel
theorem dX11_count_170 : decode cX11_count 170 = .ok (.iconst 0, 1) := by decide +kernel
theorem dX11_count_171 : decode cX11_count 171 = .ok (.goto 4, 3) := by decide +kernel
theorem dX11_count_174 : decode cX11_count 174 = .ok (.iconst 1, 1) := by decide +kernel
theorem dX11_count_175 : decode cX11_count 175 = .ok (.ireturn, 1) := by decide +kernel
theorem dX11_count_176 : decode cX11_count 176 = .ok (.aload_n 0, 1) := by decide +kernel
theorem dX11_count_177 : decode cX11_count 177 = .ok (.getfield 52, 3) := by decide +kernel
theorem dX11_count_180 : decode cX11_count 180 = .ok (.invokevirtual 155, 3) := by decide +kernel
theorem dX11_count_183 : decode cX11_count 183 = .ok (.ireturn, 1) := by decide +kernel
theorem dX11_count_184 : decode cX11_count 184 = .ok (.iconst (-1), 1) := by decide +kernel
theorem dX11_count_185 : decode cX11_count 185 = .ok (.ireturn, 1) := by decide +kernel
set_option maxRecDepth 100000 in
theorem ggX11_deliver_X7_completes : GoodIn wsX11_deliver wsX7_completes := goodIn_r _ [9, 10, 11, 12, 13, 14, 15, 16, 17, 18, 19, 20, 21, 22, 23, 24, 25, 26, 27, 28, 29, 30, 31, 32, 33, 34, 35, 36, 37, 38, 39, 40, 41, 42, 43, 44, 45, 46, 47, 48, 49, 50, 51, 52, 53, 54, 55, 56, 57, 58, 59, 60, 61, 62, 63, 64, 65, 66, 67, 68, 69, 70, 71, 72, 73, 74, 75, 76, 77, 78, 79, 80, 81, 82, 8, 83, 84, 85, 86, 87, 88, 89, 90, 91, 92, 93, 94, 95, 96, 97, 98, 99, 100, 302, 303, 304, 305, 294, 295, 306, 307] rfl (by decide +kernel)
set_option maxRecDepth 20000 in
theorem gX11_deliver_X7_completes : GoodIn wsX11_deliver (wsV RX11 159 RX7 yX7_completes wsX7_completes) := goodIn_app (goodIn_of _ (by decide +kernel)) ggX11_deliver_X7_completes
set_option maxRecDepth 100000 in
theorem ggX11_deliver_X10_hear : GoodIn wsX11_deliver wsX10_hear := goodIn_r _ [105, 106, 107, 108, 109, 110, 104, 111, 112, 32, 33, 27, 34, 29, 113, 25, 26, 28, 30, 114, 115, 116, 117, 118, 119, 120, 121, 122, 123, 124, 125, 126, 127, 128, 129, 130, 131, 132, 133, 134, 135, 136, 65, 137, 138, 139, 140, 141, 142, 143, 144, 145, 146, 147, 148, 149, 150, 151, 152, 153, 154, 155, 156, 157, 158, 159, 160, 161, 162, 163, 164, 76, 77, 78, 165, 166, 167, 168, 169, 95, 96, 97, 170, 171, 172, 173, 174, 175, 176, 177, 178, 64, 66, 179, 180, 181, 182, 183, 184, 185, 186, 187, 188, 189, 190, 191, 192, 193, 194, 195, 196, 197, 198, 199, 200, 201, 202, 203, 204, 205, 206, 207, 208, 209, 210, 211, 212, 213, 214, 73, 215, 216, 217, 218, 219, 220, 221, 222, 223, 224, 225, 226, 227, 228, 229, 230, 231, 232, 233, 17, 234, 39, 19, 235, 236, 40, 41, 42, 43, 237, 49, 50, 51, 52, 53, 54, 55, 56, 57, 58, 48, 31, 24, 238, 88, 89, 308, 309, 310, 311, 312, 313, 314, 315, 316, 317, 318, 319, 320, 321, 322, 323, 324, 306, 307, 325, 326, 327, 328, 329, 330, 331, 332, 333, 334, 294, 295] rfl (by decide +kernel)
set_option maxRecDepth 20000 in
theorem gX11_deliver_X10_hear : GoodIn wsX11_deliver (wsV RX11 105 RX10 yX10_hear wsX10_hear) := goodIn_app (goodIn_of _ (by decide +kernel)) ggX11_deliver_X10_hear
set_option maxRecDepth 100000 in
theorem ggX11_deliver_X6_hear : GoodIn wsX11_deliver wsX6_hear := goodIn_r _ [243, 244, 245, 246, 247, 248, 249, 250, 251, 252, 242, 253, 254, 255, 32, 33, 27, 34, 29, 256, 25, 26, 28, 30, 257, 258, 259, 260, 261, 172, 262, 263, 264, 265, 171, 173, 266, 267, 268, 269, 270, 271, 272, 273, 274, 275, 276, 277, 278, 279, 280, 281, 282, 45, 46, 47, 48, 283, 284, 285, 286, 287, 288, 289, 290, 291, 76, 77, 78, 292, 95, 96, 97, 293, 204, 205, 206, 207, 208, 64, 65, 66, 209, 210, 211, 212, 213, 214, 73, 215, 216, 217, 218, 219, 220, 221, 222, 223, 224, 225, 226, 227, 228, 229, 230, 231, 232, 233, 17, 234, 39, 19, 235, 236, 40, 41, 42, 43, 237, 166, 167, 168, 169, 49, 50, 51, 52, 53, 54, 55, 56, 57, 58, 31, 24, 238, 88, 89, 335, 336, 337, 338, 339, 340, 341, 342, 343, 344, 345, 346, 306, 307, 330, 331, 332, 333, 334, 294, 295] rfl (by decide +kernel)
set_option maxRecDepth 20000 in
theorem gX11_deliver_X6_hear : GoodIn wsX11_deliver (wsV RX11 101 RX6 yX6_hear wsX6_hear) := goodIn_app (goodIn_of _ (by decide +kernel)) ggX11_deliver_X6_hear
theorem dX11_deliver_0 : decode cX11_deliver 0 = .ok (.aload_n 1, 1) := by decide +kernel
theorem dX11_deliver_1 : decode cX11_deliver 1 = .ok (.getfield 156, 3) := by decide +kernel
theorem dX11_deliver_4 : decode cX11_deliver 4 = .ok (.iconst 2, 1) := by decide +kernel
theorem dX11_deliver_5 : decode cX11_deliver 5 = .ok (.if_icmp .ne 32, 3) := by decide +kernel
theorem dX11_deliver_8 : decode cX11_deliver 8 = .ok (.aload_n 0, 1) := by decide +kernel
theorem dX11_deliver_9 : decode cX11_deliver 9 = .ok (.getfield 40, 3) := by decide +kernel
theorem dX11_deliver_12 : decode cX11_deliver 12 = .ok (.aload_n 1, 1) := by decide +kernel
theorem dX11_deliver_13 : decode cX11_deliver 13 = .ok (.invokevirtual 159, 3) := by decide +kernel
theorem dX11_deliver_16 : decode cX11_deliver 16 = .ok (.ifCond .eq 47, 3) := by decide +kernel
theorem dX11_deliver_19 : decode cX11_deliver 19 = .ok (.aload_n 0, 1) := by decide +kernel
theorem dX11_deliver_20 : decode cX11_deliver 20 = .ok (.getfield 26, 3) := by decide +kernel
theorem dX11_deliver_23 : decode cX11_deliver 23 = .ok (.aload_n 0, 1) := by decide +kernel
theorem dX11_deliver_24 : decode cX11_deliver 24 = .ok (.getfield 40, 3) := by decide +kernel
theorem dX11_deliver_27 : decode cX11_deliver 27 = .ok (.getfield 163, 3) := by decide +kernel
theorem dX11_deliver_30 : decode cX11_deliver 30 = .ok (.invokevirtual 105, 3) := by decide +kernel
theorem dX11_deliver_33 : decode cX11_deliver 33 = .ok (.pop, 1) := by decide +kernel
theorem dX11_deliver_34 : decode cX11_deliver 34 = .ok (.goto 29, 3) := by decide +kernel
theorem dX11_deliver_37 : decode cX11_deliver 37 = .ok (.aload_n 0, 1) := by decide +kernel
theorem dX11_deliver_38 : decode cX11_deliver 38 = .ok (.getfield 44, 3) := by decide +kernel
theorem dX11_deliver_41 : decode cX11_deliver 41 = .ok (.aload_n 1, 1) := by decide +kernel
theorem dX11_deliver_42 : decode cX11_deliver 42 = .ok (.invokevirtual 159, 3) := by decide +kernel
theorem dX11_deliver_45 : decode cX11_deliver 45 = .ok (.ifCond .eq 18, 3) := by decide +kernel
theorem dX11_deliver_48 : decode cX11_deliver 48 = .ok (.aload_n 0, 1) := by decide +kernel
theorem dX11_deliver_49 : decode cX11_deliver 49 = .ok (.getfield 33, 3) := by decide +kernel
theorem dX11_deliver_52 : decode cX11_deliver 52 = .ok (.aload_n 0, 1) := by decide +kernel
theorem dX11_deliver_53 : decode cX11_deliver 53 = .ok (.getfield 44, 3) := by decide +kernel
theorem dX11_deliver_56 : decode cX11_deliver 56 = .ok (.getfield 163, 3) := by decide +kernel
theorem dX11_deliver_59 : decode cX11_deliver 59 = .ok (.invokevirtual 101, 3) := by decide +kernel
theorem dX11_deliver_62 : decode cX11_deliver 62 = .ok (.pop, 1) := by decide +kernel
theorem dX11_deliver_63 : decode cX11_deliver 63 = .ok (.return_, 1) := by decide +kernel
theorem dJ9_max_7cf53_0 : decode cJ9_max_7cf53 0 = .ok (.iload_n 0, 1) := by decide +kernel
theorem dJ9_max_7cf53_1 : decode cJ9_max_7cf53 1 = .ok (.iload_n 1, 1) := by decide +kernel
theorem dJ9_max_7cf53_2 : decode cJ9_max_7cf53 2 = .ok (.if_icmp .lt 7, 3) := by decide +kernel
theorem dJ9_max_7cf53_5 : decode cJ9_max_7cf53 5 = .ok (.iload_n 0, 1) := by decide +kernel
theorem dJ9_max_7cf53_6 : decode cJ9_max_7cf53 6 = .ok (.goto 4, 3) := by decide +kernel
theorem dJ9_max_7cf53_9 : decode cJ9_max_7cf53 9 = .ok (.iload_n 1, 1) := by decide +kernel
theorem dJ9_max_7cf53_10 : decode cJ9_max_7cf53 10 = .ok (.ireturn, 1) := by decide +kernel
theorem dJ9_min_7cf53_0 : decode cJ9_min_7cf53 0 = .ok (.iload_n 0, 1) := by decide +kernel
theorem dJ9_min_7cf53_1 : decode cJ9_min_7cf53 1 = .ok (.iload_n 1, 1) := by decide +kernel
theorem dJ9_min_7cf53_2 : decode cJ9_min_7cf53 2 = .ok (.if_icmp .gt 7, 3) := by decide +kernel
theorem dJ9_min_7cf53_5 : decode cJ9_min_7cf53 5 = .ok (.iload_n 0, 1) := by decide +kernel
theorem dJ9_min_7cf53_6 : decode cJ9_min_7cf53 6 = .ok (.goto 4, 3) := by decide +kernel
theorem dJ9_min_7cf53_9 : decode cJ9_min_7cf53 9 = .ok (.iload_n 1, 1) := by decide +kernel
theorem dJ9_min_7cf53_10 : decode cJ9_min_7cf53 10 = .ok (.ireturn, 1) := by decide +kernel
