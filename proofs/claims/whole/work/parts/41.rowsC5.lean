theorem dX10_allowReports_1 : decode cX10_allowReports 1 = .ok (.iload_n 1, 1) := by decide +kernel
theorem dX10_allowReports_2 : decode cX10_allowReports 2 = .ok (.putfield 73, 3) := by decide +kernel
theorem dX10_allowReports_5 : decode cX10_allowReports 5 = .ok (.iload_n 1, 1) := by decide +kernel
theorem dX10_allowReports_6 : decode cX10_allowReports 6 = .ok (.ifCond .ne 17, 3) := by decide +kernel
theorem dX10_allowReports_9 : decode cX10_allowReports 9 = .ok (.aload_n 0, 1) := by decide +kernel
theorem dX10_allowReports_10 : decode cX10_allowReports 10 = .ok (.getfield 39, 3) := by decide +kernel
theorem dX10_allowReports_13 : decode cX10_allowReports 13 = .ok (.sipush 130, 3) := by decide +kernel
theorem dX10_allowReports_16 : decode cX10_allowReports 16 = .ok (.if_icmp .ne 7, 3) := by decide +kernel
theorem dX10_allowReports_19 : decode cX10_allowReports 19 = .ok (.aload_n 0, 1) := by decide +kernel
theorem dX10_allowReports_20 : decode cX10_allowReports 20 = .ok (.invokevirtual 76, 3) := by decide +kernel
theorem dX10_allowReports_23 : decode cX10_allowReports 23 = .ok (.return_, 1) := by decide +kernel
set_option maxRecDepth 100000 in
theorem ggX10_goOn_X10_hasEvents : GoodIn wsX10_goOn wsX10_hasEvents := goodIn_r _ [10, 11, 12, 13, 14, 15, 16, 17, 153, 154, 155, 156, 157, 158, 159, 160, 161, 162, 163, 164, 165, 166, 167, 168, 169, 170, 171, 172, 173, 174] rfl (by decide +kernel)
set_option maxRecDepth 20000 in
theorem gX10_goOn_X10_hasEvents : GoodIn wsX10_goOn (wsV RX10 79 RX10 yX10_hasEvents wsX10_hasEvents) := goodIn_app (goodIn_of _ (by decide +kernel)) ggX10_goOn_X10_hasEvents
set_option maxRecDepth 100000 in
theorem ggX10_goOn_X10_makeReport : GoodIn wsX10_goOn wsX10_makeReport := goodIn_r _ [21, 22, 11, 23, 5, 24, 25, 26, 9, 27, 28, 29, 30, 31, 2, 32, 33, 34, 15, 35, 36, 37, 38, 39, 40, 41, 42, 43, 44, 45, 46, 47, 48, 49, 50, 51, 52, 53, 54, 55, 17, 56, 57, 58, 59, 60, 61, 62, 63, 64, 65, 66, 67, 68, 69, 70, 71, 72, 73, 74, 75, 76, 77, 78, 79, 80, 81, 82, 153, 154, 155, 156, 157, 158, 159, 160, 161, 162, 163, 164, 165, 166, 167, 168, 169, 170, 171, 172, 173, 174, 175, 176] rfl (by decide +kernel)
set_option maxRecDepth 20000 in
theorem gX10_goOn_X10_makeReport : GoodIn wsX10_goOn (wsV RX10 83 RX10 yX10_makeReport wsX10_makeReport) := goodIn_app (goodIn_of _ (by decide +kernel)) ggX10_goOn_X10_makeReport
set_option maxRecDepth 100000 in
theorem ggX10_goOn_X10_sendReport : GoodIn wsX10_goOn wsX10_sendReport := goodIn_r _ [86, 87, 22, 1, 4, 5, 88, 89, 90, 91, 92, 93, 57, 58, 59, 94, 95, 96, 97, 98, 99, 40, 100, 42, 101, 102, 103, 104, 105, 106, 107, 108, 109, 110, 111, 112, 113, 114, 115, 116, 117, 118, 119, 120, 121, 122, 123, 124, 125, 126, 127, 38, 39, 41, 128, 48, 49, 50, 51, 129, 130, 131, 132, 133, 44, 45, 46, 47, 134, 135, 136, 137, 138, 139, 140, 141, 142, 143, 144, 145, 146, 147, 148, 149, 150, 151, 152, 153, 154, 155, 156, 157, 158, 159, 160, 161, 162, 163, 164, 165, 166, 167, 168, 169, 177, 178, 179, 175, 176, 180, 181, 182, 183] rfl (by decide +kernel)
set_option maxRecDepth 20000 in
theorem gX10_goOn_X10_sendReport : GoodIn wsX10_goOn (wsV RX10 86 RX10 yX10_sendReport wsX10_sendReport) := goodIn_app (goodIn_of _ (by decide +kernel)) ggX10_goOn_X10_sendReport
set_option maxRecDepth 100000 in
theorem ggX10_goOn_X10_waitNoMore : GoodIn wsX10_goOn wsX10_waitNoMore := goodIn_r _ [31, 2, 11, 32, 33, 34, 15, 35, 36, 153, 154, 155, 156, 157, 158, 159, 160, 161, 162, 163, 164, 165, 166, 167, 168, 169, 170, 171, 172, 173, 174] rfl (by decide +kernel)
set_option maxRecDepth 20000 in
theorem gX10_goOn_X10_waitNoMore : GoodIn wsX10_goOn (wsV RX10 76 RX10 yX10_waitNoMore wsX10_waitNoMore) := goodIn_app (goodIn_of _ (by decide +kernel)) ggX10_goOn_X10_waitNoMore
theorem dX10_goOn_0 : decode cX10_goOn 0 = .ok (.aload_n 0, 1) := by decide +kernel
theorem dX10_goOn_1 : decode cX10_goOn 1 = .ok (.dup, 1) := by decide +kernel
theorem dX10_goOn_2 : decode cX10_goOn 2 = .ok (.getfield 49, 3) := by decide +kernel
theorem dX10_goOn_5 : decode cX10_goOn 5 = .ok (.iconst 1, 1) := by decide +kernel
theorem dX10_goOn_6 : decode cX10_goOn 6 = .ok (.iadd, 1) := by decide +kernel
theorem dX10_goOn_7 : decode cX10_goOn 7 = .ok (.putfield 49, 3) := by decide +kernel
theorem dX10_goOn_10 : decode cX10_goOn 10 = .ok (.aload_n 0, 1) := by decide +kernel
theorem dX10_goOn_11 : decode cX10_goOn 11 = .ok (.getfield 39, 3) := by decide +kernel
theorem dX10_goOn_14 : decode cX10_goOn 14 = .ok (.sipush 130, 3) := by decide +kernel
theorem dX10_goOn_17 : decode cX10_goOn 17 = .ok (.if_icmp .eq 28, 3) := by decide +kernel
theorem dX10_goOn_20 : decode cX10_goOn 20 = .ok (.aload_n 0, 1) := by decide +kernel
theorem dX10_goOn_21 : decode cX10_goOn 21 = .ok (.getfield 73, 3) := by decide +kernel
theorem dX10_goOn_24 : decode cX10_goOn 24 = .ok (.ifCond .eq 53, 3) := by decide +kernel
theorem dX10_goOn_27 : decode cX10_goOn 27 = .ok (.aload_n 0, 1) := by decide +kernel
theorem dX10_goOn_28 : decode cX10_goOn 28 = .ok (.invokevirtual 79, 3) := by decide +kernel
theorem dX10_goOn_31 : decode cX10_goOn 31 = .ok (.ifCond .eq 46, 3) := by decide +kernel
theorem dX10_goOn_34 : decode cX10_goOn 34 = .ok (.aload_n 0, 1) := by decide +kernel
theorem dX10_goOn_35 : decode cX10_goOn 35 = .ok (.invokevirtual 83, 3) := by decide +kernel
theorem dX10_goOn_38 : decode cX10_goOn 38 = .ok (.aload_n 0, 1) := by decide +kernel
theorem dX10_goOn_39 : decode cX10_goOn 39 = .ok (.invokevirtual 86, 3) := by decide +kernel
theorem dX10_goOn_42 : decode cX10_goOn 42 = .ok (.goto 35, 3) := by decide +kernel
theorem dX10_goOn_45 : decode cX10_goOn 45 = .ok (.aload_n 0, 1) := by decide +kernel
theorem dX10_goOn_46 : decode cX10_goOn 46 = .ok (.getfield 49, 3) := by decide +kernel
theorem dX10_goOn_49 : decode cX10_goOn 49 = .ok (.aload_n 0, 1) := by decide +kernel
theorem dX10_goOn_50 : decode cX10_goOn 50 = .ok (.getfield 89, 3) := by decide +kernel
theorem dX10_goOn_53 : decode cX10_goOn 53 = .ok (.isub, 1) := by decide +kernel
theorem dX10_goOn_54 : decode cX10_goOn 54 = .ok (.iconst 5, 1) := by decide +kernel
theorem dX10_goOn_55 : decode cX10_goOn 55 = .ok (.if_icmp .lt 22, 3) := by decide +kernel
theorem dX10_goOn_58 : decode cX10_goOn 58 = .ok (.aload_n 0, 1) := by decide +kernel
theorem dX10_goOn_59 : decode cX10_goOn 59 = .ok (.getfield 92, 3) := by decide +kernel
theorem dX10_goOn_62 : decode cX10_goOn 62 = .ok (.iconst 4, 1) := by decide +kernel
theorem dX10_goOn_63 : decode cX10_goOn 63 = .ok (.if_icmp .ge 10, 3) := by decide +kernel
theorem dX10_goOn_66 : decode cX10_goOn 66 = .ok (.aload_n 0, 1) := by decide +kernel
theorem dX10_goOn_67 : decode cX10_goOn 67 = .ok (.invokevirtual 86, 3) := by decide +kernel
theorem dX10_goOn_70 : decode cX10_goOn 70 = .ok (.goto 7, 3) := by decide +kernel
theorem dX10_goOn_73 : decode cX10_goOn 73 = .ok (.aload_n 0, 1) := by decide +kernel
theorem dX10_goOn_74 : decode cX10_goOn 74 = .ok (.invokevirtual 76, 3) := by decide +kernel
theorem dX10_goOn_77 : decode cX10_goOn 77 = .ok (.aload_n 0, 1) := by decide +kernel
theorem dX10_goOn_78 : decode cX10_goOn 78 = .ok (.getfield 49, 3) := by decide +kernel
theorem dX10_goOn_81 : decode cX10_goOn 81 = .ok (.ireturn, 1) := by decide +kernel
set_option maxRecDepth 100000 in
theorem ggX10_sendReport_X9_send : GoodIn wsX10_sendReport wsX9_send := goodIn_r _ [10, 11, 12, 13, 14, 15, 16, 17, 18, 19, 20, 21, 22, 23, 24, 25, 26, 27, 28, 29, 30, 31, 32, 33, 34, 35, 36, 37, 38, 39, 40, 41, 42, 43, 44, 45, 46, 47, 48, 49, 50, 51, 52, 53, 54, 55, 56, 57, 58, 59, 60, 61, 62, 63, 64, 65, 66, 67, 68, 69, 70, 71, 72, 73, 74, 75, 76, 77, 78, 79, 80, 81, 82, 83, 84, 85, 86, 104, 105, 106, 107, 108, 109, 110, 111, 112] rfl (by decide +kernel)
set_option maxRecDepth 20000 in
theorem gX10_sendReport_X9_send : GoodIn wsX10_sendReport (wsV RX10 95 RX9 yX9_send wsX9_send) := goodIn_app (goodIn_of _ (by decide +kernel)) ggX10_sendReport_X9_send
theorem dX10_sendReport_0 : decode cX10_sendReport 0 = .ok (.aload_n 0, 1) := by decide +kernel
theorem dX10_sendReport_1 : decode cX10_sendReport 1 = .ok (.getfield 43, 3) := by decide +kernel
theorem dX10_sendReport_4 : decode cX10_sendReport 4 = .ok (.aload_n 0, 1) := by decide +kernel
theorem dX10_sendReport_5 : decode cX10_sendReport 5 = .ok (.getfield 36, 3) := by decide +kernel
theorem dX10_sendReport_8 : decode cX10_sendReport 8 = .ok (.invokevirtual 95, 3) := by decide +kernel
theorem dX10_sendReport_11 : decode cX10_sendReport 11 = .ok (.aload_n 0, 1) := by decide +kernel
theorem dX10_sendReport_12 : decode cX10_sendReport 12 = .ok (.aload_n 0, 1) := by decide +kernel
theorem dX10_sendReport_13 : decode cX10_sendReport 13 = .ok (.getfield 49, 3) := by decide +kernel
theorem dX10_sendReport_16 : decode cX10_sendReport 16 = .ok (.putfield 89, 3) := by decide +kernel
theorem dX10_sendReport_19 : decode cX10_sendReport 19 = .ok (.aload_n 0, 1) := by decide +kernel
theorem dX10_sendReport_20 : decode cX10_sendReport 20 = .ok (.dup, 1) := by decide +kernel
theorem dX10_sendReport_21 : decode cX10_sendReport 21 = .ok (.getfield 92, 3) := by decide +kernel
theorem dX10_sendReport_24 : decode cX10_sendReport 24 = .ok (.iconst 1, 1) := by decide +kernel
theorem dX10_sendReport_25 : decode cX10_sendReport 25 = .ok (.iadd, 1) := by decide +kernel
theorem dX10_sendReport_26 : decode cX10_sendReport 26 = .ok (.putfield 92, 3) := by decide +kernel
theorem dX10_sendReport_29 : decode cX10_sendReport 29 = .ok (.return_, 1) := by decide +kernel
set_option maxRecDepth 100000 in
theorem ggX10_makeReport_X10_begin : GoodIn wsX10_makeReport wsX10_begin := goodIn_r _ [9, 10, 11, 12, 8, 13, 14, 2, 15, 16, 17, 18, 19, 20, 21, 22, 23, 24, 25, 26, 27, 28, 29, 30, 31, 32, 33, 34, 35, 68, 69, 70, 71, 72, 73, 74, 75, 76, 77, 78, 79, 80, 81, 82, 83, 84, 85, 86, 87, 88, 89, 90, 91] rfl (by decide +kernel)
set_option maxRecDepth 20000 in
theorem gX10_makeReport_X10_begin : GoodIn wsX10_makeReport (wsV RX10 101 RX10 yX10_begin wsX10_begin) := goodIn_app (goodIn_of _ (by decide +kernel)) ggX10_makeReport_X10_begin
set_option maxRecDepth 100000 in
theorem ggX10_makeReport_X2_putGroup : GoodIn wsX10_makeReport wsX2_putGroup := goodIn_r _ [39, 40, 41, 42, 43, 44, 45, 46, 47, 20, 48, 32, 33, 24, 34, 26, 35, 49, 28, 29, 30, 31, 85, 86, 87, 88, 89, 90, 91] rfl (by decide +kernel)
set_option maxRecDepth 20000 in
theorem gX10_makeReport_X2_putGroup : GoodIn wsX10_makeReport (wsV RX10 104 RX2 yX2_putGroup wsX2_putGroup) := goodIn_app (goodIn_of _ (by decide +kernel)) ggX10_makeReport_X2_putGroup
set_option maxRecDepth 100000 in
theorem ggX10_makeReport_X10_finish : GoodIn wsX10_makeReport wsX10_finish := goodIn_r _ [53, 54, 14, 55, 56, 57, 58, 24, 59, 26, 35, 60, 61, 62, 8, 63, 2, 64, 65, 66, 18, 67, 40, 20, 68, 69, 70, 71, 72, 73, 74, 75, 76, 77, 78, 79, 80, 81, 82, 83, 84, 90, 91, 85, 86, 87, 88, 89] rfl (by decide +kernel)
set_option maxRecDepth 20000 in
theorem gX10_makeReport_X10_finish : GoodIn wsX10_makeReport (wsV RX10 111 RX10 yX10_finish wsX10_finish) := goodIn_app (goodIn_of _ (by decide +kernel)) ggX10_makeReport_X10_finish
theorem dX10_makeReport_0 : decode cX10_makeReport 0 = .ok (.aload_n 0, 1) := by decide +kernel
theorem dX10_makeReport_1 : decode cX10_makeReport 1 = .ok (.aload_n 0, 1) := by decide +kernel
theorem dX10_makeReport_2 : decode cX10_makeReport 2 = .ok (.getfield 36, 3) := by decide +kernel
theorem dX10_makeReport_5 : decode cX10_makeReport 5 = .ok (.invokevirtual 101, 3) := by decide +kernel
theorem dX10_makeReport_8 : decode cX10_makeReport 8 = .ok (.iconst 0, 1) := by decide +kernel
theorem dX10_makeReport_9 : decode cX10_makeReport 9 = .ok (.istore_n 1, 1) := by decide +kernel
theorem dX10_makeReport_10 : decode cX10_makeReport 10 = .ok (.iconst 1, 1) := by decide +kernel
theorem dX10_makeReport_11 : decode cX10_makeReport 11 = .ok (.istore_n 2, 1) := by decide +kernel
theorem dX10_makeReport_12 : decode cX10_makeReport 12 = .ok (.iload_n 2, 1) := by decide +kernel
theorem dX10_makeReport_13 : decode cX10_makeReport 13 = .ok (.iconst 3, 1) := by decide +kernel
theorem dX10_makeReport_14 : decode cX10_makeReport 14 = .ok (.if_icmp .gt 32, 3) := by decide +kernel
theorem dX10_makeReport_17 : decode cX10_makeReport 17 = .ok (.iload_n 1, 1) := by decide +kernel
theorem dX10_makeReport_18 : decode cX10_makeReport 18 = .ok (.aload_n 0, 1) := by decide +kernel
theorem dX10_makeReport_19 : decode cX10_makeReport 19 = .ok (.getfield 23, 3) := by decide +kernel
theorem dX10_makeReport_22 : decode cX10_makeReport 22 = .ok (.iload_n 2, 1) := by decide +kernel
theorem dX10_makeReport_23 : decode cX10_makeReport 23 = .ok (.iconst 1, 1) := by decide +kernel
theorem dX10_makeReport_24 : decode cX10_makeReport 24 = .ok (.isub, 1) := by decide +kernel
theorem dX10_makeReport_25 : decode cX10_makeReport 25 = .ok (.aaload, 1) := by decide +kernel
theorem dX10_makeReport_26 : decode cX10_makeReport 26 = .ok (.aload_n 0, 1) := by decide +kernel
theorem dX10_makeReport_27 : decode cX10_makeReport 27 = .ok (.getfield 36, 3) := by decide +kernel
theorem dX10_makeReport_30 : decode cX10_makeReport 30 = .ok (.iload_n 2, 1) := by decide +kernel
theorem dX10_makeReport_31 : decode cX10_makeReport 31 = .ok (.bipush 16, 2) := by decide +kernel
theorem dX10_makeReport_33 : decode cX10_makeReport 33 = .ok (.iload_n 1, 1) := by decide +kernel
theorem dX10_makeReport_34 : decode cX10_makeReport 34 = .ok (.isub, 1) := by decide +kernel
theorem dX10_makeReport_35 : decode cX10_makeReport 35 = .ok (.invokevirtual 104, 3) := by decide +kernel
theorem dX10_makeReport_38 : decode cX10_makeReport 38 = .ok (.iadd, 1) := by decide +kernel
theorem dX10_makeReport_39 : decode cX10_makeReport 39 = .ok (.istore_n 1, 1) := by decide +kernel
theorem dX10_makeReport_40 : decode cX10_makeReport 40 = .ok (.iinc 2 1, 3) := by decide +kernel
theorem dX10_makeReport_43 : decode cX10_makeReport 43 = .ok (.goto (-31), 3) := by decide +kernel
theorem dX10_makeReport_46 : decode cX10_makeReport 46 = .ok (.aload_n 0, 1) := by decide +kernel
theorem dX10_makeReport_47 : decode cX10_makeReport 47 = .ok (.aload_n 0, 1) := by decide +kernel
theorem dX10_makeReport_48 : decode cX10_makeReport 48 = .ok (.getfield 36, 3) := by decide +kernel
theorem dX10_makeReport_51 : decode cX10_makeReport 51 = .ok (.sipush 130, 3) := by decide +kernel
theorem dX10_makeReport_54 : decode cX10_makeReport 54 = .ok (.aload_n 0, 1) := by decide +kernel
theorem dX10_makeReport_55 : decode cX10_makeReport 55 = .ok (.getfield 108, 3) := by decide +kernel
theorem dX10_makeReport_58 : decode cX10_makeReport 58 = .ok (.bipush 15, 2) := by decide +kernel
theorem dX10_makeReport_60 : decode cX10_makeReport 60 = .ok (.iand, 1) := by decide +kernel
theorem dX10_makeReport_61 : decode cX10_makeReport 61 = .ok (.iload_n 1, 1) := by decide +kernel
theorem dX10_makeReport_62 : decode cX10_makeReport 62 = .ok (.invokevirtual 111, 3) := by decide +kernel
theorem dX10_makeReport_65 : decode cX10_makeReport 65 = .ok (.aload_n 0, 1) := by decide +kernel
theorem dX10_makeReport_66 : decode cX10_makeReport 66 = .ok (.dup, 1) := by decide +kernel
theorem dX10_makeReport_67 : decode cX10_makeReport 67 = .ok (.getfield 108, 3) := by decide +kernel
theorem dX10_makeReport_70 : decode cX10_makeReport 70 = .ok (.iconst 1, 1) := by decide +kernel
theorem dX10_makeReport_71 : decode cX10_makeReport 71 = .ok (.iadd, 1) := by decide +kernel
theorem dX10_makeReport_72 : decode cX10_makeReport 72 = .ok (.putfield 108, 3) := by decide +kernel
theorem dX10_makeReport_75 : decode cX10_makeReport 75 = .ok (.aload_n 0, 1) := by decide +kernel
theorem dX10_makeReport_76 : decode cX10_makeReport 76 = .ok (.iconst 0, 1) := by decide +kernel
theorem dX10_makeReport_77 : decode cX10_makeReport 77 = .ok (.putfield 92, 3) := by decide +kernel
theorem dX10_makeReport_80 : decode cX10_makeReport 80 = .ok (.return_, 1) := by decide +kernel
set_option maxRecDepth 100000 in
theorem ggX10_hear_X10_isConfirm : GoodIn wsX10_hear wsX10_isConfirm := goodIn_r _ [7, 8, 9, 10, 11, 12, 13, 14, 15, 16, 17, 18, 193, 194] rfl (by decide +kernel)
set_option maxRecDepth 20000 in
theorem gX10_hear_X10_isConfirm : GoodIn wsX10_hear (va_wsS RX10 115 yX10_isConfirm wsX10_isConfirm) := goodIn_app (goodIn_of _ (by decide +kernel)) ggX10_hear_X10_isConfirm
set_option maxRecDepth 100000 in
theorem ggX10_hear_X1_get : GoodIn wsX10_hear wsX1_get := goodIn_r _ [17, 13, 18, 193, 194] rfl (by decide +kernel)
set_option maxRecDepth 20000 in
theorem gX10_hear_X1_get : GoodIn wsX10_hear (wsV RX10 119 RX1 yX1_get wsX1_get) := goodIn_app (goodIn_of _ (by decide +kernel)) ggX10_hear_X1_get
set_option maxRecDepth 100000 in
theorem ggX10_hear_X10_takeConfirm : GoodIn wsX10_hear wsX10_takeConfirm := goodIn_r _ [22, 23, 24, 25, 26, 27, 28, 29, 30, 31, 32, 33, 34, 35, 36, 37, 38, 39, 40, 41, 42, 43, 44, 45, 46, 6, 47, 48, 49, 50, 51, 176, 177, 178, 179, 180, 181, 182, 183, 184, 185, 186, 187, 188, 189, 190, 191, 192, 195, 196, 197, 198, 199] rfl (by decide +kernel)
set_option maxRecDepth 20000 in
theorem gX10_hear_X10_takeConfirm : GoodIn wsX10_hear (wsV RX10 122 RX10 yX10_takeConfirm wsX10_takeConfirm) := goodIn_app (goodIn_of _ (by decide +kernel)) ggX10_hear_X10_takeConfirm
set_option maxRecDepth 100000 in
theorem ggX10_hear_X10_isRead : GoodIn wsX10_hear wsX10_isRead := goodIn_r _ [54, 8, 9, 10, 11, 12, 13, 14, 15, 16, 17, 18, 55, 56, 57, 58, 59, 60, 193, 194] rfl (by decide +kernel)
set_option maxRecDepth 20000 in
theorem gX10_hear_X10_isRead : GoodIn wsX10_hear (va_wsS RX10 125 yX10_isRead wsX10_isRead) := goodIn_app (goodIn_of _ (by decide +kernel)) ggX10_hear_X10_isRead
set_option maxRecDepth 100000 in
theorem ggX10_hear_X10_makeResponse : GoodIn wsX10_hear wsX10_makeResponse := goodIn_r _ [64, 2, 25, 65, 66, 67, 68, 6, 69, 44, 45, 46, 47, 23, 48, 49, 50, 29, 51, 31, 70, 71, 72, 11, 73, 13, 74, 75, 76, 77, 78, 79, 80, 81, 18, 8, 9, 10, 12, 14, 15, 16, 17, 82, 83, 84, 85, 86, 87, 88, 89, 36, 90, 91, 42, 92, 37, 38, 39, 93, 94, 95, 96, 97, 98, 99, 100, 101, 102, 103, 104, 24, 105, 106, 107, 108, 109, 110, 111, 112, 113, 114, 115, 116, 176, 177, 178, 179, 180, 181, 182, 183, 184, 185, 186, 187, 188, 189, 190, 191, 192, 195, 196, 197, 198, 199, 193, 194] rfl (by decide +kernel)
set_option maxRecDepth 20000 in
theorem gX10_hear_X10_makeResponse : GoodIn wsX10_hear (wsV RX10 128 RX10 yX10_makeResponse wsX10_makeResponse) := goodIn_app (goodIn_of _ (by decide +kernel)) ggX10_hear_X10_makeResponse
set_option maxRecDepth 100000 in
theorem ggX10_hear_X9_send : GoodIn wsX10_hear wsX9_send := goodIn_r _ [121, 122, 91, 42, 92, 123, 124, 125, 126, 9, 10, 11, 12, 13, 127, 128, 129, 130, 131, 132, 133, 134, 135, 136, 137, 138, 139, 140, 141, 142, 143, 144, 145, 146, 147, 148, 149, 150, 151, 152, 153, 71, 72, 73, 154, 79, 80, 81, 18, 155, 156, 157, 158, 159, 75, 76, 77, 78, 160, 161, 162, 163, 164, 165, 166, 167, 168, 169, 170, 15, 16, 17, 171, 172, 173, 174, 175, 200, 201, 202, 193, 194, 203, 204, 205, 206] rfl (by decide +kernel)
set_option maxRecDepth 20000 in
theorem gX10_hear_X9_send : GoodIn wsX10_hear (wsV RX10 95 RX9 yX9_send wsX9_send) := goodIn_app (goodIn_of _ (by decide +kernel)) ggX10_hear_X9_send
theorem dX10_hear_0 : decode cX10_hear 0 = .ok (.aload_n 1, 1) := by decide +kernel
theorem dX10_hear_1 : decode cX10_hear 1 = .ok (.invokestatic 115, 3) := by decide +kernel
theorem dX10_hear_4 : decode cX10_hear 4 = .ok (.ifCond .eq 14, 3) := by decide +kernel
theorem dX10_hear_7 : decode cX10_hear 7 = .ok (.aload_n 0, 1) := by decide +kernel
theorem dX10_hear_8 : decode cX10_hear 8 = .ok (.aload_n 1, 1) := by decide +kernel
theorem dX10_hear_9 : decode cX10_hear 9 = .ok (.iconst 0, 1) := by decide +kernel
theorem dX10_hear_10 : decode cX10_hear 10 = .ok (.invokevirtual 119, 3) := by decide +kernel
theorem dX10_hear_13 : decode cX10_hear 13 = .ok (.invokevirtual 122, 3) := by decide +kernel
theorem dX10_hear_16 : decode cX10_hear 16 = .ok (.iconst 1, 1) := by decide +kernel
theorem dX10_hear_17 : decode cX10_hear 17 = .ok (.ireturn, 1) := by decide +kernel
theorem dX10_hear_18 : decode cX10_hear 18 = .ok (.aload_n 1, 1) := by decide +kernel
theorem dX10_hear_19 : decode cX10_hear 19 = .ok (.invokestatic 125, 3) := by decide +kernel
theorem dX10_hear_22 : decode cX10_hear 22 = .ok (.ifCond .eq 21, 3) := by decide +kernel
theorem dX10_hear_25 : decode cX10_hear 25 = .ok (.aload_n 0, 1) := by decide +kernel
theorem dX10_hear_26 : decode cX10_hear 26 = .ok (.aload_n 1, 1) := by decide +kernel
theorem dX10_hear_27 : decode cX10_hear 27 = .ok (.invokevirtual 128, 3) := by decide +kernel
theorem dX10_hear_30 : decode cX10_hear 30 = .ok (.aload_n 0, 1) := by decide +kernel
theorem dX10_hear_31 : decode cX10_hear 31 = .ok (.getfield 43, 3) := by decide +kernel
theorem dX10_hear_34 : decode cX10_hear 34 = .ok (.aload_n 0, 1) := by decide +kernel
theorem dX10_hear_35 : decode cX10_hear 35 = .ok (.getfield 32, 3) := by decide +kernel
theorem dX10_hear_38 : decode cX10_hear 38 = .ok (.invokevirtual 95, 3) := by decide +kernel
theorem dX10_hear_41 : decode cX10_hear 41 = .ok (.iconst 1, 1) := by decide +kernel
theorem dX10_hear_42 : decode cX10_hear 42 = .ok (.ireturn, 1) := by decide +kernel
theorem dX10_hear_43 : decode cX10_hear 43 = .ok (.aload_n 0, 1) := by decide +kernel
theorem dX10_hear_44 : decode cX10_hear 44 = .ok (.dup, 1) := by decide +kernel
theorem dX10_hear_45 : decode cX10_hear 45 = .ok (.getfield 131, 3) := by decide +kernel
theorem dX10_hear_48 : decode cX10_hear 48 = .ok (.iconst 1, 1) := by decide +kernel
theorem dX10_hear_49 : decode cX10_hear 49 = .ok (.iadd, 1) := by decide +kernel
theorem dX10_hear_50 : decode cX10_hear 50 = .ok (.putfield 131, 3) := by decide +kernel
theorem dX10_hear_53 : decode cX10_hear 53 = .ok (.iconst 0, 1) := by decide +kernel
theorem dX10_hear_54 : decode cX10_hear 54 = .ok (.ireturn, 1) := by decide +kernel
set_option maxRecDepth 100000 in
theorem ggX10_isConfirm_X1_size : GoodIn wsX10_isConfirm wsX1_size := goodIn_r _ [5, 6, 12, 13] rfl (by decide +kernel)
set_option maxRecDepth 20000 in
theorem gX10_isConfirm_X1_size : GoodIn wsX10_isConfirm (wsV RX10 134 RX1 yX1_size wsX1_size) := goodIn_app (goodIn_of _ (by decide +kernel)) ggX10_isConfirm_X1_size
set_option maxRecDepth 100000 in
theorem ggX10_isConfirm_X1_get : GoodIn wsX10_isConfirm wsX1_get := goodIn_r _ [10, 6, 11, 12, 13] rfl (by decide +kernel)
set_option maxRecDepth 20000 in
theorem gX10_isConfirm_X1_get : GoodIn wsX10_isConfirm (wsV RX10 119 RX1 yX1_get wsX1_get) := goodIn_app (goodIn_of _ (by decide +kernel)) ggX10_isConfirm_X1_get
theorem dX10_isConfirm_0 : decode cX10_isConfirm 0 = .ok (.aload_n 0, 1) := by decide +kernel
theorem dX10_isConfirm_1 : decode cX10_isConfirm 1 = .ok (.invokevirtual 134, 3) := by decide +kernel
theorem dX10_isConfirm_4 : decode cX10_isConfirm 4 = .ok (.iconst 2, 1) := by decide +kernel
theorem dX10_isConfirm_5 : decode cX10_isConfirm 5 = .ok (.if_icmp .ne 30, 3) := by decide +kernel
theorem dX10_isConfirm_8 : decode cX10_isConfirm 8 = .ok (.aload_n 0, 1) := by decide +kernel
theorem dX10_isConfirm_9 : decode cX10_isConfirm 9 = .ok (.iconst 0, 1) := by decide +kernel
theorem dX10_isConfirm_10 : decode cX10_isConfirm 10 = .ok (.invokevirtual 119, 3) := by decide +kernel
theorem dX10_isConfirm_13 : decode cX10_isConfirm 13 = .ok (.sipush 224, 3) := by decide +kernel
theorem dX10_isConfirm_16 : decode cX10_isConfirm 16 = .ok (.iand, 1) := by decide +kernel
theorem dX10_isConfirm_17 : decode cX10_isConfirm 17 = .ok (.sipush 192, 3) := by decide +kernel
theorem dX10_isConfirm_20 : decode cX10_isConfirm 20 = .ok (.if_icmp .ne 15, 3) := by decide +kernel
theorem dX10_isConfirm_23 : decode cX10_isConfirm 23 = .ok (.aload_n 0, 1) := by decide +kernel
theorem dX10_isConfirm_24 : decode cX10_isConfirm 24 = .ok (.iconst 1, 1) := by decide +kernel
theorem dX10_isConfirm_25 : decode cX10_isConfirm 25 = .ok (.invokevirtual 119, 3) := by decide +kernel
theorem dX10_isConfirm_28 : decode cX10_isConfirm 28 = .ok (.ifCond .ne 7, 3) := by decide +kernel
theorem dX10_isConfirm_31 : decode cX10_isConfirm 31 = .ok (.iconst 1, 1) := by decide +kernel
theorem dX10_isConfirm_32 : decode cX10_isConfirm 32 = .ok (.goto 4, 3) := by decide +kernel
theorem dX10_isConfirm_35 : decode cX10_isConfirm 35 = .ok (.iconst 0, 1) := by decide +kernel
theorem dX10_isConfirm_36 : decode cX10_isConfirm 36 = .ok (.ireturn, 1) := by decide +kernel
set_option maxRecDepth 100000 in
theorem ggX10_isRead_X1_size : GoodIn wsX10_isRead wsX1_size := goodIn_r _ [5, 6, 18, 19] rfl (by decide +kernel)
set_option maxRecDepth 20000 in
theorem gX10_isRead_X1_size : GoodIn wsX10_isRead (wsV RX10 134 RX1 yX1_size wsX1_size) := goodIn_app (goodIn_of _ (by decide +kernel)) ggX10_isRead_X1_size
set_option maxRecDepth 100000 in
theorem ggX10_isRead_X1_get : GoodIn wsX10_isRead wsX1_get := goodIn_r _ [10, 6, 11, 18, 19] rfl (by decide +kernel)
set_option maxRecDepth 20000 in
theorem gX10_isRead_X1_get : GoodIn wsX10_isRead (wsV RX10 119 RX1 yX1_get wsX1_get) := goodIn_app (goodIn_of _ (by decide +kernel)) ggX10_isRead_X1_get
set_option maxRecDepth 100000 in
theorem ggX10_isRead_X0_isSound : GoodIn wsX10_isRead wsX0_isSound := goodIn_r _ [15, 16, 2, 3, 4, 5, 6, 17, 8, 9, 10, 11, 18, 19] rfl (by decide +kernel)
set_option maxRecDepth 20000 in
theorem gX10_isRead_X0_isSound : GoodIn wsX10_isRead (va_wsS RX10 138 yX0_isSound wsX0_isSound) := goodIn_app (goodIn_of _ (by decide +kernel)) ggX10_isRead_X0_isSound
theorem dX10_isRead_0 : decode cX10_isRead 0 = .ok (.aload_n 0, 1) := by decide +kernel
theorem dX10_isRead_1 : decode cX10_isRead 1 = .ok (.invokevirtual 134, 3) := by decide +kernel
theorem dX10_isRead_4 : decode cX10_isRead 4 = .ok (.iconst 2, 1) := by decide +kernel
theorem dX10_isRead_5 : decode cX10_isRead 5 = .ok (.if_icmp .le 38, 3) := by decide +kernel
theorem dX10_isRead_8 : decode cX10_isRead 8 = .ok (.aload_n 0, 1) := by decide +kernel
theorem dX10_isRead_9 : decode cX10_isRead 9 = .ok (.iconst 0, 1) := by decide +kernel
theorem dX10_isRead_10 : decode cX10_isRead 10 = .ok (.invokevirtual 119, 3) := by decide +kernel
theorem dX10_isRead_13 : decode cX10_isRead 13 = .ok (.sipush 240, 3) := by decide +kernel
theorem dX10_isRead_16 : decode cX10_isRead 16 = .ok (.iand, 1) := by decide +kernel
theorem dX10_isRead_17 : decode cX10_isRead 17 = .ok (.sipush 192, 3) := by decide +kernel
theorem dX10_isRead_20 : decode cX10_isRead 20 = .ok (.if_icmp .ne 23, 3) := by decide +kernel
theorem dX10_isRead_23 : decode cX10_isRead 23 = .ok (.aload_n 0, 1) := by decide +kernel
theorem dX10_isRead_24 : decode cX10_isRead 24 = .ok (.iconst 1, 1) := by decide +kernel
theorem dX10_isRead_25 : decode cX10_isRead 25 = .ok (.invokevirtual 119, 3) := by decide +kernel
theorem dX10_isRead_28 : decode cX10_isRead 28 = .ok (.iconst 1, 1) := by decide +kernel
theorem dX10_isRead_29 : decode cX10_isRead 29 = .ok (.if_icmp .ne 14, 3) := by decide +kernel
theorem dX10_isRead_32 : decode cX10_isRead 32 = .ok (.aload_n 0, 1) := by decide +kernel
theorem dX10_isRead_33 : decode cX10_isRead 33 = .ok (.invokestatic 138, 3) := by decide +kernel
theorem dX10_isRead_36 : decode cX10_isRead 36 = .ok (.ifCond .eq 7, 3) := by decide +kernel
theorem dX10_isRead_39 : decode cX10_isRead 39 = .ok (.iconst 1, 1) := by decide +kernel
theorem dX10_isRead_40 : decode cX10_isRead 40 = .ok (.goto 4, 3) := by decide +kernel
theorem dX10_isRead_43 : decode cX10_isRead 43 = .ok (.iconst 0, 1) := by decide +kernel
theorem dX10_isRead_44 : decode cX10_isRead 44 = .ok (.ireturn, 1) := by decide +kernel
set_option maxRecDepth 100000 in
theorem ggX10_takeConfirm_X2_dropWaiting : GoodIn wsX10_takeConfirm wsX2_dropWaiting := goodIn_r _ [8, 9, 10, 11, 12, 7, 13, 14, 15, 16, 17, 18, 19, 20, 21, 48, 49, 50, 51, 52] rfl (by decide +kernel)
set_option maxRecDepth 20000 in
theorem gX10_takeConfirm_X2_dropWaiting : GoodIn wsX10_takeConfirm (wsV RX10 146 RX2 yX2_dropWaiting wsX2_dropWaiting) := goodIn_app (goodIn_of _ (by decide +kernel)) ggX10_takeConfirm_X2_dropWaiting
set_option maxRecDepth 100000 in
theorem ggX10_takeConfirm_X10_waitNoMore : GoodIn wsX10_takeConfirm wsX10_waitNoMore := goodIn_r _ [26, 1, 3, 27, 28, 29, 7, 30, 9, 31, 32, 33, 34, 35, 36, 37, 38, 39, 40, 41, 42, 43, 44, 45, 46, 47, 48, 49, 50, 51, 52] rfl (by decide +kernel)
set_option maxRecDepth 20000 in
theorem gX10_takeConfirm_X10_waitNoMore : GoodIn wsX10_takeConfirm (wsV RX10 76 RX10 yX10_waitNoMore wsX10_waitNoMore) := goodIn_app (goodIn_of _ (by decide +kernel)) ggX10_takeConfirm_X10_waitNoMore
theorem dX10_takeConfirm_0 : decode cX10_takeConfirm 0 = .ok (.iload_n 1, 1) := by decide +kernel
theorem dX10_takeConfirm_1 : decode cX10_takeConfirm 1 = .ok (.bipush 16, 2) := by decide +kernel
theorem dX10_takeConfirm_3 : decode cX10_takeConfirm 3 = .ok (.iand, 1) := by decide +kernel
theorem dX10_takeConfirm_4 : decode cX10_takeConfirm 4 = .ok (.ifCond .eq 9, 3) := by decide +kernel
theorem dX10_takeConfirm_7 : decode cX10_takeConfirm 7 = .ok (.sipush 130, 3) := by decide +kernel
theorem dX10_takeConfirm_10 : decode cX10_takeConfirm 10 = .ok (.goto 6, 3) := by decide +kernel
theorem dX10_takeConfirm_13 : decode cX10_takeConfirm 13 = .ok (.sipush 129, 3) := by decide +kernel
theorem dX10_takeConfirm_16 : decode cX10_takeConfirm 16 = .ok (.istore_n 2, 1) := by decide +kernel
theorem dX10_takeConfirm_17 : decode cX10_takeConfirm 17 = .ok (.aload_n 0, 1) := by decide +kernel
theorem dX10_takeConfirm_18 : decode cX10_takeConfirm 18 = .ok (.getfield 39, 3) := by decide +kernel
theorem dX10_takeConfirm_21 : decode cX10_takeConfirm 21 = .ok (.iload_n 2, 1) := by decide +kernel
theorem dX10_takeConfirm_22 : decode cX10_takeConfirm 22 = .ok (.if_icmp .ne 14, 3) := by decide +kernel
theorem dX10_takeConfirm_25 : decode cX10_takeConfirm 25 = .ok (.aload_n 0, 1) := by decide +kernel
theorem dX10_takeConfirm_26 : decode cX10_takeConfirm 26 = .ok (.getfield 143, 3) := by decide +kernel
theorem dX10_takeConfirm_29 : decode cX10_takeConfirm 29 = .ok (.iload_n 1, 1) := by decide +kernel
theorem dX10_takeConfirm_30 : decode cX10_takeConfirm 30 = .ok (.bipush 15, 2) := by decide +kernel
theorem dX10_takeConfirm_32 : decode cX10_takeConfirm 32 = .ok (.iand, 1) := by decide +kernel
theorem dX10_takeConfirm_33 : decode cX10_takeConfirm 33 = .ok (.if_icmp .eq 4, 3) := by decide +kernel
theorem dX10_takeConfirm_36 : decode cX10_takeConfirm 36 = .ok (.return_, 1) := by decide +kernel
theorem dX10_takeConfirm_37 : decode cX10_takeConfirm 37 = .ok (.iconst 0, 1) := by decide +kernel
theorem dX10_takeConfirm_38 : decode cX10_takeConfirm 38 = .ok (.istore_n 3, 1) := by decide +kernel
theorem dX10_takeConfirm_39 : decode cX10_takeConfirm 39 = .ok (.iload_n 3, 1) := by decide +kernel
theorem dX10_takeConfirm_40 : decode cX10_takeConfirm 40 = .ok (.iconst 3, 1) := by decide +kernel
theorem dX10_takeConfirm_41 : decode cX10_takeConfirm 41 = .ok (.if_icmp .ge 18, 3) := by decide +kernel
theorem dX10_takeConfirm_44 : decode cX10_takeConfirm 44 = .ok (.aload_n 0, 1) := by decide +kernel
theorem dX10_takeConfirm_45 : decode cX10_takeConfirm 45 = .ok (.getfield 23, 3) := by decide +kernel
theorem dX10_takeConfirm_48 : decode cX10_takeConfirm 48 = .ok (.iload_n 3, 1) := by decide +kernel
theorem dX10_takeConfirm_49 : decode cX10_takeConfirm 49 = .ok (.aaload, 1) := by decide +kernel
theorem dX10_takeConfirm_50 : decode cX10_takeConfirm 50 = .ok (.invokevirtual 146, 3) := by decide +kernel
theorem dX10_takeConfirm_53 : decode cX10_takeConfirm 53 = .ok (.iinc 3 1, 3) := by decide +kernel
theorem dX10_takeConfirm_56 : decode cX10_takeConfirm 56 = .ok (.goto (-17), 3) := by decide +kernel
theorem dX10_takeConfirm_59 : decode cX10_takeConfirm 59 = .ok (.aload_n 0, 1) := by decide +kernel
theorem dX10_takeConfirm_60 : decode cX10_takeConfirm 60 = .ok (.invokevirtual 76, 3) := by decide +kernel
theorem dX10_takeConfirm_63 : decode cX10_takeConfirm 63 = .ok (.return_, 1) := by decide +kernel
set_option maxRecDepth 100000 in
theorem ggX10_makeResponse_X10_begin : GoodIn wsX10_makeResponse wsX10_begin := goodIn_r _ [8, 9, 10, 11, 7, 12, 13, 2, 14, 15, 16, 17, 18, 19, 20, 21, 22, 23, 24, 25, 26, 27, 28, 29, 30, 31, 32, 33, 34, 84, 85, 86, 87, 88, 89, 90, 91, 92, 93, 94, 95, 96, 97, 98, 99, 100, 101, 102, 103, 104, 105, 106, 107] rfl (by decide +kernel)
set_option maxRecDepth 20000 in
theorem gX10_makeResponse_X10_begin : GoodIn wsX10_makeResponse (wsV RX10 101 RX10 yX10_begin wsX10_begin) := goodIn_app (goodIn_of _ (by decide +kernel)) ggX10_makeResponse_X10_begin
set_option maxRecDepth 100000 in
theorem ggX10_makeResponse_X1_size : GoodIn wsX10_makeResponse wsX1_size := goodIn_r _ [38, 25, 106, 107] rfl (by decide +kernel)
set_option maxRecDepth 20000 in
theorem gX10_makeResponse_X1_size : GoodIn wsX10_makeResponse (wsV RX10 134 RX1 yX1_size wsX1_size) := goodIn_app (goodIn_of _ (by decide +kernel)) ggX10_makeResponse_X1_size
set_option maxRecDepth 100000 in
theorem ggX10_makeResponse_X1_get : GoodIn wsX10_makeResponse wsX1_get := goodIn_r _ [42, 25, 34, 106, 107] rfl (by decide +kernel)
set_option maxRecDepth 20000 in
theorem gX10_makeResponse_X1_get : GoodIn wsX10_makeResponse (wsV RX10 119 RX1 yX1_get wsX1_get) := goodIn_app (goodIn_of _ (by decide +kernel)) ggX10_makeResponse_X1_get
set_option maxRecDepth 100000 in
theorem ggX10_makeResponse_X4_isClass : GoodIn wsX10_makeResponse wsX4_isClass := goodIn_r _ [46] rfl (by decide +kernel)
set_option maxRecDepth 20000 in
theorem gX10_makeResponse_X4_isClass : GoodIn wsX10_makeResponse (va_wsS RX10 63 yX4_isClass wsX4_isClass) := goodIn_app (goodIn_of _ (by decide +kernel)) ggX10_makeResponse_X4_isClass
set_option maxRecDepth 100000 in
theorem ggX10_makeResponse_X2_putGroup : GoodIn wsX10_makeResponse wsX2_putGroup := goodIn_r _ [50, 51, 52, 53, 54, 55, 56, 57, 58, 19, 59, 31, 32, 23, 33, 25, 34, 60, 27, 28, 29, 30, 101, 102, 103, 104, 105, 106, 107] rfl (by decide +kernel)
set_option maxRecDepth 20000 in
theorem gX10_makeResponse_X2_putGroup : GoodIn wsX10_makeResponse (wsV RX10 104 RX2 yX2_putGroup wsX2_putGroup) := goodIn_app (goodIn_of _ (by decide +kernel)) ggX10_makeResponse_X2_putGroup
set_option maxRecDepth 100000 in
theorem ggX10_makeResponse_X10_putStates : GoodIn wsX10_makeResponse wsX10_putStates := goodIn_r _ [64, 1, 65, 66, 31, 32, 23, 33, 25, 34, 26, 27, 28, 29, 30, 84, 85, 86, 87, 88, 89, 90, 91, 92, 93, 94, 95, 96, 97, 98, 99, 100, 106, 107] rfl (by decide +kernel)
set_option maxRecDepth 20000 in
theorem gX10_makeResponse_X10_putStates : GoodIn wsX10_makeResponse (wsV RX10 149 RX10 yX10_putStates wsX10_putStates) := goodIn_app (goodIn_of _ (by decide +kernel)) ggX10_makeResponse_X10_putStates
set_option maxRecDepth 100000 in
theorem ggX10_makeResponse_X10_finish : GoodIn wsX10_makeResponse wsX10_finish := goodIn_r _ [70, 3, 13, 71, 72, 73, 74, 23, 75, 25, 34, 76, 77, 78, 7, 79, 2, 80, 81, 82, 17, 83, 51, 19, 84, 85, 86, 87, 88, 89, 90, 91, 92, 93, 94, 95, 96, 97, 98, 99, 100, 106, 107, 101, 102, 103, 104, 105] rfl (by decide +kernel)
set_option maxRecDepth 20000 in
theorem gX10_makeResponse_X10_finish : GoodIn wsX10_makeResponse (wsV RX10 111 RX10 yX10_finish wsX10_finish) := goodIn_app (goodIn_of _ (by decide +kernel)) ggX10_makeResponse_X10_finish
theorem dX10_makeResponse_0 : decode cX10_makeResponse 0 = .ok (.aload_n 0, 1) := by decide +kernel
theorem dX10_makeResponse_1 : decode cX10_makeResponse 1 = .ok (.aload_n 0, 1) := by decide +kernel
theorem dX10_makeResponse_2 : decode cX10_makeResponse 2 = .ok (.getfield 32, 3) := by decide +kernel
theorem dX10_makeResponse_5 : decode cX10_makeResponse 5 = .ok (.invokevirtual 101, 3) := by decide +kernel
theorem dX10_makeResponse_8 : decode cX10_makeResponse 8 = .ok (.iconst 0, 1) := by decide +kernel
theorem dX10_makeResponse_9 : decode cX10_makeResponse 9 = .ok (.istore_n 2, 1) := by decide +kernel
theorem dX10_makeResponse_10 : decode cX10_makeResponse 10 = .ok (.iconst 0, 1) := by decide +kernel
theorem dX10_makeResponse_11 : decode cX10_makeResponse 11 = .ok (.istore_n 3, 1) := by decide +kernel
theorem dX10_makeResponse_12 : decode cX10_makeResponse 12 = .ok (.iconst 2, 1) := by decide +kernel
theorem dX10_makeResponse_13 : decode cX10_makeResponse 13 = .ok (.istore 4, 2) := by decide +kernel
theorem dX10_makeResponse_15 : decode cX10_makeResponse 15 = .ok (.iload 4, 2) := by decide +kernel
theorem dX10_makeResponse_17 : decode cX10_makeResponse 17 = .ok (.aload_n 1, 1) := by decide +kernel
theorem dX10_makeResponse_18 : decode cX10_makeResponse 18 = .ok (.invokevirtual 134, 3) := by decide +kernel
theorem dX10_makeResponse_21 : decode cX10_makeResponse 21 = .ok (.if_icmp .ge 84, 3) := by decide +kernel
theorem dX10_makeResponse_24 : decode cX10_makeResponse 24 = .ok (.aload_n 1, 1) := by decide +kernel
theorem dX10_makeResponse_25 : decode cX10_makeResponse 25 = .ok (.iload 4, 2) := by decide +kernel
theorem dX10_makeResponse_27 : decode cX10_makeResponse 27 = .ok (.iconst 1, 1) := by decide +kernel
theorem dX10_makeResponse_28 : decode cX10_makeResponse 28 = .ok (.iadd, 1) := by decide +kernel
theorem dX10_makeResponse_29 : decode cX10_makeResponse 29 = .ok (.invokevirtual 119, 3) := by decide +kernel
theorem dX10_makeResponse_32 : decode cX10_makeResponse 32 = .ok (.istore 5, 2) := by decide +kernel
theorem dX10_makeResponse_34 : decode cX10_makeResponse 34 = .ok (.iload 5, 2) := by decide +kernel
theorem dX10_makeResponse_36 : decode cX10_makeResponse 36 = .ok (.iconst 1, 1) := by decide +kernel
theorem dX10_makeResponse_37 : decode cX10_makeResponse 37 = .ok (.isub, 1) := by decide +kernel
theorem dX10_makeResponse_38 : decode cX10_makeResponse 38 = .ok (.istore 6, 2) := by decide +kernel
theorem dX10_makeResponse_40 : decode cX10_makeResponse 40 = .ok (.iload_n 2, 1) := by decide +kernel
theorem dX10_makeResponse_41 : decode cX10_makeResponse 41 = .ok (.iconst 1, 1) := by decide +kernel
theorem dX10_makeResponse_42 : decode cX10_makeResponse 42 = .ok (.iload 5, 2) := by decide +kernel
theorem dX10_makeResponse_44 : decode cX10_makeResponse 44 = .ok (.ishl, 1) := by decide +kernel
theorem dX10_makeResponse_45 : decode cX10_makeResponse 45 = .ok (.iand, 1) := by decide +kernel
theorem dX10_makeResponse_46 : decode cX10_makeResponse 46 = .ok (.ifCond .eq 6, 3) := by decide +kernel
theorem dX10_makeResponse_49 : decode cX10_makeResponse 49 = .ok (.goto 50, 3) := by decide +kernel
theorem dX10_makeResponse_52 : decode cX10_makeResponse 52 = .ok (.iload_n 2, 1) := by decide +kernel
theorem dX10_makeResponse_53 : decode cX10_makeResponse 53 = .ok (.iconst 1, 1) := by decide +kernel
theorem dX10_makeResponse_54 : decode cX10_makeResponse 54 = .ok (.iload 5, 2) := by decide +kernel
theorem dX10_makeResponse_56 : decode cX10_makeResponse 56 = .ok (.ishl, 1) := by decide +kernel
theorem dX10_makeResponse_57 : decode cX10_makeResponse 57 = .ok (.ior, 1) := by decide +kernel
theorem dX10_makeResponse_58 : decode cX10_makeResponse 58 = .ok (.istore_n 2, 1) := by decide +kernel
theorem dX10_makeResponse_59 : decode cX10_makeResponse 59 = .ok (.iload 6, 2) := by decide +kernel
theorem dX10_makeResponse_61 : decode cX10_makeResponse 61 = .ok (.invokestatic 63, 3) := by decide +kernel
theorem dX10_makeResponse_64 : decode cX10_makeResponse 64 = .ok (.ifCond .eq 31, 3) := by decide +kernel
theorem dX10_makeResponse_67 : decode cX10_makeResponse 67 = .ok (.iload_n 3, 1) := by decide +kernel
theorem dX10_makeResponse_68 : decode cX10_makeResponse 68 = .ok (.aload_n 0, 1) := by decide +kernel
theorem dX10_makeResponse_69 : decode cX10_makeResponse 69 = .ok (.getfield 23, 3) := by decide +kernel
theorem dX10_makeResponse_72 : decode cX10_makeResponse 72 = .ok (.iload 6, 2) := by decide +kernel
theorem dX10_makeResponse_74 : decode cX10_makeResponse 74 = .ok (.iconst 1, 1) := by decide +kernel
theorem dX10_makeResponse_75 : decode cX10_makeResponse 75 = .ok (.isub, 1) := by decide +kernel
theorem dX10_makeResponse_76 : decode cX10_makeResponse 76 = .ok (.aaload, 1) := by decide +kernel
theorem dX10_makeResponse_77 : decode cX10_makeResponse 77 = .ok (.aload_n 0, 1) := by decide +kernel
theorem dX10_makeResponse_78 : decode cX10_makeResponse 78 = .ok (.getfield 32, 3) := by decide +kernel
theorem dX10_makeResponse_81 : decode cX10_makeResponse 81 = .ok (.iload 6, 2) := by decide +kernel
theorem dX10_makeResponse_83 : decode cX10_makeResponse 83 = .ok (.bipush 16, 2) := by decide +kernel
theorem dX10_makeResponse_85 : decode cX10_makeResponse 85 = .ok (.iload_n 3, 1) := by decide +kernel
theorem dX10_makeResponse_86 : decode cX10_makeResponse 86 = .ok (.isub, 1) := by decide +kernel
theorem dX10_makeResponse_87 : decode cX10_makeResponse 87 = .ok (.invokevirtual 104, 3) := by decide +kernel
theorem dX10_makeResponse_90 : decode cX10_makeResponse 90 = .ok (.iadd, 1) := by decide +kernel
theorem dX10_makeResponse_91 : decode cX10_makeResponse 91 = .ok (.istore_n 3, 1) := by decide +kernel
theorem dX10_makeResponse_92 : decode cX10_makeResponse 92 = .ok (.goto 7, 3) := by decide +kernel
theorem dX10_makeResponse_95 : decode cX10_makeResponse 95 = .ok (.aload_n 0, 1) := by decide +kernel
theorem dX10_makeResponse_96 : decode cX10_makeResponse 96 = .ok (.invokevirtual 149, 3) := by decide +kernel
theorem dX10_makeResponse_99 : decode cX10_makeResponse 99 = .ok (.iinc 4 3, 3) := by decide +kernel
theorem dX10_makeResponse_102 : decode cX10_makeResponse 102 = .ok (.goto (-87), 3) := by decide +kernel
theorem dX10_makeResponse_105 : decode cX10_makeResponse 105 = .ok (.aload_n 0, 1) := by decide +kernel
theorem dX10_makeResponse_106 : decode cX10_makeResponse 106 = .ok (.aload_n 0, 1) := by decide +kernel
theorem dX10_makeResponse_107 : decode cX10_makeResponse 107 = .ok (.getfield 32, 3) := by decide +kernel
theorem dX10_makeResponse_110 : decode cX10_makeResponse 110 = .ok (.sipush 129, 3) := by decide +kernel
theorem dX10_makeResponse_113 : decode cX10_makeResponse 113 = .ok (.aload_n 1, 1) := by decide +kernel
theorem dX10_makeResponse_114 : decode cX10_makeResponse 114 = .ok (.iconst 0, 1) := by decide +kernel
theorem dX10_makeResponse_115 : decode cX10_makeResponse 115 = .ok (.invokevirtual 119, 3) := by decide +kernel
theorem dX10_makeResponse_118 : decode cX10_makeResponse 118 = .ok (.bipush 15, 2) := by decide +kernel
theorem dX10_makeResponse_120 : decode cX10_makeResponse 120 = .ok (.iand, 1) := by decide +kernel
theorem dX10_makeResponse_121 : decode cX10_makeResponse 121 = .ok (.iload_n 3, 1) := by decide +kernel
theorem dX10_makeResponse_122 : decode cX10_makeResponse 122 = .ok (.invokevirtual 111, 3) := by decide +kernel
theorem dX10_makeResponse_125 : decode cX10_makeResponse 125 = .ok (.iload_n 2, 1) := by decide +kernel
theorem dX10_makeResponse_126 : decode cX10_makeResponse 126 = .ok (.iconst 2, 1) := by decide +kernel
theorem dX10_makeResponse_127 : decode cX10_makeResponse 127 = .ok (.iand, 1) := by decide +kernel
theorem dX10_makeResponse_128 : decode cX10_makeResponse 128 = .ok (.ifCond .eq 8, 3) := by decide +kernel
theorem dX10_makeResponse_131 : decode cX10_makeResponse 131 = .ok (.aload_n 0, 1) := by decide +kernel
theorem dX10_makeResponse_132 : decode cX10_makeResponse 132 = .ok (.iconst 0, 1) := by decide +kernel
theorem dX10_makeResponse_133 : decode cX10_makeResponse 133 = .ok (.putfield 59, 3) := by decide +kernel
theorem dX10_makeResponse_136 : decode cX10_makeResponse 136 = .ok (.return_, 1) := by decide +kernel
set_option maxRecDepth 100000 in
theorem ggX10_putStates_X1_add : GoodIn wsX10_putStates wsX1_add := goodIn_r _ [7, 8, 9, 32, 33] rfl (by decide +kernel)
set_option maxRecDepth 20000 in
theorem gX10_putStates_X1_add : GoodIn wsX10_putStates (wsV RX10 152 RX1 yX1_add wsX1_add) := goodIn_app (goodIn_of _ (by decide +kernel)) ggX10_putStates_X1_add
set_option maxRecDepth 100000 in
theorem ggX10_putStates_X1_addNumber : GoodIn wsX10_putStates wsX1_addNumber := goodIn_r _ [13, 14, 4, 5, 6, 7, 8, 9, 32, 33] rfl (by decide +kernel)
set_option maxRecDepth 20000 in
theorem gX10_putStates_X1_addNumber : GoodIn wsX10_putStates (wsV RX10 154 RX1 yX1_addNumber wsX1_addNumber) := goodIn_app (goodIn_of _ (by decide +kernel)) ggX10_putStates_X1_addNumber
theorem dX10_putStates_0 : decode cX10_putStates 0 = .ok (.aload_n 0, 1) := by decide +kernel
theorem dX10_putStates_1 : decode cX10_putStates 1 = .ok (.getfield 32, 3) := by decide +kernel
theorem dX10_putStates_4 : decode cX10_putStates 4 = .ok (.bipush 30, 2) := by decide +kernel
theorem dX10_putStates_6 : decode cX10_putStates 6 = .ok (.invokevirtual 152, 3) := by decide +kernel
theorem dX10_putStates_9 : decode cX10_putStates 9 = .ok (.pop, 1) := by decide +kernel
theorem dX10_putStates_10 : decode cX10_putStates 10 = .ok (.aload_n 0, 1) := by decide +kernel
theorem dX10_putStates_11 : decode cX10_putStates 11 = .ok (.getfield 32, 3) := by decide +kernel
theorem dX10_putStates_14 : decode cX10_putStates 14 = .ok (.iconst 2, 1) := by decide +kernel
theorem dX10_putStates_15 : decode cX10_putStates 15 = .ok (.invokevirtual 152, 3) := by decide +kernel
theorem dX10_putStates_18 : decode cX10_putStates 18 = .ok (.pop, 1) := by decide +kernel
theorem dX10_putStates_19 : decode cX10_putStates 19 = .ok (.aload_n 0, 1) := by decide +kernel
theorem dX10_putStates_20 : decode cX10_putStates 20 = .ok (.getfield 32, 3) := by decide +kernel
theorem dX10_putStates_23 : decode cX10_putStates 23 = .ok (.bipush 10, 2) := by decide +kernel
theorem dX10_putStates_25 : decode cX10_putStates 25 = .ok (.invokevirtual 152, 3) := by decide +kernel
theorem dX10_putStates_28 : decode cX10_putStates 28 = .ok (.pop, 1) := by decide +kernel
theorem dX10_putStates_29 : decode cX10_putStates 29 = .ok (.iconst 0, 1) := by decide +kernel
theorem dX10_putStates_30 : decode cX10_putStates 30 = .ok (.istore_n 1, 1) := by decide +kernel
theorem dX10_putStates_31 : decode cX10_putStates 31 = .ok (.iload_n 1, 1) := by decide +kernel
theorem dX10_putStates_32 : decode cX10_putStates 32 = .ok (.bipush 10, 2) := by decide +kernel
theorem dX10_putStates_34 : decode cX10_putStates 34 = .ok (.if_icmp .ge 32, 3) := by decide +kernel
theorem dX10_putStates_37 : decode cX10_putStates 37 = .ok (.aload_n 0, 1) := by decide +kernel
theorem dX10_putStates_38 : decode cX10_putStates 38 = .ok (.getfield 32, 3) := by decide +kernel
theorem dX10_putStates_41 : decode cX10_putStates 41 = .ok (.iload_n 1, 1) := by decide +kernel
theorem dX10_putStates_42 : decode cX10_putStates 42 = .ok (.invokevirtual 152, 3) := by decide +kernel
theorem dX10_putStates_45 : decode cX10_putStates 45 = .ok (.pop, 1) := by decide +kernel
theorem dX10_putStates_46 : decode cX10_putStates 46 = .ok (.aload_n 0, 1) := by decide +kernel
theorem dX10_putStates_47 : decode cX10_putStates 47 = .ok (.getfield 32, 3) := by decide +kernel
theorem dX10_putStates_50 : decode cX10_putStates 50 = .ok (.aload_n 0, 1) := by decide +kernel
theorem dX10_putStates_51 : decode cX10_putStates 51 = .ok (.getfield 15, 3) := by decide +kernel
theorem dX10_putStates_54 : decode cX10_putStates 54 = .ok (.iload_n 1, 1) := by decide +kernel
theorem dX10_putStates_55 : decode cX10_putStates 55 = .ok (.iaload, 1) := by decide +kernel
theorem dX10_putStates_56 : decode cX10_putStates 56 = .ok (.iconst 2, 1) := by decide +kernel
theorem dX10_putStates_57 : decode cX10_putStates 57 = .ok (.invokevirtual 154, 3) := by decide +kernel
theorem dX10_putStates_60 : decode cX10_putStates 60 = .ok (.iinc 1 1, 3) := by decide +kernel
theorem dX10_putStates_63 : decode cX10_putStates 63 = .ok (.goto (-32), 3) := by decide +kernel
theorem dX10_putStates_66 : decode cX10_putStates 66 = .ok (.return_, 1) := by decide +kernel
set_option maxRecDepth 100000 in
theorem ggX10_begin_X10_waitNoMore : GoodIn wsX10_begin wsX10_waitNoMore := goodIn_r _ [5, 6, 7, 8, 9, 10, 11, 12, 13, 29, 30, 31, 32, 33, 34, 35, 36, 37, 38, 39, 40, 41, 42, 43, 44, 45, 46, 47, 48, 49, 50] rfl (by decide +kernel)
set_option maxRecDepth 20000 in
theorem gX10_begin_X10_waitNoMore : GoodIn wsX10_begin (wsV RX10 76 RX10 yX10_waitNoMore wsX10_waitNoMore) := goodIn_app (goodIn_of _ (by decide +kernel)) ggX10_begin_X10_waitNoMore
set_option maxRecDepth 100000 in
theorem ggX10_begin_X1_clear : GoodIn wsX10_begin wsX1_clear := goodIn_r _ [18, 19, 51, 52] rfl (by decide +kernel)
set_option maxRecDepth 20000 in
theorem gX10_begin_X1_clear : GoodIn wsX10_begin (wsV RX10 158 RX1 yX1_clear wsX1_clear) := goodIn_app (goodIn_of _ (by decide +kernel)) ggX10_begin_X1_clear
set_option maxRecDepth 100000 in
theorem ggX10_begin_X1_addNumber : GoodIn wsX10_begin wsX1_addNumber := goodIn_r _ [23, 24, 25, 26, 17, 27, 19, 28, 51, 52] rfl (by decide +kernel)
set_option maxRecDepth 20000 in
theorem gX10_begin_X1_addNumber : GoodIn wsX10_begin (wsV RX10 154 RX1 yX1_addNumber wsX1_addNumber) := goodIn_app (goodIn_of _ (by decide +kernel)) ggX10_begin_X1_addNumber
theorem dX10_begin_0 : decode cX10_begin 0 = .ok (.aload_n 0, 1) := by decide +kernel
theorem dX10_begin_1 : decode cX10_begin 1 = .ok (.invokevirtual 76, 3) := by decide +kernel
theorem dX10_begin_4 : decode cX10_begin 4 = .ok (.aload_n 1, 1) := by decide +kernel
theorem dX10_begin_5 : decode cX10_begin 5 = .ok (.invokevirtual 158, 3) := by decide +kernel
theorem dX10_begin_8 : decode cX10_begin 8 = .ok (.aload_n 1, 1) := by decide +kernel
theorem dX10_begin_9 : decode cX10_begin 9 = .ok (.iconst 0, 1) := by decide +kernel
theorem dX10_begin_10 : decode cX10_begin 10 = .ok (.iconst 4, 1) := by decide +kernel
theorem dX10_begin_11 : decode cX10_begin 11 = .ok (.invokevirtual 154, 3) := by decide +kernel
theorem dX10_begin_14 : decode cX10_begin 14 = .ok (.return_, 1) := by decide +kernel
set_option maxRecDepth 100000 in
theorem ggX10_finish_X1_set : GoodIn wsX10_finish wsX1_set := goodIn_r _ [8, 9, 10, 41, 42] rfl (by decide +kernel)
set_option maxRecDepth 20000 in
theorem gX10_finish_X1_set : GoodIn wsX10_finish (wsV RX10 161 RX1 yX1_set wsX1_set) := goodIn_app (goodIn_of _ (by decide +kernel)) ggX10_finish_X1_set
set_option maxRecDepth 100000 in
theorem ggX10_finish_X10_classesLeft : GoodIn wsX10_finish wsX10_classesLeft := goodIn_r _ [15, 16, 17, 18, 19, 20, 21, 22, 23, 24, 25, 26, 27, 28, 29, 30, 31, 32, 33, 34, 35, 36, 37, 38, 39, 40, 43, 44, 45, 46, 47] rfl (by decide +kernel)
set_option maxRecDepth 20000 in
theorem gX10_finish_X10_classesLeft : GoodIn wsX10_finish (wsV RX10 164 RX10 yX10_classesLeft wsX10_classesLeft) := goodIn_app (goodIn_of _ (by decide +kernel)) ggX10_finish_X10_classesLeft
theorem dX10_finish_0 : decode cX10_finish 0 = .ok (.aload_n 1, 1) := by decide +kernel
theorem dX10_finish_1 : decode cX10_finish 1 = .ok (.iconst 0, 1) := by decide +kernel
theorem dX10_finish_2 : decode cX10_finish 2 = .ok (.sipush 192, 3) := by decide +kernel
theorem dX10_finish_5 : decode cX10_finish 5 = .ok (.iload 4, 2) := by decide +kernel
theorem dX10_finish_7 : decode cX10_finish 7 = .ok (.ifCond .le 8, 3) := by decide +kernel
theorem dX10_finish_10 : decode cX10_finish 10 = .ok (.bipush 32, 2) := by decide +kernel
theorem dX10_finish_12 : decode cX10_finish 12 = .ok (.goto 4, 3) := by decide +kernel
theorem dX10_finish_15 : decode cX10_finish 15 = .ok (.iconst 0, 1) := by decide +kernel
theorem dX10_finish_16 : decode cX10_finish 16 = .ok (.iadd, 1) := by decide +kernel
theorem dX10_finish_17 : decode cX10_finish 17 = .ok (.iload_n 2, 1) := by decide +kernel
theorem dX10_finish_18 : decode cX10_finish 18 = .ok (.sipush 130, 3) := by decide +kernel
theorem dX10_finish_21 : decode cX10_finish 21 = .ok (.if_icmp .ne 8, 3) := by decide +kernel
theorem dX10_finish_24 : decode cX10_finish 24 = .ok (.bipush 16, 2) := by decide +kernel
theorem dX10_finish_26 : decode cX10_finish 26 = .ok (.goto 4, 3) := by decide +kernel
theorem dX10_finish_29 : decode cX10_finish 29 = .ok (.iconst 0, 1) := by decide +kernel
theorem dX10_finish_30 : decode cX10_finish 30 = .ok (.iadd, 1) := by decide +kernel
theorem dX10_finish_31 : decode cX10_finish 31 = .ok (.iload_n 3, 1) := by decide +kernel
theorem dX10_finish_32 : decode cX10_finish 32 = .ok (.iadd, 1) := by decide +kernel
theorem dX10_finish_33 : decode cX10_finish 33 = .ok (.invokevirtual 161, 3) := by decide +kernel
theorem dX10_finish_36 : decode cX10_finish 36 = .ok (.aload_n 1, 1) := by decide +kernel
theorem dX10_finish_37 : decode cX10_finish 37 = .ok (.iconst 1, 1) := by decide +kernel
theorem dX10_finish_38 : decode cX10_finish 38 = .ok (.iload_n 2, 1) := by decide +kernel
theorem dX10_finish_39 : decode cX10_finish 39 = .ok (.invokevirtual 161, 3) := by decide +kernel
theorem dX10_finish_42 : decode cX10_finish 42 = .ok (.aload_n 1, 1) := by decide +kernel
theorem dX10_finish_43 : decode cX10_finish 43 = .ok (.iconst 2, 1) := by decide +kernel
theorem dX10_finish_44 : decode cX10_finish 44 = .ok (.aload_n 0, 1) := by decide +kernel
theorem dX10_finish_45 : decode cX10_finish 45 = .ok (.invokevirtual 164, 3) := by decide +kernel
theorem dX10_finish_48 : decode cX10_finish 48 = .ok (.invokevirtual 161, 3) := by decide +kernel
theorem dX10_finish_51 : decode cX10_finish 51 = .ok (.aload_n 1, 1) := by decide +kernel
theorem dX10_finish_52 : decode cX10_finish 52 = .ok (.iconst 3, 1) := by decide +kernel
theorem dX10_finish_53 : decode cX10_finish 53 = .ok (.aload_n 0, 1) := by decide +kernel
theorem dX10_finish_54 : decode cX10_finish 54 = .ok (.getfield 59, 3) := by decide +kernel
theorem dX10_finish_57 : decode cX10_finish 57 = .ok (.ifCond .eq 8, 3) := by decide +kernel
theorem dX10_finish_60 : decode cX10_finish 60 = .ok (.bipush 8, 2) := by decide +kernel
theorem dX10_finish_62 : decode cX10_finish 62 = .ok (.goto 4, 3) := by decide +kernel
theorem dX10_finish_65 : decode cX10_finish 65 = .ok (.iconst 0, 1) := by decide +kernel
theorem dX10_finish_66 : decode cX10_finish 66 = .ok (.invokevirtual 161, 3) := by decide +kernel
theorem dX10_finish_69 : decode cX10_finish 69 = .ok (.iload 4, 2) := by decide +kernel
theorem dX10_finish_71 : decode cX10_finish 71 = .ok (.ifCond .le 13, 3) := by decide +kernel
theorem dX10_finish_74 : decode cX10_finish 74 = .ok (.aload_n 0, 1) := by decide +kernel
theorem dX10_finish_75 : decode cX10_finish 75 = .ok (.iload_n 2, 1) := by decide +kernel
theorem dX10_finish_76 : decode cX10_finish 76 = .ok (.putfield 39, 3) := by decide +kernel
theorem dX10_finish_79 : decode cX10_finish 79 = .ok (.aload_n 0, 1) := by decide +kernel
theorem dX10_finish_80 : decode cX10_finish 80 = .ok (.iload_n 3, 1) := by decide +kernel
theorem dX10_finish_81 : decode cX10_finish 81 = .ok (.putfield 143, 3) := by decide +kernel
theorem dX10_finish_84 : decode cX10_finish 84 = .ok (.return_, 1) := by decide +kernel
set_option maxRecDepth 100000 in
theorem ggX10_classesLeft_X2_hasOthers : GoodIn wsX10_classesLeft wsX2_hasOthers := goodIn_r _ [6, 7, 8, 26, 27, 28, 29, 30] rfl (by decide +kernel)
set_option maxRecDepth 20000 in
theorem gX10_classesLeft_X2_hasOthers : GoodIn wsX10_classesLeft (wsV RX10 167 RX2 yX2_hasOthers wsX2_hasOthers) := goodIn_app (goodIn_of _ (by decide +kernel)) ggX10_classesLeft_X2_hasOthers
theorem dX10_classesLeft_0 : decode cX10_classesLeft 0 = .ok (.iconst 0, 1) := by decide +kernel
