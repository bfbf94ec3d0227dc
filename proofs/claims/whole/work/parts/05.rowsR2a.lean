theorem dX12_forget_43 : decode cX12_forget 43 = .ok (.iload_n 2, 1) := by decide +kernel
theorem dX12_forget_44 : decode cX12_forget 44 = .ok (.iadd, 1) := by decide +kernel
theorem dX12_forget_45 : decode cX12_forget 45 = .ok (.iload_n 3, 1) := by decide +kernel
theorem dX12_forget_46 : decode cX12_forget 46 = .ok (.invokevirtual 181, 3) := by decide +kernel
theorem dX12_forget_49 : decode cX12_forget 49 = .ok (.iinc 2 1, 3) := by decide +kernel
theorem dX12_forget_52 : decode cX12_forget 52 = .ok (.iinc 3 1, 3) := by decide +kernel
theorem dX12_forget_55 : decode cX12_forget 55 = .ok (.goto (-41), 3) := by decide +kernel
theorem dX12_forget_58 : decode cX12_forget 58 = .ok (.aload_n 0, 1) := by decide +kernel
theorem dX12_forget_59 : decode cX12_forget 59 = .ok (.getfield 19, 3) := by decide +kernel
theorem dX12_forget_62 : decode cX12_forget 62 = .ok (.iload_n 1, 1) := by decide +kernel
theorem dX12_forget_63 : decode cX12_forget 63 = .ok (.iload_n 2, 1) := by decide +kernel
theorem dX12_forget_64 : decode cX12_forget 64 = .ok (.iastore, 1) := by decide +kernel
theorem dX12_forget_65 : decode cX12_forget 65 = .ok (.iinc 1 1, 3) := by decide +kernel
theorem dX12_forget_68 : decode cX12_forget 68 = .ok (.goto (-66), 3) := by decide +kernel
theorem dX12_forget_71 : decode cX12_forget 71 = .ok (.aload_n 0, 1) := by decide +kernel
theorem dX12_forget_72 : decode cX12_forget 72 = .ok (.invokevirtual 157, 3) := by decide +kernel
theorem dX12_forget_75 : decode cX12_forget 75 = .ok (.return_, 1) := by decide +kernel
theorem dX12_moveEvent_0 : decode cX12_moveEvent 0 = .ok (.aload_n 0, 1) := by decide +kernel
theorem dX12_moveEvent_1 : decode cX12_moveEvent 1 = .ok (.getfield 22, 3) := by decide +kernel
theorem dX12_moveEvent_4 : decode cX12_moveEvent 4 = .ok (.iload_n 1, 1) := by decide +kernel
theorem dX12_moveEvent_5 : decode cX12_moveEvent 5 = .ok (.aload_n 0, 1) := by decide +kernel
theorem dX12_moveEvent_6 : decode cX12_moveEvent 6 = .ok (.getfield 22, 3) := by decide +kernel
theorem dX12_moveEvent_9 : decode cX12_moveEvent 9 = .ok (.iload_n 2, 1) := by decide +kernel
theorem dX12_moveEvent_10 : decode cX12_moveEvent 10 = .ok (.iaload, 1) := by decide +kernel
theorem dX12_moveEvent_11 : decode cX12_moveEvent 11 = .ok (.iastore, 1) := by decide +kernel
theorem dX12_moveEvent_12 : decode cX12_moveEvent 12 = .ok (.aload_n 0, 1) := by decide +kernel
theorem dX12_moveEvent_13 : decode cX12_moveEvent 13 = .ok (.getfield 25, 3) := by decide +kernel
theorem dX12_moveEvent_16 : decode cX12_moveEvent 16 = .ok (.iload_n 1, 1) := by decide +kernel
theorem dX12_moveEvent_17 : decode cX12_moveEvent 17 = .ok (.aload_n 0, 1) := by decide +kernel
theorem dX12_moveEvent_18 : decode cX12_moveEvent 18 = .ok (.getfield 25, 3) := by decide +kernel
theorem dX12_moveEvent_21 : decode cX12_moveEvent 21 = .ok (.iload_n 2, 1) := by decide +kernel
theorem dX12_moveEvent_22 : decode cX12_moveEvent 22 = .ok (.iaload, 1) := by decide +kernel
theorem dX12_moveEvent_23 : decode cX12_moveEvent 23 = .ok (.iastore, 1) := by decide +kernel
theorem dX12_moveEvent_24 : decode cX12_moveEvent 24 = .ok (.aload_n 0, 1) := by decide +kernel
theorem dX12_moveEvent_25 : decode cX12_moveEvent 25 = .ok (.getfield 28, 3) := by decide +kernel
theorem dX12_moveEvent_28 : decode cX12_moveEvent 28 = .ok (.iload_n 1, 1) := by decide +kernel
theorem dX12_moveEvent_29 : decode cX12_moveEvent 29 = .ok (.aload_n 0, 1) := by decide +kernel
theorem dX12_moveEvent_30 : decode cX12_moveEvent 30 = .ok (.getfield 28, 3) := by decide +kernel
theorem dX12_moveEvent_33 : decode cX12_moveEvent 33 = .ok (.iload_n 2, 1) := by decide +kernel
theorem dX12_moveEvent_34 : decode cX12_moveEvent 34 = .ok (.iaload, 1) := by decide +kernel
theorem dX12_moveEvent_35 : decode cX12_moveEvent 35 = .ok (.iastore, 1) := by decide +kernel
theorem dX12_moveEvent_36 : decode cX12_moveEvent 36 = .ok (.aload_n 0, 1) := by decide +kernel
theorem dX12_moveEvent_37 : decode cX12_moveEvent 37 = .ok (.getfield 31, 3) := by decide +kernel
theorem dX12_moveEvent_40 : decode cX12_moveEvent 40 = .ok (.iload_n 1, 1) := by decide +kernel
theorem dX12_moveEvent_41 : decode cX12_moveEvent 41 = .ok (.aload_n 0, 1) := by decide +kernel
theorem dX12_moveEvent_42 : decode cX12_moveEvent 42 = .ok (.getfield 31, 3) := by decide +kernel
theorem dX12_moveEvent_45 : decode cX12_moveEvent 45 = .ok (.iload_n 2, 1) := by decide +kernel
theorem dX12_moveEvent_46 : decode cX12_moveEvent 46 = .ok (.baload, 1) := by decide +kernel
theorem dX12_moveEvent_47 : decode cX12_moveEvent 47 = .ok (.bastore, 1) := by decide +kernel
theorem dX12_moveEvent_48 : decode cX12_moveEvent 48 = .ok (.return_, 1) := by decide +kernel
set_option maxRecDepth 20000 in
theorem ggX12_stationTakes_X12_isRead : GoodIn wsX12_stationTakes wsX12_isRead := goodIn_r _ [9, 1, 2, 94, 95, 96, 97, 98, 99, 100, 101, 102, 103, 104, 105, 106, 107, 108, 109, 110, 111, 112, 113, 114, 115, 116, 117, 118, 119, 120, 121, 122, 123, 124, 125, 126, 127, 128, 129, 130, 131, 132, 133, 134, 135, 136, 137, 138, 139, 140] (by decide +kernel) (by decide +kernel)
set_option maxRecDepth 20000 in
theorem gX12_stationTakes_X12_isRead : GoodIn wsX12_stationTakes (wsV RX12 184 RX12 yX12_isRead wsX12_isRead) := goodIn_app (goodIn_of _ (by decide +kernel)) ggX12_stationTakes_X12_isRead
set_option maxRecDepth 20000 in
theorem ggX12_stationTakes_X12_respond : GoodIn wsX12_stationTakes wsX12_respond := goodIn_r _ [13, 1, 2, 14, 3, 4, 15, 16, 17, 18, 8, 19, 20, 21, 22, 23, 24, 25, 26, 27, 28, 29, 30, 31, 32, 33, 34, 35, 36, 37, 38, 39, 40, 41, 42, 43, 44, 45, 46, 47, 48, 49, 50, 51, 52, 53, 54, 55, 56, 57, 58, 59, 60, 61, 62, 63, 64, 65, 66, 67, 68, 69, 70, 71, 72, 73, 74, 75, 76, 77, 78, 79, 80, 81, 82, 83, 84, 85, 94, 95, 96, 97, 98, 99, 100, 101, 102, 103, 104, 105, 106, 107, 108, 109, 110, 111, 112, 113, 114, 115, 116, 117, 118, 119, 120, 121, 122, 123, 124, 125, 126, 127, 128, 129, 130, 131, 132, 133, 134, 135, 136, 137, 138, 139, 140] (by decide +kernel) (by decide +kernel)
set_option maxRecDepth 20000 in
theorem gX12_stationTakes_X12_respond : GoodIn wsX12_stationTakes (wsV RX12 187 RX12 yX12_respond wsX12_respond) := goodIn_app (goodIn_of _ (by decide +kernel)) ggX12_stationTakes_X12_respond
set_option maxRecDepth 20000 in
theorem ggX12_stationTakes_X12_forget : GoodIn wsX12_stationTakes wsX12_forget := goodIn_r _ [89, 47, 20, 90, 91, 92, 8, 93, 48, 49, 50, 16, 17, 18, 19, 3, 94, 95, 96, 97, 98, 99, 100, 101, 102, 103, 104, 105, 106, 107, 108, 109, 110, 111, 112, 113, 114, 115, 116, 117, 118, 119, 120, 121, 122, 123, 124, 125, 126, 127, 128, 129, 130, 131, 132, 133, 134, 135, 136, 137, 138, 139, 140] (by decide +kernel) (by decide +kernel)
set_option maxRecDepth 20000 in
theorem gX12_stationTakes_X12_forget : GoodIn wsX12_stationTakes (wsV RX12 190 RX12 yX12_forget wsX12_forget) := goodIn_app (goodIn_of _ (by decide +kernel)) ggX12_stationTakes_X12_forget
theorem dX12_stationTakes_0 : decode cX12_stationTakes 0 = .ok (.aload_n 0, 1) := by decide +kernel
theorem dX12_stationTakes_1 : decode cX12_stationTakes 1 = .ok (.getfield 78, 3) := by decide +kernel
theorem dX12_stationTakes_4 : decode cX12_stationTakes 4 = .ok (.iconst 0, 1) := by decide +kernel
theorem dX12_stationTakes_5 : decode cX12_stationTakes 5 = .ok (.iaload, 1) := by decide +kernel
theorem dX12_stationTakes_6 : decode cX12_stationTakes 6 = .ok (.bipush 32, 2) := by decide +kernel
theorem dX12_stationTakes_8 : decode cX12_stationTakes 8 = .ok (.iand, 1) := by decide +kernel
theorem dX12_stationTakes_9 : decode cX12_stationTakes 9 = .ok (.ifCond .eq 5, 3) := by decide +kernel
theorem dX12_stationTakes_12 : decode cX12_stationTakes 12 = .ok (.iconst 0, 1) := by decide +kernel
theorem dX12_stationTakes_13 : decode cX12_stationTakes 13 = .ok (.ireturn, 1) := by decide +kernel
theorem dX12_stationTakes_14 : decode cX12_stationTakes 14 = .ok (.aload_n 0, 1) := by decide +kernel
theorem dX12_stationTakes_15 : decode cX12_stationTakes 15 = .ok (.invokevirtual 184, 3) := by decide +kernel
theorem dX12_stationTakes_18 : decode cX12_stationTakes 18 = .ok (.ifCond .eq 9, 3) := by decide +kernel
theorem dX12_stationTakes_21 : decode cX12_stationTakes 21 = .ok (.aload_n 0, 1) := by decide +kernel
theorem dX12_stationTakes_22 : decode cX12_stationTakes 22 = .ok (.invokevirtual 187, 3) := by decide +kernel
theorem dX12_stationTakes_25 : decode cX12_stationTakes 25 = .ok (.iconst 1, 1) := by decide +kernel
theorem dX12_stationTakes_26 : decode cX12_stationTakes 26 = .ok (.ireturn, 1) := by decide +kernel
theorem dX12_stationTakes_27 : decode cX12_stationTakes 27 = .ok (.aload_n 0, 1) := by decide +kernel
theorem dX12_stationTakes_28 : decode cX12_stationTakes 28 = .ok (.getfield 78, 3) := by decide +kernel
theorem dX12_stationTakes_31 : decode cX12_stationTakes 31 = .ok (.iconst 0, 1) := by decide +kernel
theorem dX12_stationTakes_32 : decode cX12_stationTakes 32 = .ok (.iaload, 1) := by decide +kernel
theorem dX12_stationTakes_33 : decode cX12_stationTakes 33 = .ok (.bipush 16, 2) := by decide +kernel
theorem dX12_stationTakes_35 : decode cX12_stationTakes 35 = .ok (.iand, 1) := by decide +kernel
theorem dX12_stationTakes_36 : decode cX12_stationTakes 36 = .ok (.ifCond .eq 7, 3) := by decide +kernel
theorem dX12_stationTakes_39 : decode cX12_stationTakes 39 = .ok (.iconst 1, 1) := by decide +kernel
theorem dX12_stationTakes_40 : decode cX12_stationTakes 40 = .ok (.goto 4, 3) := by decide +kernel
theorem dX12_stationTakes_43 : decode cX12_stationTakes 43 = .ok (.iconst 0, 1) := by decide +kernel
theorem dX12_stationTakes_44 : decode cX12_stationTakes 44 = .ok (.istore_n 1, 1) := by decide +kernel
theorem dX12_stationTakes_45 : decode cX12_stationTakes 45 = .ok (.aload_n 0, 1) := by decide +kernel
theorem dX12_stationTakes_46 : decode cX12_stationTakes 46 = .ok (.getfield 78, 3) := by decide +kernel
theorem dX12_stationTakes_49 : decode cX12_stationTakes 49 = .ok (.iconst 1, 1) := by decide +kernel
theorem dX12_stationTakes_50 : decode cX12_stationTakes 50 = .ok (.iaload, 1) := by decide +kernel
theorem dX12_stationTakes_51 : decode cX12_stationTakes 51 = .ok (.ifCond .ne 15, 3) := by decide +kernel
theorem dX12_stationTakes_54 : decode cX12_stationTakes 54 = .ok (.aload_n 0, 1) := by decide +kernel
theorem dX12_stationTakes_55 : decode cX12_stationTakes 55 = .ok (.getfield 127, 3) := by decide +kernel
theorem dX12_stationTakes_58 : decode cX12_stationTakes 58 = .ok (.iconst 2, 1) := by decide +kernel
theorem dX12_stationTakes_59 : decode cX12_stationTakes 59 = .ok (.if_icmp .ne 7, 3) := by decide +kernel
theorem dX12_stationTakes_62 : decode cX12_stationTakes 62 = .ok (.iconst 1, 1) := by decide +kernel
theorem dX12_stationTakes_63 : decode cX12_stationTakes 63 = .ok (.goto 4, 3) := by decide +kernel
theorem dX12_stationTakes_66 : decode cX12_stationTakes 66 = .ok (.iconst 0, 1) := by decide +kernel
theorem dX12_stationTakes_67 : decode cX12_stationTakes 67 = .ok (.istore_n 2, 1) := by decide +kernel
theorem dX12_stationTakes_68 : decode cX12_stationTakes 68 = .ok (.iload_n 2, 1) := by decide +kernel
theorem dX12_stationTakes_69 : decode cX12_stationTakes 69 = .ok (.ifCond .eq 47, 3) := by decide +kernel
theorem dX12_stationTakes_72 : decode cX12_stationTakes 72 = .ok (.aload_n 0, 1) := by decide +kernel
theorem dX12_stationTakes_73 : decode cX12_stationTakes 73 = .ok (.getfield 147, 3) := by decide +kernel
theorem dX12_stationTakes_76 : decode cX12_stationTakes 76 = .ok (.ifCond .le 40, 3) := by decide +kernel
theorem dX12_stationTakes_79 : decode cX12_stationTakes 79 = .ok (.aload_n 0, 1) := by decide +kernel
theorem dX12_stationTakes_80 : decode cX12_stationTakes 80 = .ok (.getfield 175, 3) := by decide +kernel
theorem dX12_stationTakes_83 : decode cX12_stationTakes 83 = .ok (.aload_n 0, 1) := by decide +kernel
theorem dX12_stationTakes_84 : decode cX12_stationTakes 84 = .ok (.getfield 78, 3) := by decide +kernel
theorem dX12_stationTakes_87 : decode cX12_stationTakes 87 = .ok (.iconst 0, 1) := by decide +kernel
theorem dX12_stationTakes_88 : decode cX12_stationTakes 88 = .ok (.iaload, 1) := by decide +kernel
theorem dX12_stationTakes_89 : decode cX12_stationTakes 89 = .ok (.bipush 15, 2) := by decide +kernel
theorem dX12_stationTakes_91 : decode cX12_stationTakes 91 = .ok (.iand, 1) := by decide +kernel
theorem dX12_stationTakes_92 : decode cX12_stationTakes 92 = .ok (.if_icmp .ne 24, 3) := by decide +kernel
theorem dX12_stationTakes_95 : decode cX12_stationTakes 95 = .ok (.iload_n 1, 1) := by decide +kernel
theorem dX12_stationTakes_96 : decode cX12_stationTakes 96 = .ok (.aload_n 0, 1) := by decide +kernel
theorem dX12_stationTakes_97 : decode cX12_stationTakes 97 = .ok (.getfield 147, 3) := by decide +kernel
theorem dX12_stationTakes_100 : decode cX12_stationTakes 100 = .ok (.iconst 2, 1) := by decide +kernel
theorem dX12_stationTakes_101 : decode cX12_stationTakes 101 = .ok (.if_icmp .ne 7, 3) := by decide +kernel
theorem dX12_stationTakes_104 : decode cX12_stationTakes 104 = .ok (.iconst 1, 1) := by decide +kernel
theorem dX12_stationTakes_105 : decode cX12_stationTakes 105 = .ok (.goto 4, 3) := by decide +kernel
theorem dX12_stationTakes_108 : decode cX12_stationTakes 108 = .ok (.iconst 0, 1) := by decide +kernel
theorem dX12_stationTakes_109 : decode cX12_stationTakes 109 = .ok (.if_icmp .ne 7, 3) := by decide +kernel
theorem dX12_stationTakes_112 : decode cX12_stationTakes 112 = .ok (.aload_n 0, 1) := by decide +kernel
theorem dX12_stationTakes_113 : decode cX12_stationTakes 113 = .ok (.invokevirtual 190, 3) := by decide +kernel
theorem dX12_stationTakes_116 : decode cX12_stationTakes 116 = .ok (.iload_n 2, 1) := by decide +kernel
theorem dX12_stationTakes_117 : decode cX12_stationTakes 117 = .ok (.ireturn, 1) := by decide +kernel
theorem dX12_hasEvents_0 : decode cX12_hasEvents 0 = .ok (.aload_n 0, 1) := by decide +kernel
theorem dX12_hasEvents_1 : decode cX12_hasEvents 1 = .ok (.getfield 19, 3) := by decide +kernel
theorem dX12_hasEvents_4 : decode cX12_hasEvents 4 = .ok (.iconst 1, 1) := by decide +kernel
theorem dX12_hasEvents_5 : decode cX12_hasEvents 5 = .ok (.iaload, 1) := by decide +kernel
theorem dX12_hasEvents_6 : decode cX12_hasEvents 6 = .ok (.aload_n 0, 1) := by decide +kernel
theorem dX12_hasEvents_7 : decode cX12_hasEvents 7 = .ok (.getfield 19, 3) := by decide +kernel
theorem dX12_hasEvents_10 : decode cX12_hasEvents 10 = .ok (.iconst 2, 1) := by decide +kernel
theorem dX12_hasEvents_11 : decode cX12_hasEvents 11 = .ok (.iaload, 1) := by decide +kernel
theorem dX12_hasEvents_12 : decode cX12_hasEvents 12 = .ok (.iadd, 1) := by decide +kernel
theorem dX12_hasEvents_13 : decode cX12_hasEvents 13 = .ok (.aload_n 0, 1) := by decide +kernel
theorem dX12_hasEvents_14 : decode cX12_hasEvents 14 = .ok (.getfield 19, 3) := by decide +kernel
theorem dX12_hasEvents_17 : decode cX12_hasEvents 17 = .ok (.iconst 3, 1) := by decide +kernel
theorem dX12_hasEvents_18 : decode cX12_hasEvents 18 = .ok (.iaload, 1) := by decide +kernel
theorem dX12_hasEvents_19 : decode cX12_hasEvents 19 = .ok (.iadd, 1) := by decide +kernel
theorem dX12_hasEvents_20 : decode cX12_hasEvents 20 = .ok (.ifCond .le 7, 3) := by decide +kernel
theorem dX12_hasEvents_23 : decode cX12_hasEvents 23 = .ok (.iconst 1, 1) := by decide +kernel
theorem dX12_hasEvents_24 : decode cX12_hasEvents 24 = .ok (.goto 4, 3) := by decide +kernel
theorem dX12_hasEvents_27 : decode cX12_hasEvents 27 = .ok (.iconst 0, 1) := by decide +kernel
theorem dX12_hasEvents_28 : decode cX12_hasEvents 28 = .ok (.ireturn, 1) := by decide +kernel
set_option maxRecDepth 20000 in
theorem ggX12_makeReport_X12_noneWaits : GoodIn wsX12_makeReport wsX12_noneWaits := goodIn_r _ [15, 3, 16, 73, 74, 75, 76, 77, 78, 79, 80, 81, 82, 83, 84, 85, 86, 87, 88, 89, 90, 91, 92, 93, 94, 95, 96, 97, 98, 99, 100, 101, 102, 103, 104, 105, 106, 107, 108, 109, 110, 111, 112, 113, 114, 115, 116, 117, 118, 119] (by decide +kernel) (by decide +kernel)
set_option maxRecDepth 20000 in
theorem gX12_makeReport_X12_noneWaits : GoodIn wsX12_makeReport (wsV RX12 157 RX12 yX12_noneWaits wsX12_noneWaits) := goodIn_app (goodIn_of _ (by decide +kernel)) ggX12_makeReport_X12_noneWaits
set_option maxRecDepth 20000 in
theorem ggX12_makeReport_X12_begin : GoodIn wsX12_makeReport wsX12_begin := goodIn_r _ [20, 7, 21, 22, 23, 14, 24, 10, 73, 74, 75, 76, 77, 78, 79, 80, 81, 82, 83, 84, 85, 86, 87, 88, 89, 90, 91, 92, 93, 94, 95, 96, 97, 98, 99, 100, 101, 102, 103, 104, 105, 106, 107, 108, 109, 110, 111, 112, 113, 114, 115, 116, 117, 118, 119] (by decide +kernel) (by decide +kernel)
set_option maxRecDepth 20000 in
theorem gX12_makeReport_X12_begin : GoodIn wsX12_makeReport (wsV RX12 160 RX12 yX12_begin wsX12_begin) := goodIn_app (goodIn_of _ (by decide +kernel)) ggX12_makeReport_X12_begin
set_option maxRecDepth 20000 in
theorem ggX12_makeReport_X12_put : GoodIn wsX12_makeReport wsX12_put := goodIn_r _ [24, 10, 7, 73, 74, 75, 76, 77, 78, 79, 80, 81, 82, 83, 84, 85, 86, 87, 88, 89, 90, 91, 92, 93, 94, 95, 96, 97, 98, 99, 100, 101, 102, 103, 104, 105, 106, 107, 108, 109, 110, 111, 112, 113, 114, 115, 116, 117, 118, 119] (by decide +kernel) (by decide +kernel)
set_option maxRecDepth 20000 in
theorem gX12_makeReport_X12_put : GoodIn wsX12_makeReport (wsV RX12 144 RX12 yX12_put wsX12_put) := goodIn_app (goodIn_of _ (by decide +kernel)) ggX12_makeReport_X12_put
set_option maxRecDepth 20000 in
theorem ggX12_makeReport_X12_putEvents : GoodIn wsX12_makeReport wsX12_putEvents := goodIn_r _ [28, 29, 30, 31, 32, 16, 21, 22, 23, 14, 24, 10, 7, 33, 34, 35, 36, 73, 74, 75, 76, 77, 78, 79, 80, 81, 82, 83, 84, 85, 86, 87, 88, 89, 90, 91, 92, 93, 94, 95, 96, 97, 98, 99, 100, 101, 102, 103, 104, 105, 106, 107, 108, 109, 110, 111, 112, 113, 114, 115, 116, 117, 118, 119] (by decide +kernel) (by decide +kernel)
set_option maxRecDepth 20000 in
theorem gX12_makeReport_X12_putEvents : GoodIn wsX12_makeReport (wsV RX12 169 RX12 yX12_putEvents wsX12_putEvents) := goodIn_app (goodIn_of _ (by decide +kernel)) ggX12_makeReport_X12_putEvents
set_option maxRecDepth 20000 in
theorem ggX12_makeReport_X12_putState : GoodIn wsX12_makeReport wsX12_putState := goodIn_r _ [40, 29, 16, 10, 41, 73, 74, 75, 76, 77, 78, 79, 80, 81, 82, 83, 84, 85, 86, 87, 88, 89, 90, 91, 92, 93, 94, 95, 96, 97, 98, 99, 100, 101, 102, 103, 104, 105, 106, 107, 108, 109, 110, 111, 112, 113, 114, 115, 116, 117, 118, 119] (by decide +kernel) (by decide +kernel)
set_option maxRecDepth 20000 in
theorem gX12_makeReport_X12_putState : GoodIn wsX12_makeReport (wsV RX12 172 RX12 yX12_putState wsX12_putState) := goodIn_app (goodIn_of _ (by decide +kernel)) ggX12_makeReport_X12_putState
set_option maxRecDepth 20000 in
theorem ggX12_makeReport_X12_send : GoodIn wsX12_makeReport wsX12_send := goodIn_r _ [45, 7, 46, 47, 48, 14, 49, 50, 51, 52, 53, 10, 54, 55, 56, 57, 58, 59, 60, 61, 62, 63, 64, 65, 66, 67, 68, 69, 70, 71, 72, 73, 74, 75, 76, 77, 78, 79, 80, 81, 82, 83, 84, 85, 86, 87, 88, 89, 90, 91, 92, 93, 94, 95, 96, 97, 98, 99, 100, 101, 102, 103, 104, 105, 106, 107, 108, 109, 110, 111, 112, 113, 114, 115, 116, 117, 118, 119] (by decide +kernel) (by decide +kernel)
set_option maxRecDepth 20000 in
theorem gX12_makeReport_X12_send : GoodIn wsX12_makeReport (wsV RX12 178 RX12 yX12_send wsX12_send) := goodIn_app (goodIn_of _ (by decide +kernel)) ggX12_makeReport_X12_send
theorem dX12_makeReport_0 : decode cX12_makeReport 0 = .ok (.aload_n 0, 1) := by decide +kernel
theorem dX12_makeReport_1 : decode cX12_makeReport 1 = .ok (.invokevirtual 157, 3) := by decide +kernel
theorem dX12_makeReport_4 : decode cX12_makeReport 4 = .ok (.aload_n 0, 1) := by decide +kernel
theorem dX12_makeReport_5 : decode cX12_makeReport 5 = .ok (.aload_n 0, 1) := by decide +kernel
theorem dX12_makeReport_6 : decode cX12_makeReport 6 = .ok (.getfield 193, 3) := by decide +kernel
theorem dX12_makeReport_9 : decode cX12_makeReport 9 = .ok (.bipush 16, 2) := by decide +kernel
theorem dX12_makeReport_11 : decode cX12_makeReport 11 = .ok (.irem, 1) := by decide +kernel
theorem dX12_makeReport_12 : decode cX12_makeReport 12 = .ok (.putfield 175, 3) := by decide +kernel
theorem dX12_makeReport_15 : decode cX12_makeReport 15 = .ok (.aload_n 0, 1) := by decide +kernel
theorem dX12_makeReport_16 : decode cX12_makeReport 16 = .ok (.dup, 1) := by decide +kernel
theorem dX12_makeReport_17 : decode cX12_makeReport 17 = .ok (.getfield 193, 3) := by decide +kernel
theorem dX12_makeReport_20 : decode cX12_makeReport 20 = .ok (.iconst 1, 1) := by decide +kernel
theorem dX12_makeReport_21 : decode cX12_makeReport 21 = .ok (.iadd, 1) := by decide +kernel
theorem dX12_makeReport_22 : decode cX12_makeReport 22 = .ok (.putfield 193, 3) := by decide +kernel
theorem dX12_makeReport_25 : decode cX12_makeReport 25 = .ok (.aload_n 0, 1) := by decide +kernel
theorem dX12_makeReport_26 : decode cX12_makeReport 26 = .ok (.bipush 48, 2) := by decide +kernel
theorem dX12_makeReport_28 : decode cX12_makeReport 28 = .ok (.aload_n 0, 1) := by decide +kernel
theorem dX12_makeReport_29 : decode cX12_makeReport 29 = .ok (.getfield 175, 3) := by decide +kernel
theorem dX12_makeReport_32 : decode cX12_makeReport 32 = .ok (.iadd, 1) := by decide +kernel
theorem dX12_makeReport_33 : decode cX12_makeReport 33 = .ok (.sipush 130, 3) := by decide +kernel
theorem dX12_makeReport_36 : decode cX12_makeReport 36 = .ok (.invokevirtual 160, 3) := by decide +kernel
theorem dX12_makeReport_39 : decode cX12_makeReport 39 = .ok (.aload_n 0, 1) := by decide +kernel
theorem dX12_makeReport_40 : decode cX12_makeReport 40 = .ok (.iconst 0, 1) := by decide +kernel
theorem dX12_makeReport_41 : decode cX12_makeReport 41 = .ok (.invokevirtual 144, 3) := by decide +kernel
theorem dX12_makeReport_44 : decode cX12_makeReport 44 = .ok (.aload_n 0, 1) := by decide +kernel
theorem dX12_makeReport_45 : decode cX12_makeReport 45 = .ok (.iconst 0, 1) := by decide +kernel
theorem dX12_makeReport_46 : decode cX12_makeReport 46 = .ok (.invokevirtual 144, 3) := by decide +kernel
theorem dX12_makeReport_49 : decode cX12_makeReport 49 = .ok (.bipush 16, 2) := by decide +kernel
theorem dX12_makeReport_51 : decode cX12_makeReport 51 = .ok (.istore_n 1, 1) := by decide +kernel
theorem dX12_makeReport_52 : decode cX12_makeReport 52 = .ok (.iconst 1, 1) := by decide +kernel
theorem dX12_makeReport_53 : decode cX12_makeReport 53 = .ok (.istore_n 2, 1) := by decide +kernel
theorem dX12_makeReport_54 : decode cX12_makeReport 54 = .ok (.iload_n 2, 1) := by decide +kernel
theorem dX12_makeReport_55 : decode cX12_makeReport 55 = .ok (.iconst 4, 1) := by decide +kernel
theorem dX12_makeReport_56 : decode cX12_makeReport 56 = .ok (.if_icmp .ge 18, 3) := by decide +kernel
theorem dX12_makeReport_59 : decode cX12_makeReport 59 = .ok (.iload_n 1, 1) := by decide +kernel
theorem dX12_makeReport_60 : decode cX12_makeReport 60 = .ok (.aload_n 0, 1) := by decide +kernel
theorem dX12_makeReport_61 : decode cX12_makeReport 61 = .ok (.iload_n 2, 1) := by decide +kernel
theorem dX12_makeReport_62 : decode cX12_makeReport 62 = .ok (.iload_n 1, 1) := by decide +kernel
theorem dX12_makeReport_63 : decode cX12_makeReport 63 = .ok (.invokevirtual 169, 3) := by decide +kernel
theorem dX12_makeReport_66 : decode cX12_makeReport 66 = .ok (.isub, 1) := by decide +kernel
theorem dX12_makeReport_67 : decode cX12_makeReport 67 = .ok (.istore_n 1, 1) := by decide +kernel
theorem dX12_makeReport_68 : decode cX12_makeReport 68 = .ok (.iinc 2 1, 3) := by decide +kernel
theorem dX12_makeReport_71 : decode cX12_makeReport 71 = .ok (.goto (-17), 3) := by decide +kernel
theorem dX12_makeReport_74 : decode cX12_makeReport 74 = .ok (.aload_n 0, 1) := by decide +kernel
theorem dX12_makeReport_75 : decode cX12_makeReport 75 = .ok (.invokevirtual 172, 3) := by decide +kernel
theorem dX12_makeReport_78 : decode cX12_makeReport 78 = .ok (.aload_n 0, 1) := by decide +kernel
theorem dX12_makeReport_79 : decode cX12_makeReport 79 = .ok (.iconst 2, 1) := by decide +kernel
theorem dX12_makeReport_80 : decode cX12_makeReport 80 = .ok (.putfield 147, 3) := by decide +kernel
theorem dX12_makeReport_83 : decode cX12_makeReport 83 = .ok (.aload_n 0, 1) := by decide +kernel
theorem dX12_makeReport_84 : decode cX12_makeReport 84 = .ok (.aload_n 0, 1) := by decide +kernel
theorem dX12_makeReport_85 : decode cX12_makeReport 85 = .ok (.getfield 196, 3) := by decide +kernel
theorem dX12_makeReport_88 : decode cX12_makeReport 88 = .ok (.putfield 199, 3) := by decide +kernel
theorem dX12_makeReport_91 : decode cX12_makeReport 91 = .ok (.aload_n 0, 1) := by decide +kernel
theorem dX12_makeReport_92 : decode cX12_makeReport 92 = .ok (.iconst 0, 1) := by decide +kernel
theorem dX12_makeReport_93 : decode cX12_makeReport 93 = .ok (.putfield 202, 3) := by decide +kernel
theorem dX12_makeReport_96 : decode cX12_makeReport 96 = .ok (.aload_n 0, 1) := by decide +kernel
theorem dX12_makeReport_97 : decode cX12_makeReport 97 = .ok (.aload_n 0, 1) := by decide +kernel
theorem dX12_makeReport_98 : decode cX12_makeReport 98 = .ok (.getfield 104, 3) := by decide +kernel
theorem dX12_makeReport_101 : decode cX12_makeReport 101 = .ok (.putfield 205, 3) := by decide +kernel
theorem dX12_makeReport_104 : decode cX12_makeReport 104 = .ok (.iconst 0, 1) := by decide +kernel
theorem dX12_makeReport_105 : decode cX12_makeReport 105 = .ok (.istore_n 2, 1) := by decide +kernel
theorem dX12_makeReport_106 : decode cX12_makeReport 106 = .ok (.iload_n 2, 1) := by decide +kernel
theorem dX12_makeReport_107 : decode cX12_makeReport 107 = .ok (.aload_n 0, 1) := by decide +kernel
theorem dX12_makeReport_108 : decode cX12_makeReport 108 = .ok (.getfield 104, 3) := by decide +kernel
theorem dX12_makeReport_111 : decode cX12_makeReport 111 = .ok (.if_icmp .ge 21, 3) := by decide +kernel
theorem dX12_makeReport_114 : decode cX12_makeReport 114 = .ok (.aload_n 0, 1) := by decide +kernel
theorem dX12_makeReport_115 : decode cX12_makeReport 115 = .ok (.getfield 35, 3) := by decide +kernel
theorem dX12_makeReport_118 : decode cX12_makeReport 118 = .ok (.iload_n 2, 1) := by decide +kernel
theorem dX12_makeReport_119 : decode cX12_makeReport 119 = .ok (.aload_n 0, 1) := by decide +kernel
theorem dX12_makeReport_120 : decode cX12_makeReport 120 = .ok (.getfield 75, 3) := by decide +kernel
theorem dX12_makeReport_123 : decode cX12_makeReport 123 = .ok (.iload_n 2, 1) := by decide +kernel
theorem dX12_makeReport_124 : decode cX12_makeReport 124 = .ok (.iaload, 1) := by decide +kernel
theorem dX12_makeReport_125 : decode cX12_makeReport 125 = .ok (.iastore, 1) := by decide +kernel
theorem dX12_makeReport_126 : decode cX12_makeReport 126 = .ok (.iinc 2 1, 3) := by decide +kernel
theorem dX12_makeReport_129 : decode cX12_makeReport 129 = .ok (.goto (-23), 3) := by decide +kernel
theorem dX12_makeReport_132 : decode cX12_makeReport 132 = .ok (.aload_n 0, 1) := by decide +kernel
theorem dX12_makeReport_133 : decode cX12_makeReport 133 = .ok (.iconst 0, 1) := by decide +kernel
theorem dX12_makeReport_134 : decode cX12_makeReport 134 = .ok (.invokevirtual 178, 3) := by decide +kernel
theorem dX12_makeReport_137 : decode cX12_makeReport 137 = .ok (.return_, 1) := by decide +kernel
set_option maxRecDepth 20000 in
theorem ggX12_sendAgain_X12_send : GoodIn wsX12_sendAgain wsX12_send := goodIn_r _ [12, 2, 13, 14, 15, 11, 16, 17, 18, 19, 20, 3, 21, 22, 23, 24, 25, 26, 27, 28, 29, 30, 31, 32, 33, 34, 35, 36, 37, 38, 39, 40, 41, 42, 43, 44, 45, 46, 47, 48, 49, 50, 51, 52, 53, 54, 55, 56, 57, 58, 59, 60, 61, 62, 63, 64, 65, 66, 67, 68, 69, 70, 71, 72, 73, 74, 75, 76, 77, 78, 79, 80, 81, 82, 83, 84, 85, 86] (by decide +kernel) (by decide +kernel)
set_option maxRecDepth 20000 in
theorem gX12_sendAgain_X12_send : GoodIn wsX12_sendAgain (wsV RX12 178 RX12 yX12_send wsX12_send) := goodIn_app (goodIn_of _ (by decide +kernel)) ggX12_sendAgain_X12_send
theorem dX12_sendAgain_0 : decode cX12_sendAgain 0 = .ok (.aload_n 0, 1) := by decide +kernel
theorem dX12_sendAgain_1 : decode cX12_sendAgain 1 = .ok (.aload_n 0, 1) := by decide +kernel
theorem dX12_sendAgain_2 : decode cX12_sendAgain 2 = .ok (.getfield 205, 3) := by decide +kernel
theorem dX12_sendAgain_5 : decode cX12_sendAgain 5 = .ok (.putfield 104, 3) := by decide +kernel
theorem dX12_sendAgain_8 : decode cX12_sendAgain 8 = .ok (.iconst 0, 1) := by decide +kernel
theorem dX12_sendAgain_9 : decode cX12_sendAgain 9 = .ok (.istore_n 1, 1) := by decide +kernel
theorem dX12_sendAgain_10 : decode cX12_sendAgain 10 = .ok (.iload_n 1, 1) := by decide +kernel
theorem dX12_sendAgain_11 : decode cX12_sendAgain 11 = .ok (.aload_n 0, 1) := by decide +kernel
theorem dX12_sendAgain_12 : decode cX12_sendAgain 12 = .ok (.getfield 104, 3) := by decide +kernel
theorem dX12_sendAgain_15 : decode cX12_sendAgain 15 = .ok (.if_icmp .ge 21, 3) := by decide +kernel
theorem dX12_sendAgain_18 : decode cX12_sendAgain 18 = .ok (.aload_n 0, 1) := by decide +kernel
theorem dX12_sendAgain_19 : decode cX12_sendAgain 19 = .ok (.getfield 75, 3) := by decide +kernel
theorem dX12_sendAgain_22 : decode cX12_sendAgain 22 = .ok (.iload_n 1, 1) := by decide +kernel
theorem dX12_sendAgain_23 : decode cX12_sendAgain 23 = .ok (.aload_n 0, 1) := by decide +kernel
theorem dX12_sendAgain_24 : decode cX12_sendAgain 24 = .ok (.getfield 35, 3) := by decide +kernel
theorem dX12_sendAgain_27 : decode cX12_sendAgain 27 = .ok (.iload_n 1, 1) := by decide +kernel
theorem dX12_sendAgain_28 : decode cX12_sendAgain 28 = .ok (.iaload, 1) := by decide +kernel
theorem dX12_sendAgain_29 : decode cX12_sendAgain 29 = .ok (.iastore, 1) := by decide +kernel
theorem dX12_sendAgain_30 : decode cX12_sendAgain 30 = .ok (.iinc 1 1, 3) := by decide +kernel
theorem dX12_sendAgain_33 : decode cX12_sendAgain 33 = .ok (.goto (-23), 3) := by decide +kernel
theorem dX12_sendAgain_36 : decode cX12_sendAgain 36 = .ok (.aload_n 0, 1) := by decide +kernel
theorem dX12_sendAgain_37 : decode cX12_sendAgain 37 = .ok (.aload_n 0, 1) := by decide +kernel
theorem dX12_sendAgain_38 : decode cX12_sendAgain 38 = .ok (.getfield 196, 3) := by decide +kernel
theorem dX12_sendAgain_41 : decode cX12_sendAgain 41 = .ok (.putfield 199, 3) := by decide +kernel
theorem dX12_sendAgain_44 : decode cX12_sendAgain 44 = .ok (.aload_n 0, 1) := by decide +kernel
theorem dX12_sendAgain_45 : decode cX12_sendAgain 45 = .ok (.dup, 1) := by decide +kernel
theorem dX12_sendAgain_46 : decode cX12_sendAgain 46 = .ok (.getfield 202, 3) := by decide +kernel
theorem dX12_sendAgain_49 : decode cX12_sendAgain 49 = .ok (.iconst 1, 1) := by decide +kernel
theorem dX12_sendAgain_50 : decode cX12_sendAgain 50 = .ok (.iadd, 1) := by decide +kernel
