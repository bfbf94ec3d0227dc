theorem dX12_sendAgain_51 : decode cX12_sendAgain 51 = .ok (.putfield 202, 3) := by decide +kernel
theorem dX12_sendAgain_54 : decode cX12_sendAgain 54 = .ok (.aload_n 0, 1) := by decide +kernel
theorem dX12_sendAgain_55 : decode cX12_sendAgain 55 = .ok (.iconst 0, 1) := by decide +kernel
theorem dX12_sendAgain_56 : decode cX12_sendAgain 56 = .ok (.invokevirtual 178, 3) := by decide +kernel
theorem dX12_sendAgain_59 : decode cX12_sendAgain 59 = .ok (.return_, 1) := by decide +kernel
set_option maxRecDepth 20000 in
theorem ggX12_tick_X12_sendAgain : GoodIn wsX12_tick wsX12_sendAgain := goodIn_r _ [10, 11, 12, 13, 14, 1, 3, 4, 15, 16, 17, 9, 18, 19, 20, 21, 22, 23, 24, 25, 26, 27, 28, 29, 30, 31, 32, 33, 34, 35, 36, 37, 38, 39, 40, 41, 42, 43, 44, 45, 86, 87, 88, 89, 90, 91, 92, 93, 94, 95, 96, 97, 98, 99, 100, 101, 102, 103, 104, 105, 106, 107, 108, 109, 110, 111, 112, 113, 114, 115, 116, 117, 118, 119, 120, 121, 122, 123, 124, 125, 126, 127, 128, 129, 130, 131, 132] (by decide +kernel) (by decide +kernel)
set_option maxRecDepth 20000 in
theorem gX12_tick_X12_sendAgain : GoodIn wsX12_tick (wsV RX12 208 RX12 yX12_sendAgain wsX12_sendAgain) := goodIn_app (goodIn_of _ (by decide +kernel)) ggX12_tick_X12_sendAgain
set_option maxRecDepth 20000 in
theorem ggX12_tick_X12_noneWaits : GoodIn wsX12_tick wsX12_noneWaits := goodIn_r _ [49, 2, 50, 86, 87, 88, 89, 90, 91, 92, 93, 94, 95, 96, 97, 98, 99, 100, 101, 102, 103, 104, 105, 106, 107, 108, 109, 110, 111, 112, 113, 114, 115, 116, 117, 118, 119, 120, 121, 122, 123, 124, 125, 126, 127, 128, 129, 130, 131, 132] (by decide +kernel) (by decide +kernel)
set_option maxRecDepth 20000 in
theorem gX12_tick_X12_noneWaits : GoodIn wsX12_tick (wsV RX12 157 RX12 yX12_noneWaits wsX12_noneWaits) := goodIn_app (goodIn_of _ (by decide +kernel)) ggX12_tick_X12_noneWaits
set_option maxRecDepth 20000 in
theorem ggX12_tick_X12_hasEvents : GoodIn wsX12_tick wsX12_hasEvents := goodIn_r _ [54, 55, 86, 87, 88, 89, 90, 91, 92, 93, 94, 95, 96, 97, 98, 99, 100, 101, 102, 103, 104, 105, 106, 107, 108, 109, 110, 111, 112, 113, 114, 115, 116, 117, 118, 119, 120, 121, 122, 123, 124, 125, 126, 127, 128, 129, 130, 131, 132] (by decide +kernel) (by decide +kernel)
set_option maxRecDepth 20000 in
theorem gX12_tick_X12_hasEvents : GoodIn wsX12_tick (wsV RX12 214 RX12 yX12_hasEvents wsX12_hasEvents) := goodIn_app (goodIn_of _ (by decide +kernel)) ggX12_tick_X12_hasEvents
set_option maxRecDepth 20000 in
theorem ggX12_tick_X12_makeReport : GoodIn wsX12_tick wsX12_makeReport := goodIn_r _ [59, 60, 61, 2, 1, 3, 4, 12, 11, 14, 13, 46, 47, 48, 9, 49, 50, 62, 63, 64, 65, 66, 67, 68, 69, 70, 71, 72, 73, 55, 74, 75, 76, 77, 78, 79, 80, 81, 82, 83, 84, 85, 15, 16, 17, 18, 19, 20, 21, 22, 23, 24, 25, 26, 27, 28, 29, 30, 31, 32, 33, 34, 35, 36, 37, 38, 39, 40, 41, 42, 43, 44, 45, 86, 87, 88, 89, 90, 91, 92, 93, 94, 95, 96, 97, 98, 99, 100, 101, 102, 103, 104, 105, 106, 107, 108, 109, 110, 111, 112, 113, 114, 115, 116, 117, 118, 119, 120, 121, 122, 123, 124, 125, 126, 127, 128, 129, 130, 131, 132] (by decide +kernel) (by decide +kernel)
set_option maxRecDepth 20000 in
theorem gX12_tick_X12_makeReport : GoodIn wsX12_tick (wsV RX12 217 RX12 yX12_makeReport wsX12_makeReport) := goodIn_app (goodIn_of _ (by decide +kernel)) ggX12_tick_X12_makeReport
theorem dX12_tick_0 : decode cX12_tick 0 = .ok (.aload_n 0, 1) := by decide +kernel
theorem dX12_tick_1 : decode cX12_tick 1 = .ok (.dup, 1) := by decide +kernel
theorem dX12_tick_2 : decode cX12_tick 2 = .ok (.getfield 196, 3) := by decide +kernel
theorem dX12_tick_5 : decode cX12_tick 5 = .ok (.iconst 1, 1) := by decide +kernel
theorem dX12_tick_6 : decode cX12_tick 6 = .ok (.iadd, 1) := by decide +kernel
theorem dX12_tick_7 : decode cX12_tick 7 = .ok (.putfield 196, 3) := by decide +kernel
theorem dX12_tick_10 : decode cX12_tick 10 = .ok (.aload_n 0, 1) := by decide +kernel
theorem dX12_tick_11 : decode cX12_tick 11 = .ok (.getfield 147, 3) := by decide +kernel
theorem dX12_tick_14 : decode cX12_tick 14 = .ok (.iconst 2, 1) := by decide +kernel
theorem dX12_tick_15 : decode cX12_tick 15 = .ok (.if_icmp .ne 38, 3) := by decide +kernel
theorem dX12_tick_18 : decode cX12_tick 18 = .ok (.aload_n 0, 1) := by decide +kernel
theorem dX12_tick_19 : decode cX12_tick 19 = .ok (.getfield 196, 3) := by decide +kernel
theorem dX12_tick_22 : decode cX12_tick 22 = .ok (.aload_n 0, 1) := by decide +kernel
theorem dX12_tick_23 : decode cX12_tick 23 = .ok (.getfield 199, 3) := by decide +kernel
theorem dX12_tick_26 : decode cX12_tick 26 = .ok (.isub, 1) := by decide +kernel
theorem dX12_tick_27 : decode cX12_tick 27 = .ok (.iconst 5, 1) := by decide +kernel
theorem dX12_tick_28 : decode cX12_tick 28 = .ok (.if_icmp .ne 43, 3) := by decide +kernel
theorem dX12_tick_31 : decode cX12_tick 31 = .ok (.aload_n 0, 1) := by decide +kernel
theorem dX12_tick_32 : decode cX12_tick 32 = .ok (.getfield 202, 3) := by decide +kernel
theorem dX12_tick_35 : decode cX12_tick 35 = .ok (.iconst 3, 1) := by decide +kernel
theorem dX12_tick_36 : decode cX12_tick 36 = .ok (.if_icmp .ge 10, 3) := by decide +kernel
theorem dX12_tick_39 : decode cX12_tick 39 = .ok (.aload_n 0, 1) := by decide +kernel
theorem dX12_tick_40 : decode cX12_tick 40 = .ok (.invokevirtual 208, 3) := by decide +kernel
theorem dX12_tick_43 : decode cX12_tick 43 = .ok (.goto 28, 3) := by decide +kernel
theorem dX12_tick_46 : decode cX12_tick 46 = .ok (.aload_n 0, 1) := by decide +kernel
theorem dX12_tick_47 : decode cX12_tick 47 = .ok (.invokevirtual 157, 3) := by decide +kernel
theorem dX12_tick_50 : decode cX12_tick 50 = .ok (.goto 21, 3) := by decide +kernel
theorem dX12_tick_53 : decode cX12_tick 53 = .ok (.aload_n 0, 1) := by decide +kernel
theorem dX12_tick_54 : decode cX12_tick 54 = .ok (.getfield 211, 3) := by decide +kernel
theorem dX12_tick_57 : decode cX12_tick 57 = .ok (.ifCond .eq 14, 3) := by decide +kernel
theorem dX12_tick_60 : decode cX12_tick 60 = .ok (.aload_n 0, 1) := by decide +kernel
theorem dX12_tick_61 : decode cX12_tick 61 = .ok (.invokevirtual 214, 3) := by decide +kernel
theorem dX12_tick_64 : decode cX12_tick 64 = .ok (.ifCond .eq 7, 3) := by decide +kernel
theorem dX12_tick_67 : decode cX12_tick 67 = .ok (.aload_n 0, 1) := by decide +kernel
theorem dX12_tick_68 : decode cX12_tick 68 = .ok (.invokevirtual 217, 3) := by decide +kernel
theorem dX12_tick_71 : decode cX12_tick 71 = .ok (.aload_n 0, 1) := by decide +kernel
theorem dX12_tick_72 : decode cX12_tick 72 = .ok (.getfield 196, 3) := by decide +kernel
theorem dX12_tick_75 : decode cX12_tick 75 = .ok (.ireturn, 1) := by decide +kernel
set_option maxRecDepth 20000 in
theorem ggX12_kind_X12_isPoint : GoodIn wsX12_kind wsX12_isPoint := goodIn_r _ [5] (by decide +kernel) (by decide +kernel)
set_option maxRecDepth 20000 in
theorem gX12_kind_X12_isPoint : GoodIn wsX12_kind (va_wsS RX12 220 yX12_isPoint wsX12_isPoint) := goodIn_app (goodIn_of _ (by decide +kernel)) ggX12_kind_X12_isPoint
theorem dX12_kind_0 : decode cX12_kind 0 = .ok (.iload_n 1, 1) := by decide +kernel
theorem dX12_kind_1 : decode cX12_kind 1 = .ok (.invokestatic 220, 3) := by decide +kernel
theorem dX12_kind_4 : decode cX12_kind 4 = .ok (.ifCond .eq 12, 3) := by decide +kernel
theorem dX12_kind_7 : decode cX12_kind 7 = .ok (.iload_n 2, 1) := by decide +kernel
theorem dX12_kind_8 : decode cX12_kind 8 = .ok (.ifCond .lt 8, 3) := by decide +kernel
theorem dX12_kind_11 : decode cX12_kind 11 = .ok (.iload_n 2, 1) := by decide +kernel
theorem dX12_kind_12 : decode cX12_kind 12 = .ok (.iconst 3, 1) := by decide +kernel
theorem dX12_kind_13 : decode cX12_kind 13 = .ok (.if_icmp .le 5, 3) := by decide +kernel
theorem dX12_kind_16 : decode cX12_kind 16 = .ok (.iconst 0, 1) := by decide +kernel
theorem dX12_kind_17 : decode cX12_kind 17 = .ok (.ireturn, 1) := by decide +kernel
theorem dX12_kind_18 : decode cX12_kind 18 = .ok (.aload_n 0, 1) := by decide +kernel
theorem dX12_kind_19 : decode cX12_kind 19 = .ok (.getfield 7, 3) := by decide +kernel
theorem dX12_kind_22 : decode cX12_kind 22 = .ok (.iload_n 1, 1) := by decide +kernel
theorem dX12_kind_23 : decode cX12_kind 23 = .ok (.iload_n 2, 1) := by decide +kernel
theorem dX12_kind_24 : decode cX12_kind 24 = .ok (.iastore, 1) := by decide +kernel
theorem dX12_kind_25 : decode cX12_kind 25 = .ok (.iconst 1, 1) := by decide +kernel
theorem dX12_kind_26 : decode cX12_kind 26 = .ok (.ireturn, 1) := by decide +kernel
set_option maxRecDepth 20000 in
theorem ggX12_change_X12_isPoint : GoodIn wsX12_change wsX12_isPoint := goodIn_r _ [16] (by decide +kernel) (by decide +kernel)
set_option maxRecDepth 20000 in
theorem gX12_change_X12_isPoint : GoodIn wsX12_change (va_wsS RX12 220 yX12_isPoint wsX12_isPoint) := goodIn_app (goodIn_of _ (by decide +kernel)) ggX12_change_X12_isPoint
set_option maxRecDepth 20000 in
theorem ggX12_change_X12_moveEvent : GoodIn wsX12_change wsX12_moveEvent := goodIn_r _ [20, 9, 10, 11, 12, 21, 22, 23, 24, 25, 26, 27, 28, 29, 30, 31, 32, 33, 34, 35, 36, 37, 38, 39, 40, 41, 42, 43, 44, 45, 46, 47, 48, 49, 50, 51, 52, 53, 54, 55, 56, 57, 58, 59, 60, 61, 62, 63, 64, 65, 66, 67] (by decide +kernel) (by decide +kernel)
set_option maxRecDepth 20000 in
theorem gX12_change_X12_moveEvent : GoodIn wsX12_change (wsV RX12 181 RX12 yX12_moveEvent wsX12_moveEvent) := goodIn_app (goodIn_of _ (by decide +kernel)) ggX12_change_X12_moveEvent
theorem dX12_change_0 : decode cX12_change 0 = .ok (.iload_n 1, 1) := by decide +kernel
theorem dX12_change_1 : decode cX12_change 1 = .ok (.invokestatic 220, 3) := by decide +kernel
theorem dX12_change_4 : decode cX12_change 4 = .ok (.ifCond .eq 26, 3) := by decide +kernel
theorem dX12_change_7 : decode cX12_change 7 = .ok (.iload_n 2, 1) := by decide +kernel
theorem dX12_change_8 : decode cX12_change 8 = .ok (.ifCond .lt 22, 3) := by decide +kernel
theorem dX12_change_11 : decode cX12_change 11 = .ok (.iload_n 2, 1) := by decide +kernel
theorem dX12_change_12 : decode cX12_change 12 = .ok (.ldc 88, 2) := by decide +kernel
theorem dX12_change_14 : decode cX12_change 14 = .ok (.if_icmp .gt 16, 3) := by decide +kernel
theorem dX12_change_17 : decode cX12_change 17 = .ok (.aload_n 0, 1) := by decide +kernel
theorem dX12_change_18 : decode cX12_change 18 = .ok (.getfield 16, 3) := by decide +kernel
theorem dX12_change_21 : decode cX12_change 21 = .ok (.iload_n 1, 1) := by decide +kernel
theorem dX12_change_22 : decode cX12_change 22 = .ok (.iaload, 1) := by decide +kernel
theorem dX12_change_23 : decode cX12_change 23 = .ok (.aload_n 0, 1) := by decide +kernel
theorem dX12_change_24 : decode cX12_change 24 = .ok (.getfield 196, 3) := by decide +kernel
theorem dX12_change_27 : decode cX12_change 27 = .ok (.if_icmp .ne 5, 3) := by decide +kernel
theorem dX12_change_30 : decode cX12_change 30 = .ok (.iconst 0, 1) := by decide +kernel
theorem dX12_change_31 : decode cX12_change 31 = .ok (.ireturn, 1) := by decide +kernel
theorem dX12_change_32 : decode cX12_change 32 = .ok (.aload_n 0, 1) := by decide +kernel
theorem dX12_change_33 : decode cX12_change 33 = .ok (.getfield 16, 3) := by decide +kernel
theorem dX12_change_36 : decode cX12_change 36 = .ok (.iload_n 1, 1) := by decide +kernel
theorem dX12_change_37 : decode cX12_change 37 = .ok (.aload_n 0, 1) := by decide +kernel
theorem dX12_change_38 : decode cX12_change 38 = .ok (.getfield 196, 3) := by decide +kernel
theorem dX12_change_41 : decode cX12_change 41 = .ok (.iastore, 1) := by decide +kernel
theorem dX12_change_42 : decode cX12_change 42 = .ok (.aload_n 0, 1) := by decide +kernel
theorem dX12_change_43 : decode cX12_change 43 = .ok (.getfield 13, 3) := by decide +kernel
theorem dX12_change_46 : decode cX12_change 46 = .ok (.iload_n 1, 1) := by decide +kernel
theorem dX12_change_47 : decode cX12_change 47 = .ok (.iload_n 2, 1) := by decide +kernel
theorem dX12_change_48 : decode cX12_change 48 = .ok (.iastore, 1) := by decide +kernel
theorem dX12_change_49 : decode cX12_change 49 = .ok (.aload_n 0, 1) := by decide +kernel
theorem dX12_change_50 : decode cX12_change 50 = .ok (.getfield 7, 3) := by decide +kernel
theorem dX12_change_53 : decode cX12_change 53 = .ok (.iload_n 1, 1) := by decide +kernel
theorem dX12_change_54 : decode cX12_change 54 = .ok (.iaload, 1) := by decide +kernel
theorem dX12_change_55 : decode cX12_change 55 = .ok (.istore_n 3, 1) := by decide +kernel
theorem dX12_change_56 : decode cX12_change 56 = .ok (.iload_n 3, 1) := by decide +kernel
theorem dX12_change_57 : decode cX12_change 57 = .ok (.ifCond .le 133, 3) := by decide +kernel
theorem dX12_change_60 : decode cX12_change 60 = .ok (.aload_n 0, 1) := by decide +kernel
theorem dX12_change_61 : decode cX12_change 61 = .ok (.getfield 19, 3) := by decide +kernel
theorem dX12_change_64 : decode cX12_change 64 = .ok (.iload_n 3, 1) := by decide +kernel
theorem dX12_change_65 : decode cX12_change 65 = .ok (.iaload, 1) := by decide +kernel
theorem dX12_change_66 : decode cX12_change 66 = .ok (.bipush 8, 2) := by decide +kernel
theorem dX12_change_68 : decode cX12_change 68 = .ok (.if_icmp .ne 64, 3) := by decide +kernel
theorem dX12_change_71 : decode cX12_change 71 = .ok (.bipush 8, 2) := by decide +kernel
theorem dX12_change_73 : decode cX12_change 73 = .ok (.iload_n 3, 1) := by decide +kernel
theorem dX12_change_74 : decode cX12_change 74 = .ok (.imul, 1) := by decide +kernel
theorem dX12_change_75 : decode cX12_change 75 = .ok (.istore 4, 2) := by decide +kernel
theorem dX12_change_77 : decode cX12_change 77 = .ok (.iload 4, 2) := by decide +kernel
theorem dX12_change_79 : decode cX12_change 79 = .ok (.bipush 8, 2) := by decide +kernel
theorem dX12_change_81 : decode cX12_change 81 = .ok (.iload_n 3, 1) := by decide +kernel
theorem dX12_change_82 : decode cX12_change 82 = .ok (.imul, 1) := by decide +kernel
theorem dX12_change_83 : decode cX12_change 83 = .ok (.bipush 8, 2) := by decide +kernel
theorem dX12_change_85 : decode cX12_change 85 = .ok (.iadd, 1) := by decide +kernel
theorem dX12_change_86 : decode cX12_change 86 = .ok (.iconst 1, 1) := by decide +kernel
theorem dX12_change_87 : decode cX12_change 87 = .ok (.isub, 1) := by decide +kernel
theorem dX12_change_88 : decode cX12_change 88 = .ok (.if_icmp .ge 19, 3) := by decide +kernel
theorem dX12_change_91 : decode cX12_change 91 = .ok (.aload_n 0, 1) := by decide +kernel
theorem dX12_change_92 : decode cX12_change 92 = .ok (.iload 4, 2) := by decide +kernel
theorem dX12_change_94 : decode cX12_change 94 = .ok (.iload 4, 2) := by decide +kernel
theorem dX12_change_96 : decode cX12_change 96 = .ok (.iconst 1, 1) := by decide +kernel
theorem dX12_change_97 : decode cX12_change 97 = .ok (.iadd, 1) := by decide +kernel
theorem dX12_change_98 : decode cX12_change 98 = .ok (.invokevirtual 181, 3) := by decide +kernel
theorem dX12_change_101 : decode cX12_change 101 = .ok (.iinc 4 1, 3) := by decide +kernel
theorem dX12_change_104 : decode cX12_change 104 = .ok (.goto (-27), 3) := by decide +kernel
theorem dX12_change_107 : decode cX12_change 107 = .ok (.aload_n 0, 1) := by decide +kernel
theorem dX12_change_108 : decode cX12_change 108 = .ok (.getfield 19, 3) := by decide +kernel
theorem dX12_change_111 : decode cX12_change 111 = .ok (.iload_n 3, 1) := by decide +kernel
theorem dX12_change_112 : decode cX12_change 112 = .ok (.dup2, 1) := by decide +kernel
theorem dX12_change_113 : decode cX12_change 113 = .ok (.iaload, 1) := by decide +kernel
theorem dX12_change_114 : decode cX12_change 114 = .ok (.iconst 1, 1) := by decide +kernel
theorem dX12_change_115 : decode cX12_change 115 = .ok (.isub, 1) := by decide +kernel
theorem dX12_change_116 : decode cX12_change 116 = .ok (.iastore, 1) := by decide +kernel
theorem dX12_change_117 : decode cX12_change 117 = .ok (.aload_n 0, 1) := by decide +kernel
theorem dX12_change_118 : decode cX12_change 118 = .ok (.iconst 1, 1) := by decide +kernel
theorem dX12_change_119 : decode cX12_change 119 = .ok (.putfield 154, 3) := by decide +kernel
theorem dX12_change_122 : decode cX12_change 122 = .ok (.aload_n 0, 1) := by decide +kernel
theorem dX12_change_123 : decode cX12_change 123 = .ok (.dup, 1) := by decide +kernel
theorem dX12_change_124 : decode cX12_change 124 = .ok (.getfield 223, 3) := by decide +kernel
theorem dX12_change_127 : decode cX12_change 127 = .ok (.iconst 1, 1) := by decide +kernel
theorem dX12_change_128 : decode cX12_change 128 = .ok (.iadd, 1) := by decide +kernel
theorem dX12_change_129 : decode cX12_change 129 = .ok (.putfield 223, 3) := by decide +kernel
theorem dX12_change_132 : decode cX12_change 132 = .ok (.bipush 8, 2) := by decide +kernel
theorem dX12_change_134 : decode cX12_change 134 = .ok (.iload_n 3, 1) := by decide +kernel
theorem dX12_change_135 : decode cX12_change 135 = .ok (.imul, 1) := by decide +kernel
theorem dX12_change_136 : decode cX12_change 136 = .ok (.aload_n 0, 1) := by decide +kernel
theorem dX12_change_137 : decode cX12_change 137 = .ok (.getfield 19, 3) := by decide +kernel
theorem dX12_change_140 : decode cX12_change 140 = .ok (.iload_n 3, 1) := by decide +kernel
theorem dX12_change_141 : decode cX12_change 141 = .ok (.iaload, 1) := by decide +kernel
theorem dX12_change_142 : decode cX12_change 142 = .ok (.iadd, 1) := by decide +kernel
theorem dX12_change_143 : decode cX12_change 143 = .ok (.istore 4, 2) := by decide +kernel
theorem dX12_change_145 : decode cX12_change 145 = .ok (.aload_n 0, 1) := by decide +kernel
theorem dX12_change_146 : decode cX12_change 146 = .ok (.getfield 22, 3) := by decide +kernel
theorem dX12_change_149 : decode cX12_change 149 = .ok (.iload 4, 2) := by decide +kernel
theorem dX12_change_151 : decode cX12_change 151 = .ok (.iload_n 1, 1) := by decide +kernel
theorem dX12_change_152 : decode cX12_change 152 = .ok (.iastore, 1) := by decide +kernel
theorem dX12_change_153 : decode cX12_change 153 = .ok (.aload_n 0, 1) := by decide +kernel
theorem dX12_change_154 : decode cX12_change 154 = .ok (.getfield 25, 3) := by decide +kernel
theorem dX12_change_157 : decode cX12_change 157 = .ok (.iload 4, 2) := by decide +kernel
theorem dX12_change_159 : decode cX12_change 159 = .ok (.iload_n 2, 1) := by decide +kernel
theorem dX12_change_160 : decode cX12_change 160 = .ok (.iastore, 1) := by decide +kernel
theorem dX12_change_161 : decode cX12_change 161 = .ok (.aload_n 0, 1) := by decide +kernel
theorem dX12_change_162 : decode cX12_change 162 = .ok (.getfield 28, 3) := by decide +kernel
theorem dX12_change_165 : decode cX12_change 165 = .ok (.iload 4, 2) := by decide +kernel
theorem dX12_change_167 : decode cX12_change 167 = .ok (.aload_n 0, 1) := by decide +kernel
theorem dX12_change_168 : decode cX12_change 168 = .ok (.getfield 196, 3) := by decide +kernel
theorem dX12_change_171 : decode cX12_change 171 = .ok (.iastore, 1) := by decide +kernel
theorem dX12_change_172 : decode cX12_change 172 = .ok (.aload_n 0, 1) := by decide +kernel
theorem dX12_change_173 : decode cX12_change 173 = .ok (.getfield 31, 3) := by decide +kernel
theorem dX12_change_176 : decode cX12_change 176 = .ok (.iload 4, 2) := by decide +kernel
theorem dX12_change_178 : decode cX12_change 178 = .ok (.iconst 0, 1) := by decide +kernel
theorem dX12_change_179 : decode cX12_change 179 = .ok (.bastore, 1) := by decide +kernel
theorem dX12_change_180 : decode cX12_change 180 = .ok (.aload_n 0, 1) := by decide +kernel
theorem dX12_change_181 : decode cX12_change 181 = .ok (.getfield 19, 3) := by decide +kernel
theorem dX12_change_184 : decode cX12_change 184 = .ok (.iload_n 3, 1) := by decide +kernel
theorem dX12_change_185 : decode cX12_change 185 = .ok (.dup2, 1) := by decide +kernel
theorem dX12_change_186 : decode cX12_change 186 = .ok (.iaload, 1) := by decide +kernel
theorem dX12_change_187 : decode cX12_change 187 = .ok (.iconst 1, 1) := by decide +kernel
theorem dX12_change_188 : decode cX12_change 188 = .ok (.iadd, 1) := by decide +kernel
theorem dX12_change_189 : decode cX12_change 189 = .ok (.iastore, 1) := by decide +kernel
theorem dX12_change_190 : decode cX12_change 190 = .ok (.iconst 1, 1) := by decide +kernel
theorem dX12_change_191 : decode cX12_change 191 = .ok (.ireturn, 1) := by decide +kernel
set_option maxRecDepth 20000 in
theorem ggX12_reports_X12_noneWaits : GoodIn wsX12_reports wsX12_noneWaits := goodIn_r _ [7, 2, 8, 9, 10, 11, 12, 13, 14, 15, 16, 17, 18, 19, 20, 21, 22, 23, 24, 25, 26, 27, 28, 29, 30, 31, 32, 33, 34, 35, 36, 37, 38, 39, 40, 41, 42, 43, 44, 45, 46, 47, 48, 49, 50, 51, 52, 53, 54, 55] (by decide +kernel) (by decide +kernel)
set_option maxRecDepth 20000 in
theorem gX12_reports_X12_noneWaits : GoodIn wsX12_reports (wsV RX12 157 RX12 yX12_noneWaits wsX12_noneWaits) := goodIn_app (goodIn_of _ (by decide +kernel)) ggX12_reports_X12_noneWaits
theorem dX12_reports_0 : decode cX12_reports 0 = .ok (.aload_n 0, 1) := by decide +kernel
theorem dX12_reports_1 : decode cX12_reports 1 = .ok (.iload_n 1, 1) := by decide +kernel
theorem dX12_reports_2 : decode cX12_reports 2 = .ok (.putfield 211, 3) := by decide +kernel
theorem dX12_reports_5 : decode cX12_reports 5 = .ok (.iload_n 1, 1) := by decide +kernel
theorem dX12_reports_6 : decode cX12_reports 6 = .ok (.ifCond .ne 15, 3) := by decide +kernel
theorem dX12_reports_9 : decode cX12_reports 9 = .ok (.aload_n 0, 1) := by decide +kernel
theorem dX12_reports_10 : decode cX12_reports 10 = .ok (.getfield 147, 3) := by decide +kernel
theorem dX12_reports_13 : decode cX12_reports 13 = .ok (.iconst 2, 1) := by decide +kernel
theorem dX12_reports_14 : decode cX12_reports 14 = .ok (.if_icmp .ne 7, 3) := by decide +kernel
theorem dX12_reports_17 : decode cX12_reports 17 = .ok (.aload_n 0, 1) := by decide +kernel
theorem dX12_reports_18 : decode cX12_reports 18 = .ok (.invokevirtual 157, 3) := by decide +kernel
theorem dX12_reports_21 : decode cX12_reports 21 = .ok (.return_, 1) := by decide +kernel
set_option maxRecDepth 20000 in
theorem ggX12_poll_X12_begin : GoodIn wsX12_poll wsX12_begin := goodIn_r _ [7, 8, 9, 10, 11, 6, 12, 13, 45, 46, 47, 48, 49, 50, 51, 52, 53, 54, 55, 56, 57, 58, 59, 60, 61, 62, 63, 64, 65, 66, 67, 68, 69, 70, 71, 72, 73, 74, 75, 76, 77, 78, 79, 80, 81, 82, 83, 84, 85, 86, 87, 88, 89, 90, 91] (by decide +kernel) (by decide +kernel)
set_option maxRecDepth 20000 in
theorem gX12_poll_X12_begin : GoodIn wsX12_poll (wsV RX12 160 RX12 yX12_begin wsX12_begin) := goodIn_app (goodIn_of _ (by decide +kernel)) ggX12_poll_X12_begin
set_option maxRecDepth 20000 in
theorem ggX12_poll_X12_put : GoodIn wsX12_poll wsX12_put := goodIn_r _ [12, 13, 8, 45, 46, 47, 48, 49, 50, 51, 52, 53, 54, 55, 56, 57, 58, 59, 60, 61, 62, 63, 64, 65, 66, 67, 68, 69, 70, 71, 72, 73, 74, 75, 76, 77, 78, 79, 80, 81, 82, 83, 84, 85, 86, 87, 88, 89, 90, 91] (by decide +kernel) (by decide +kernel)
set_option maxRecDepth 20000 in
theorem gX12_poll_X12_put : GoodIn wsX12_poll (wsV RX12 144 RX12 yX12_put wsX12_put) := goodIn_app (goodIn_of _ (by decide +kernel)) ggX12_poll_X12_put
set_option maxRecDepth 20000 in
theorem ggX12_poll_X12_send : GoodIn wsX12_poll wsX12_send := goodIn_r _ [17, 8, 18, 19, 20, 6, 21, 22, 23, 24, 25, 13, 26, 27, 28, 29, 30, 31, 32, 33, 34, 35, 36, 37, 38, 39, 40, 41, 42, 43, 44, 45, 46, 47, 48, 49, 50, 51, 52, 53, 54, 55, 56, 57, 58, 59, 60, 61, 62, 63, 64, 65, 66, 67, 68, 69, 70, 71, 72, 73, 74, 75, 76, 77, 78, 79, 80, 81, 82, 83, 84, 85, 86, 87, 88, 89, 90, 91] (by decide +kernel) (by decide +kernel)
set_option maxRecDepth 20000 in
theorem gX12_poll_X12_send : GoodIn wsX12_poll (wsV RX12 178 RX12 yX12_send wsX12_send) := goodIn_app (goodIn_of _ (by decide +kernel)) ggX12_poll_X12_send
theorem dX12_poll_0 : decode cX12_poll 0 = .ok (.iload_n 1, 1) := by decide +kernel
theorem dX12_poll_1 : decode cX12_poll 1 = .ok (.iconst 1, 1) := by decide +kernel
theorem dX12_poll_2 : decode cX12_poll 2 = .ok (.if_icmp .lt 9, 3) := by decide +kernel
theorem dX12_poll_5 : decode cX12_poll 5 = .ok (.iload_n 1, 1) := by decide +kernel
theorem dX12_poll_6 : decode cX12_poll 6 = .ok (.bipush 15, 2) := by decide +kernel
theorem dX12_poll_8 : decode cX12_poll 8 = .ok (.if_icmp .le 5, 3) := by decide +kernel
theorem dX12_poll_11 : decode cX12_poll 11 = .ok (.iconst (-1), 1) := by decide +kernel
theorem dX12_poll_12 : decode cX12_poll 12 = .ok (.ireturn, 1) := by decide +kernel
theorem dX12_poll_13 : decode cX12_poll 13 = .ok (.aload_n 0, 1) := by decide +kernel
theorem dX12_poll_14 : decode cX12_poll 14 = .ok (.getfield 226, 3) := by decide +kernel
theorem dX12_poll_17 : decode cX12_poll 17 = .ok (.bipush 16, 2) := by decide +kernel
theorem dX12_poll_19 : decode cX12_poll 19 = .ok (.irem, 1) := by decide +kernel
theorem dX12_poll_20 : decode cX12_poll 20 = .ok (.istore_n 2, 1) := by decide +kernel
theorem dX12_poll_21 : decode cX12_poll 21 = .ok (.aload_n 0, 1) := by decide +kernel
theorem dX12_poll_22 : decode cX12_poll 22 = .ok (.dup, 1) := by decide +kernel
theorem dX12_poll_23 : decode cX12_poll 23 = .ok (.getfield 226, 3) := by decide +kernel
theorem dX12_poll_26 : decode cX12_poll 26 = .ok (.iconst 1, 1) := by decide +kernel
theorem dX12_poll_27 : decode cX12_poll 27 = .ok (.iadd, 1) := by decide +kernel
theorem dX12_poll_28 : decode cX12_poll 28 = .ok (.putfield 226, 3) := by decide +kernel
theorem dX12_poll_31 : decode cX12_poll 31 = .ok (.aload_n 0, 1) := by decide +kernel
theorem dX12_poll_32 : decode cX12_poll 32 = .ok (.iconst 0, 1) := by decide +kernel
theorem dX12_poll_33 : decode cX12_poll 33 = .ok (.putfield 38, 3) := by decide +kernel
theorem dX12_poll_36 : decode cX12_poll 36 = .ok (.aload_n 0, 1) := by decide +kernel
theorem dX12_poll_37 : decode cX12_poll 37 = .ok (.iload_n 2, 1) := by decide +kernel
theorem dX12_poll_38 : decode cX12_poll 38 = .ok (.iconst 1, 1) := by decide +kernel
theorem dX12_poll_39 : decode cX12_poll 39 = .ok (.invokevirtual 160, 3) := by decide +kernel
theorem dX12_poll_42 : decode cX12_poll 42 = .ok (.iconst 1, 1) := by decide +kernel
theorem dX12_poll_43 : decode cX12_poll 43 = .ok (.istore_n 3, 1) := by decide +kernel
theorem dX12_poll_44 : decode cX12_poll 44 = .ok (.iload_n 3, 1) := by decide +kernel
theorem dX12_poll_45 : decode cX12_poll 45 = .ok (.iconst 4, 1) := by decide +kernel
theorem dX12_poll_46 : decode cX12_poll 46 = .ok (.if_icmp .gt 37, 3) := by decide +kernel
theorem dX12_poll_49 : decode cX12_poll 49 = .ok (.iload_n 1, 1) := by decide +kernel
theorem dX12_poll_50 : decode cX12_poll 50 = .ok (.iload_n 3, 1) := by decide +kernel
theorem dX12_poll_51 : decode cX12_poll 51 = .ok (.iconst 1, 1) := by decide +kernel
theorem dX12_poll_52 : decode cX12_poll 52 = .ok (.isub, 1) := by decide +kernel
theorem dX12_poll_53 : decode cX12_poll 53 = .ok (.ishr, 1) := by decide +kernel
theorem dX12_poll_54 : decode cX12_poll 54 = .ok (.iconst 1, 1) := by decide +kernel
theorem dX12_poll_55 : decode cX12_poll 55 = .ok (.iand, 1) := by decide +kernel
theorem dX12_poll_56 : decode cX12_poll 56 = .ok (.iconst 1, 1) := by decide +kernel
theorem dX12_poll_57 : decode cX12_poll 57 = .ok (.if_icmp .ne 20, 3) := by decide +kernel
theorem dX12_poll_60 : decode cX12_poll 60 = .ok (.aload_n 0, 1) := by decide +kernel
theorem dX12_poll_61 : decode cX12_poll 61 = .ok (.bipush 60, 2) := by decide +kernel
theorem dX12_poll_63 : decode cX12_poll 63 = .ok (.invokevirtual 144, 3) := by decide +kernel
theorem dX12_poll_66 : decode cX12_poll 66 = .ok (.aload_n 0, 1) := by decide +kernel
theorem dX12_poll_67 : decode cX12_poll 67 = .ok (.iload_n 3, 1) := by decide +kernel
theorem dX12_poll_68 : decode cX12_poll 68 = .ok (.invokevirtual 144, 3) := by decide +kernel
theorem dX12_poll_71 : decode cX12_poll 71 = .ok (.aload_n 0, 1) := by decide +kernel
theorem dX12_poll_72 : decode cX12_poll 72 = .ok (.bipush 6, 2) := by decide +kernel
theorem dX12_poll_74 : decode cX12_poll 74 = .ok (.invokevirtual 144, 3) := by decide +kernel
theorem dX12_poll_77 : decode cX12_poll 77 = .ok (.iinc 3 1, 3) := by decide +kernel
