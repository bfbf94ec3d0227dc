theorem dX12_takeEvent_139 : decode cX12_takeEvent 139 = .ok (.iadd, 1) := by decide +kernel
theorem dX12_takeEvent_140 : decode cX12_takeEvent 140 = .ok (.putfield 242, 3) := by decide +kernel
theorem dX12_takeEvent_143 : decode cX12_takeEvent 143 = .ok (.return_, 1) := by decide +kernel
set_option maxRecDepth 100000 in
theorem ggX12_takeGroup_X12_numberAt : GoodIn wsX12_takeGroup wsX12_numberAt := goodIn_r _ [7, 8, 1, 17, 18, 19, 20, 21, 22, 23, 24, 25, 26, 27, 28, 29, 30, 31, 32, 33, 34, 35, 36, 37, 38, 39, 40, 41, 42, 43, 44, 45, 46, 47, 48, 49, 50, 51, 52, 53, 54, 55, 56, 57, 58, 59, 60, 61, 62, 63] rfl (by decide +kernel)
set_option maxRecDepth 20000 in
theorem gX12_takeGroup_X12_numberAt : GoodIn wsX12_takeGroup (wsV RX12 235 RX12 yX12_numberAt wsX12_numberAt) := goodIn_app (goodIn_of _ (by decide +kernel)) ggX12_takeGroup_X12_numberAt
set_option maxRecDepth 100000 in
theorem ggX12_takeGroup_X12_takeEvent : GoodIn wsX12_takeGroup wsX12_takeEvent := goodIn_r _ [12, 1, 13, 14, 2, 15, 16, 3, 4, 5, 6, 7, 8, 17, 18, 19, 20, 21, 22, 23, 24, 25, 26, 27, 28, 29, 30, 31, 32, 33, 34, 35, 36, 37, 38, 39, 40, 41, 42, 43, 44, 45, 46, 47, 48, 49, 50, 51, 52, 53, 54, 55, 56, 57, 58, 59, 60, 61, 62, 63] rfl (by decide +kernel)
set_option maxRecDepth 20000 in
theorem gX12_takeGroup_X12_takeEvent : GoodIn wsX12_takeGroup (wsV RX12 245 RX12 yX12_takeEvent wsX12_takeEvent) := goodIn_app (goodIn_of _ (by decide +kernel)) ggX12_takeGroup_X12_takeEvent
theorem dX12_takeGroup_0 : decode cX12_takeGroup 0 = .ok (.aload_n 0, 1) := by decide +kernel
theorem dX12_takeGroup_1 : decode cX12_takeGroup 1 = .ok (.getfield 78, 3) := by decide +kernel
theorem dX12_takeGroup_4 : decode cX12_takeGroup 4 = .ok (.iload_n 1, 1) := by decide +kernel
theorem dX12_takeGroup_5 : decode cX12_takeGroup 5 = .ok (.iaload, 1) := by decide +kernel
theorem dX12_takeGroup_6 : decode cX12_takeGroup 6 = .ok (.bipush 30, 2) := by decide +kernel
theorem dX12_takeGroup_8 : decode cX12_takeGroup 8 = .ok (.if_icmp .ne 7, 3) := by decide +kernel
theorem dX12_takeGroup_11 : decode cX12_takeGroup 11 = .ok (.iconst 3, 1) := by decide +kernel
theorem dX12_takeGroup_12 : decode cX12_takeGroup 12 = .ok (.goto 5, 3) := by decide +kernel
theorem dX12_takeGroup_15 : decode cX12_takeGroup 15 = .ok (.bipush 7, 2) := by decide +kernel
theorem dX12_takeGroup_17 : decode cX12_takeGroup 17 = .ok (.istore_n 2, 1) := by decide +kernel
theorem dX12_takeGroup_18 : decode cX12_takeGroup 18 = .ok (.iconst 0, 1) := by decide +kernel
theorem dX12_takeGroup_19 : decode cX12_takeGroup 19 = .ok (.istore_n 3, 1) := by decide +kernel
theorem dX12_takeGroup_20 : decode cX12_takeGroup 20 = .ok (.iload_n 3, 1) := by decide +kernel
theorem dX12_takeGroup_21 : decode cX12_takeGroup 21 = .ok (.aload_n 0, 1) := by decide +kernel
theorem dX12_takeGroup_22 : decode cX12_takeGroup 22 = .ok (.getfield 78, 3) := by decide +kernel
theorem dX12_takeGroup_25 : decode cX12_takeGroup 25 = .ok (.iload_n 1, 1) := by decide +kernel
theorem dX12_takeGroup_26 : decode cX12_takeGroup 26 = .ok (.iconst 2, 1) := by decide +kernel
theorem dX12_takeGroup_27 : decode cX12_takeGroup 27 = .ok (.iadd, 1) := by decide +kernel
theorem dX12_takeGroup_28 : decode cX12_takeGroup 28 = .ok (.iaload, 1) := by decide +kernel
theorem dX12_takeGroup_29 : decode cX12_takeGroup 29 = .ok (.if_icmp .ge 62, 3) := by decide +kernel
theorem dX12_takeGroup_32 : decode cX12_takeGroup 32 = .ok (.iload_n 1, 1) := by decide +kernel
theorem dX12_takeGroup_33 : decode cX12_takeGroup 33 = .ok (.iconst 3, 1) := by decide +kernel
theorem dX12_takeGroup_34 : decode cX12_takeGroup 34 = .ok (.iadd, 1) := by decide +kernel
theorem dX12_takeGroup_35 : decode cX12_takeGroup 35 = .ok (.iload_n 2, 1) := by decide +kernel
theorem dX12_takeGroup_36 : decode cX12_takeGroup 36 = .ok (.iload_n 3, 1) := by decide +kernel
theorem dX12_takeGroup_37 : decode cX12_takeGroup 37 = .ok (.imul, 1) := by decide +kernel
theorem dX12_takeGroup_38 : decode cX12_takeGroup 38 = .ok (.iadd, 1) := by decide +kernel
theorem dX12_takeGroup_39 : decode cX12_takeGroup 39 = .ok (.istore 4, 2) := by decide +kernel
theorem dX12_takeGroup_41 : decode cX12_takeGroup 41 = .ok (.iload_n 2, 1) := by decide +kernel
theorem dX12_takeGroup_42 : decode cX12_takeGroup 42 = .ok (.iconst 3, 1) := by decide +kernel
theorem dX12_takeGroup_43 : decode cX12_takeGroup 43 = .ok (.if_icmp .ne 28, 3) := by decide +kernel
theorem dX12_takeGroup_46 : decode cX12_takeGroup 46 = .ok (.aload_n 0, 1) := by decide +kernel
theorem dX12_takeGroup_47 : decode cX12_takeGroup 47 = .ok (.getfield 42, 3) := by decide +kernel
theorem dX12_takeGroup_50 : decode cX12_takeGroup 50 = .ok (.aload_n 0, 1) := by decide +kernel
theorem dX12_takeGroup_51 : decode cX12_takeGroup 51 = .ok (.getfield 78, 3) := by decide +kernel
theorem dX12_takeGroup_54 : decode cX12_takeGroup 54 = .ok (.iload 4, 2) := by decide +kernel
theorem dX12_takeGroup_56 : decode cX12_takeGroup 56 = .ok (.iaload, 1) := by decide +kernel
theorem dX12_takeGroup_57 : decode cX12_takeGroup 57 = .ok (.aload_n 0, 1) := by decide +kernel
theorem dX12_takeGroup_58 : decode cX12_takeGroup 58 = .ok (.iload 4, 2) := by decide +kernel
theorem dX12_takeGroup_60 : decode cX12_takeGroup 60 = .ok (.iconst 1, 1) := by decide +kernel
theorem dX12_takeGroup_61 : decode cX12_takeGroup 61 = .ok (.iadd, 1) := by decide +kernel
theorem dX12_takeGroup_62 : decode cX12_takeGroup 62 = .ok (.iconst 2, 1) := by decide +kernel
theorem dX12_takeGroup_63 : decode cX12_takeGroup 63 = .ok (.invokevirtual 235, 3) := by decide +kernel
theorem dX12_takeGroup_66 : decode cX12_takeGroup 66 = .ok (.l2i, 1) := by decide +kernel
theorem dX12_takeGroup_67 : decode cX12_takeGroup 67 = .ok (.iastore, 1) := by decide +kernel
theorem dX12_takeGroup_68 : decode cX12_takeGroup 68 = .ok (.goto 17, 3) := by decide +kernel
theorem dX12_takeGroup_71 : decode cX12_takeGroup 71 = .ok (.aload_n 0, 1) := by decide +kernel
theorem dX12_takeGroup_72 : decode cX12_takeGroup 72 = .ok (.iload 4, 2) := by decide +kernel
theorem dX12_takeGroup_74 : decode cX12_takeGroup 74 = .ok (.aload_n 0, 1) := by decide +kernel
theorem dX12_takeGroup_75 : decode cX12_takeGroup 75 = .ok (.getfield 78, 3) := by decide +kernel
theorem dX12_takeGroup_78 : decode cX12_takeGroup 78 = .ok (.iload_n 1, 1) := by decide +kernel
theorem dX12_takeGroup_79 : decode cX12_takeGroup 79 = .ok (.iconst 1, 1) := by decide +kernel
theorem dX12_takeGroup_80 : decode cX12_takeGroup 80 = .ok (.iadd, 1) := by decide +kernel
theorem dX12_takeGroup_81 : decode cX12_takeGroup 81 = .ok (.iaload, 1) := by decide +kernel
theorem dX12_takeGroup_82 : decode cX12_takeGroup 82 = .ok (.invokevirtual 245, 3) := by decide +kernel
theorem dX12_takeGroup_85 : decode cX12_takeGroup 85 = .ok (.iinc 3 1, 3) := by decide +kernel
theorem dX12_takeGroup_88 : decode cX12_takeGroup 88 = .ok (.goto (-68), 3) := by decide +kernel
theorem dX12_takeGroup_91 : decode cX12_takeGroup 91 = .ok (.return_, 1) := by decide +kernel
set_option maxRecDepth 100000 in
theorem ggX12_masterTakes_X12_areGroups : GoodIn wsX12_masterTakes wsX12_areGroups := goodIn_r _ [11, 4, 12, 13, 14, 10, 15, 1, 75, 76, 77, 78, 79, 80, 81, 82, 83, 84, 85, 86, 87, 88, 89, 90, 91, 92, 93, 94, 95, 96, 97, 98, 99, 100, 101, 102, 103, 104, 105, 106, 107, 108, 109, 110, 111, 112, 113, 114, 115, 116, 117, 118, 119, 120, 121] rfl (by decide +kernel)
set_option maxRecDepth 20000 in
theorem gX12_masterTakes_X12_areGroups : GoodIn wsX12_masterTakes (wsV RX12 248 RX12 yX12_areGroups wsX12_areGroups) := goodIn_app (goodIn_of _ (by decide +kernel)) ggX12_masterTakes_X12_areGroups
set_option maxRecDepth 100000 in
theorem ggX12_masterTakes_X12_groupAt : GoodIn wsX12_masterTakes wsX12_groupAt := goodIn_r _ [15, 4, 1, 75, 76, 77, 78, 79, 80, 81, 82, 83, 84, 85, 86, 87, 88, 89, 90, 91, 92, 93, 94, 95, 96, 97, 98, 99, 100, 101, 102, 103, 104, 105, 106, 107, 108, 109, 110, 111, 112, 113, 114, 115, 116, 117, 118, 119, 120, 121] rfl (by decide +kernel)
set_option maxRecDepth 20000 in
theorem gX12_masterTakes_X12_groupAt : GoodIn wsX12_masterTakes (wsV RX12 231 RX12 yX12_groupAt wsX12_groupAt) := goodIn_app (goodIn_of _ (by decide +kernel)) ggX12_masterTakes_X12_groupAt
set_option maxRecDepth 100000 in
theorem ggX12_masterTakes_X12_takeGroup : GoodIn wsX12_masterTakes wsX12_takeGroup := goodIn_r _ [19, 1, 20, 21, 22, 23, 10, 24, 25, 26, 27, 28, 29, 30, 31, 32, 33, 75, 76, 77, 78, 79, 80, 81, 82, 83, 84, 85, 86, 87, 88, 89, 90, 91, 92, 93, 94, 95, 96, 97, 98, 99, 100, 101, 102, 103, 104, 105, 106, 107, 108, 109, 110, 111, 112, 113, 114, 115, 116, 117, 118, 119, 120, 121] rfl (by decide +kernel)
set_option maxRecDepth 20000 in
theorem gX12_masterTakes_X12_takeGroup : GoodIn wsX12_masterTakes (wsV RX12 251 RX12 yX12_takeGroup wsX12_takeGroup) := goodIn_app (goodIn_of _ (by decide +kernel)) ggX12_masterTakes_X12_takeGroup
set_option maxRecDepth 100000 in
theorem ggX12_masterTakes_X12_begin : GoodIn wsX12_masterTakes wsX12_begin := goodIn_r _ [37, 38, 39, 40, 41, 10, 42, 43, 75, 76, 77, 78, 79, 80, 81, 82, 83, 84, 85, 86, 87, 88, 89, 90, 91, 92, 93, 94, 95, 96, 97, 98, 99, 100, 101, 102, 103, 104, 105, 106, 107, 108, 109, 110, 111, 112, 113, 114, 115, 116, 117, 118, 119, 120, 121] rfl (by decide +kernel)
set_option maxRecDepth 20000 in
theorem gX12_masterTakes_X12_begin : GoodIn wsX12_masterTakes (wsV RX12 160 RX12 yX12_begin wsX12_begin) := goodIn_app (goodIn_of _ (by decide +kernel)) ggX12_masterTakes_X12_begin
set_option maxRecDepth 100000 in
theorem ggX12_masterTakes_X12_send : GoodIn wsX12_masterTakes wsX12_send := goodIn_r _ [47, 38, 48, 49, 50, 10, 51, 52, 53, 54, 55, 43, 56, 57, 58, 59, 60, 61, 62, 63, 64, 65, 66, 67, 68, 69, 70, 71, 72, 73, 74, 75, 76, 77, 78, 79, 80, 81, 82, 83, 84, 85, 86, 87, 88, 89, 90, 91, 92, 93, 94, 95, 96, 97, 98, 99, 100, 101, 102, 103, 104, 105, 106, 107, 108, 109, 110, 111, 112, 113, 114, 115, 116, 117, 118, 119, 120, 121] rfl (by decide +kernel)
set_option maxRecDepth 20000 in
theorem gX12_masterTakes_X12_send : GoodIn wsX12_masterTakes (wsV RX12 178 RX12 yX12_send wsX12_send) := goodIn_app (goodIn_of _ (by decide +kernel)) ggX12_masterTakes_X12_send
theorem dX12_masterTakes_0 : decode cX12_masterTakes 0 = .ok (.aload_n 0, 1) := by decide +kernel
theorem dX12_masterTakes_1 : decode cX12_masterTakes 1 = .ok (.getfield 78, 3) := by decide +kernel
theorem dX12_masterTakes_4 : decode cX12_masterTakes 4 = .ok (.iconst 0, 1) := by decide +kernel
theorem dX12_masterTakes_5 : decode cX12_masterTakes 5 = .ok (.iaload, 1) := by decide +kernel
theorem dX12_masterTakes_6 : decode cX12_masterTakes 6 = .ok (.bipush 16, 2) := by decide +kernel
theorem dX12_masterTakes_8 : decode cX12_masterTakes 8 = .ok (.iand, 1) := by decide +kernel
theorem dX12_masterTakes_9 : decode cX12_masterTakes 9 = .ok (.ifCond .eq 7, 3) := by decide +kernel
theorem dX12_masterTakes_12 : decode cX12_masterTakes 12 = .ok (.iconst 1, 1) := by decide +kernel
theorem dX12_masterTakes_13 : decode cX12_masterTakes 13 = .ok (.goto 4, 3) := by decide +kernel
theorem dX12_masterTakes_16 : decode cX12_masterTakes 16 = .ok (.iconst 0, 1) := by decide +kernel
theorem dX12_masterTakes_17 : decode cX12_masterTakes 17 = .ok (.istore_n 1, 1) := by decide +kernel
theorem dX12_masterTakes_18 : decode cX12_masterTakes 18 = .ok (.aload_n 0, 1) := by decide +kernel
theorem dX12_masterTakes_19 : decode cX12_masterTakes 19 = .ok (.getfield 78, 3) := by decide +kernel
theorem dX12_masterTakes_22 : decode cX12_masterTakes 22 = .ok (.iconst 1, 1) := by decide +kernel
theorem dX12_masterTakes_23 : decode cX12_masterTakes 23 = .ok (.iaload, 1) := by decide +kernel
theorem dX12_masterTakes_24 : decode cX12_masterTakes 24 = .ok (.sipush 129, 3) := by decide +kernel
theorem dX12_masterTakes_27 : decode cX12_masterTakes 27 = .ok (.if_icmp .ne 39, 3) := by decide +kernel
theorem dX12_masterTakes_30 : decode cX12_masterTakes 30 = .ok (.iload_n 1, 1) := by decide +kernel
theorem dX12_masterTakes_31 : decode cX12_masterTakes 31 = .ok (.ifCond .ne 35, 3) := by decide +kernel
theorem dX12_masterTakes_34 : decode cX12_masterTakes 34 = .ok (.aload_n 0, 1) := by decide +kernel
theorem dX12_masterTakes_35 : decode cX12_masterTakes 35 = .ok (.getfield 38, 3) := by decide +kernel
theorem dX12_masterTakes_38 : decode cX12_masterTakes 38 = .ok (.ifCond .ne 28, 3) := by decide +kernel
theorem dX12_masterTakes_41 : decode cX12_masterTakes 41 = .ok (.aload_n 0, 1) := by decide +kernel
theorem dX12_masterTakes_42 : decode cX12_masterTakes 42 = .ok (.getfield 78, 3) := by decide +kernel
theorem dX12_masterTakes_45 : decode cX12_masterTakes 45 = .ok (.iconst 0, 1) := by decide +kernel
theorem dX12_masterTakes_46 : decode cX12_masterTakes 46 = .ok (.iaload, 1) := by decide +kernel
theorem dX12_masterTakes_47 : decode cX12_masterTakes 47 = .ok (.bipush 15, 2) := by decide +kernel
theorem dX12_masterTakes_49 : decode cX12_masterTakes 49 = .ok (.iand, 1) := by decide +kernel
theorem dX12_masterTakes_50 : decode cX12_masterTakes 50 = .ok (.aload_n 0, 1) := by decide +kernel
theorem dX12_masterTakes_51 : decode cX12_masterTakes 51 = .ok (.getfield 226, 3) := by decide +kernel
theorem dX12_masterTakes_54 : decode cX12_masterTakes 54 = .ok (.iconst 1, 1) := by decide +kernel
theorem dX12_masterTakes_55 : decode cX12_masterTakes 55 = .ok (.isub, 1) := by decide +kernel
theorem dX12_masterTakes_56 : decode cX12_masterTakes 56 = .ok (.bipush 16, 2) := by decide +kernel
theorem dX12_masterTakes_58 : decode cX12_masterTakes 58 = .ok (.irem, 1) := by decide +kernel
theorem dX12_masterTakes_59 : decode cX12_masterTakes 59 = .ok (.if_icmp .ne 7, 3) := by decide +kernel
theorem dX12_masterTakes_62 : decode cX12_masterTakes 62 = .ok (.iconst 1, 1) := by decide +kernel
theorem dX12_masterTakes_63 : decode cX12_masterTakes 63 = .ok (.goto 4, 3) := by decide +kernel
theorem dX12_masterTakes_66 : decode cX12_masterTakes 66 = .ok (.iconst 0, 1) := by decide +kernel
theorem dX12_masterTakes_67 : decode cX12_masterTakes 67 = .ok (.istore_n 2, 1) := by decide +kernel
theorem dX12_masterTakes_68 : decode cX12_masterTakes 68 = .ok (.aload_n 0, 1) := by decide +kernel
theorem dX12_masterTakes_69 : decode cX12_masterTakes 69 = .ok (.getfield 78, 3) := by decide +kernel
theorem dX12_masterTakes_72 : decode cX12_masterTakes 72 = .ok (.iconst 1, 1) := by decide +kernel
theorem dX12_masterTakes_73 : decode cX12_masterTakes 73 = .ok (.iaload, 1) := by decide +kernel
theorem dX12_masterTakes_74 : decode cX12_masterTakes 74 = .ok (.sipush 130, 3) := by decide +kernel
theorem dX12_masterTakes_77 : decode cX12_masterTakes 77 = .ok (.if_icmp .ne 11, 3) := by decide +kernel
theorem dX12_masterTakes_80 : decode cX12_masterTakes 80 = .ok (.iload_n 1, 1) := by decide +kernel
theorem dX12_masterTakes_81 : decode cX12_masterTakes 81 = .ok (.ifCond .eq 7, 3) := by decide +kernel
theorem dX12_masterTakes_84 : decode cX12_masterTakes 84 = .ok (.iconst 1, 1) := by decide +kernel
theorem dX12_masterTakes_85 : decode cX12_masterTakes 85 = .ok (.goto 4, 3) := by decide +kernel
theorem dX12_masterTakes_88 : decode cX12_masterTakes 88 = .ok (.iconst 0, 1) := by decide +kernel
theorem dX12_masterTakes_89 : decode cX12_masterTakes 89 = .ok (.istore_n 3, 1) := by decide +kernel
theorem dX12_masterTakes_90 : decode cX12_masterTakes 90 = .ok (.iload_n 2, 1) := by decide +kernel
theorem dX12_masterTakes_91 : decode cX12_masterTakes 91 = .ok (.ifCond .ne 7, 3) := by decide +kernel
theorem dX12_masterTakes_94 : decode cX12_masterTakes 94 = .ok (.iload_n 3, 1) := by decide +kernel
theorem dX12_masterTakes_95 : decode cX12_masterTakes 95 = .ok (.ifCond .eq 10, 3) := by decide +kernel
theorem dX12_masterTakes_98 : decode cX12_masterTakes 98 = .ok (.aload_n 0, 1) := by decide +kernel
theorem dX12_masterTakes_99 : decode cX12_masterTakes 99 = .ok (.invokevirtual 248, 3) := by decide +kernel
theorem dX12_masterTakes_102 : decode cX12_masterTakes 102 = .ok (.ifCond .ne 5, 3) := by decide +kernel
theorem dX12_masterTakes_105 : decode cX12_masterTakes 105 = .ok (.iconst 0, 1) := by decide +kernel
theorem dX12_masterTakes_106 : decode cX12_masterTakes 106 = .ok (.ireturn, 1) := by decide +kernel
theorem dX12_masterTakes_107 : decode cX12_masterTakes 107 = .ok (.aload_n 0, 1) := by decide +kernel
theorem dX12_masterTakes_108 : decode cX12_masterTakes 108 = .ok (.aload_n 0, 1) := by decide +kernel
theorem dX12_masterTakes_109 : decode cX12_masterTakes 109 = .ok (.getfield 38, 3) := by decide +kernel
theorem dX12_masterTakes_112 : decode cX12_masterTakes 112 = .ok (.ifCond .ne 7, 3) := by decide +kernel
theorem dX12_masterTakes_115 : decode cX12_masterTakes 115 = .ok (.iload_n 2, 1) := by decide +kernel
theorem dX12_masterTakes_116 : decode cX12_masterTakes 116 = .ok (.ifCond .eq 7, 3) := by decide +kernel
theorem dX12_masterTakes_119 : decode cX12_masterTakes 119 = .ok (.iconst 1, 1) := by decide +kernel
theorem dX12_masterTakes_120 : decode cX12_masterTakes 120 = .ok (.goto 4, 3) := by decide +kernel
theorem dX12_masterTakes_123 : decode cX12_masterTakes 123 = .ok (.iconst 0, 1) := by decide +kernel
theorem dX12_masterTakes_124 : decode cX12_masterTakes 124 = .ok (.putfield 38, 3) := by decide +kernel
theorem dX12_masterTakes_127 : decode cX12_masterTakes 127 = .ok (.iconst 4, 1) := by decide +kernel
theorem dX12_masterTakes_128 : decode cX12_masterTakes 128 = .ok (.istore 4, 2) := by decide +kernel
theorem dX12_masterTakes_130 : decode cX12_masterTakes 130 = .ok (.iload 4, 2) := by decide +kernel
theorem dX12_masterTakes_132 : decode cX12_masterTakes 132 = .ok (.aload_n 0, 1) := by decide +kernel
theorem dX12_masterTakes_133 : decode cX12_masterTakes 133 = .ok (.getfield 127, 3) := by decide +kernel
theorem dX12_masterTakes_136 : decode cX12_masterTakes 136 = .ok (.if_icmp .ge 27, 3) := by decide +kernel
theorem dX12_masterTakes_139 : decode cX12_masterTakes 139 = .ok (.aload_n 0, 1) := by decide +kernel
theorem dX12_masterTakes_140 : decode cX12_masterTakes 140 = .ok (.iload 4, 2) := by decide +kernel
theorem dX12_masterTakes_142 : decode cX12_masterTakes 142 = .ok (.invokevirtual 231, 3) := by decide +kernel
theorem dX12_masterTakes_145 : decode cX12_masterTakes 145 = .ok (.istore 5, 2) := by decide +kernel
theorem dX12_masterTakes_147 : decode cX12_masterTakes 147 = .ok (.aload_n 0, 1) := by decide +kernel
theorem dX12_masterTakes_148 : decode cX12_masterTakes 148 = .ok (.iload 4, 2) := by decide +kernel
theorem dX12_masterTakes_150 : decode cX12_masterTakes 150 = .ok (.invokevirtual 251, 3) := by decide +kernel
theorem dX12_masterTakes_153 : decode cX12_masterTakes 153 = .ok (.iload 4, 2) := by decide +kernel
theorem dX12_masterTakes_155 : decode cX12_masterTakes 155 = .ok (.iload 5, 2) := by decide +kernel
theorem dX12_masterTakes_157 : decode cX12_masterTakes 157 = .ok (.iadd, 1) := by decide +kernel
theorem dX12_masterTakes_158 : decode cX12_masterTakes 158 = .ok (.istore 4, 2) := by decide +kernel
theorem dX12_masterTakes_160 : decode cX12_masterTakes 160 = .ok (.goto (-30), 3) := by decide +kernel
theorem dX12_masterTakes_163 : decode cX12_masterTakes 163 = .ok (.aload_n 0, 1) := by decide +kernel
theorem dX12_masterTakes_164 : decode cX12_masterTakes 164 = .ok (.aload_n 0, 1) := by decide +kernel
theorem dX12_masterTakes_165 : decode cX12_masterTakes 165 = .ok (.getfield 78, 3) := by decide +kernel
theorem dX12_masterTakes_168 : decode cX12_masterTakes 168 = .ok (.iconst 2, 1) := by decide +kernel
theorem dX12_masterTakes_169 : decode cX12_masterTakes 169 = .ok (.iaload, 1) := by decide +kernel
theorem dX12_masterTakes_170 : decode cX12_masterTakes 170 = .ok (.putfield 254, 3) := by decide +kernel
theorem dX12_masterTakes_173 : decode cX12_masterTakes 173 = .ok (.aload_n 0, 1) := by decide +kernel
theorem dX12_masterTakes_174 : decode cX12_masterTakes 174 = .ok (.aload_n 0, 1) := by decide +kernel
theorem dX12_masterTakes_175 : decode cX12_masterTakes 175 = .ok (.getfield 78, 3) := by decide +kernel
theorem dX12_masterTakes_178 : decode cX12_masterTakes 178 = .ok (.iconst 3, 1) := by decide +kernel
theorem dX12_masterTakes_179 : decode cX12_masterTakes 179 = .ok (.iaload, 1) := by decide +kernel
theorem dX12_masterTakes_180 : decode cX12_masterTakes 180 = .ok (.putfield 257, 3) := by decide +kernel
theorem dX12_masterTakes_183 : decode cX12_masterTakes 183 = .ok (.aload_n 0, 1) := by decide +kernel
theorem dX12_masterTakes_184 : decode cX12_masterTakes 184 = .ok (.getfield 78, 3) := by decide +kernel
theorem dX12_masterTakes_187 : decode cX12_masterTakes 187 = .ok (.iconst 0, 1) := by decide +kernel
theorem dX12_masterTakes_188 : decode cX12_masterTakes 188 = .ok (.iaload, 1) := by decide +kernel
theorem dX12_masterTakes_189 : decode cX12_masterTakes 189 = .ok (.bipush 32, 2) := by decide +kernel
theorem dX12_masterTakes_191 : decode cX12_masterTakes 191 = .ok (.iand, 1) := by decide +kernel
theorem dX12_masterTakes_192 : decode cX12_masterTakes 192 = .ok (.ifCond .eq 22, 3) := by decide +kernel
theorem dX12_masterTakes_195 : decode cX12_masterTakes 195 = .ok (.aload_n 0, 1) := by decide +kernel
theorem dX12_masterTakes_196 : decode cX12_masterTakes 196 = .ok (.aload_n 0, 1) := by decide +kernel
theorem dX12_masterTakes_197 : decode cX12_masterTakes 197 = .ok (.getfield 78, 3) := by decide +kernel
theorem dX12_masterTakes_200 : decode cX12_masterTakes 200 = .ok (.iconst 0, 1) := by decide +kernel
theorem dX12_masterTakes_201 : decode cX12_masterTakes 201 = .ok (.iaload, 1) := by decide +kernel
theorem dX12_masterTakes_202 : decode cX12_masterTakes 202 = .ok (.bipush 31, 2) := by decide +kernel
theorem dX12_masterTakes_204 : decode cX12_masterTakes 204 = .ok (.iand, 1) := by decide +kernel
theorem dX12_masterTakes_205 : decode cX12_masterTakes 205 = .ok (.iconst 0, 1) := by decide +kernel
theorem dX12_masterTakes_206 : decode cX12_masterTakes 206 = .ok (.invokevirtual 160, 3) := by decide +kernel
theorem dX12_masterTakes_209 : decode cX12_masterTakes 209 = .ok (.aload_n 0, 1) := by decide +kernel
theorem dX12_masterTakes_210 : decode cX12_masterTakes 210 = .ok (.iconst 1, 1) := by decide +kernel
theorem dX12_masterTakes_211 : decode cX12_masterTakes 211 = .ok (.invokevirtual 178, 3) := by decide +kernel
theorem dX12_masterTakes_214 : decode cX12_masterTakes 214 = .ok (.iconst 1, 1) := by decide +kernel
theorem dX12_masterTakes_215 : decode cX12_masterTakes 215 = .ok (.ireturn, 1) := by decide +kernel
theorem dX12_isFlying_0 : decode cX12_isFlying 0 = .ok (.iload_n 1, 1) := by decide +kernel
theorem dX12_isFlying_1 : decode cX12_isFlying 1 = .ok (.ifCond .lt 15, 3) := by decide +kernel
theorem dX12_isFlying_4 : decode cX12_isFlying 4 = .ok (.iload_n 1, 1) := by decide +kernel
theorem dX12_isFlying_5 : decode cX12_isFlying 5 = .ok (.aload_n 0, 1) := by decide +kernel
theorem dX12_isFlying_6 : decode cX12_isFlying 6 = .ok (.getfield 89, 3) := by decide +kernel
theorem dX12_isFlying_9 : decode cX12_isFlying 9 = .ok (.if_icmp .ge 7, 3) := by decide +kernel
theorem dX12_isFlying_12 : decode cX12_isFlying 12 = .ok (.iconst 1, 1) := by decide +kernel
theorem dX12_isFlying_13 : decode cX12_isFlying 13 = .ok (.goto 4, 3) := by decide +kernel
theorem dX12_isFlying_16 : decode cX12_isFlying 16 = .ok (.iconst 0, 1) := by decide +kernel
theorem dX12_isFlying_17 : decode cX12_isFlying 17 = .ok (.ireturn, 1) := by decide +kernel
set_option maxRecDepth 100000 in
theorem ggX12_bring_X12_isFlying : GoodIn wsX12_bring wsX12_isFlying := goodIn_r _ [6, 1, 160, 161, 162, 163, 164, 165, 166, 167, 168, 169, 170, 171, 172, 173, 174, 175, 176, 177, 178, 179, 180, 181, 182, 183, 184, 185, 186, 187, 188, 189, 190, 191, 192, 193, 194, 195, 196, 197, 198, 199, 200, 201, 202, 203, 204, 205, 206] rfl (by decide +kernel)
set_option maxRecDepth 20000 in
theorem gX12_bring_X12_isFlying : GoodIn wsX12_bring (wsV RX12 260 RX12 yX12_isFlying wsX12_isFlying) := goodIn_app (goodIn_of _ (by decide +kernel)) ggX12_bring_X12_isFlying
set_option maxRecDepth 100000 in
theorem ggX12_bring_X12_arrive : GoodIn wsX12_bring wsX12_arrive := goodIn_r _ [10, 11, 12, 13, 14, 15, 16, 17, 18, 19, 20, 21, 22, 23, 5, 24, 25, 26, 27, 28, 29, 30, 31, 32, 33, 34, 35, 36, 37, 38, 39, 40, 1, 41, 42, 43, 44, 45, 46, 47, 48, 49, 50, 51, 52, 53, 54, 55, 56, 57, 58, 59, 60, 61, 62, 63, 64, 65, 66, 67, 68, 69, 70, 71, 72, 73, 74, 75, 76, 77, 78, 79, 80, 81, 82, 83, 84, 85, 86, 87, 88, 89, 90, 91, 92, 93, 94, 95, 96, 97, 98, 99, 100, 101, 102, 103, 104, 105, 106, 107, 108, 109, 110, 111, 112, 113, 114, 115, 116, 117, 118, 119, 120, 121, 122, 123, 124, 125, 126, 127, 128, 129, 130, 131, 132, 133, 134, 135, 136, 137, 138, 139, 140, 141, 142, 143, 144, 145, 146, 147, 148, 149, 150, 151, 152, 153, 154, 155, 156, 157, 158, 159, 160, 161, 162, 163, 164, 165, 166, 167, 168, 169, 170, 171, 172, 173, 174, 175, 176, 177, 178, 179, 180, 181, 182, 183, 184, 185, 186, 187, 188, 189, 190, 191, 192, 193, 194, 195, 196, 197, 198, 199, 200, 201, 202, 203, 204, 205, 206] rfl (by decide +kernel)
set_option maxRecDepth 20000 in
theorem gX12_bring_X12_arrive : GoodIn wsX12_bring (wsV RX12 263 RX12 yX12_arrive wsX12_arrive) := goodIn_app (goodIn_of _ (by decide +kernel)) ggX12_bring_X12_arrive
theorem dX12_bring_0 : decode cX12_bring 0 = .ok (.aload_n 0, 1) := by decide +kernel
theorem dX12_bring_1 : decode cX12_bring 1 = .ok (.iload_n 1, 1) := by decide +kernel
theorem dX12_bring_2 : decode cX12_bring 2 = .ok (.invokevirtual 260, 3) := by decide +kernel
theorem dX12_bring_5 : decode cX12_bring 5 = .ok (.ifCond .ne 5, 3) := by decide +kernel
theorem dX12_bring_8 : decode cX12_bring 8 = .ok (.iconst (-1), 1) := by decide +kernel
theorem dX12_bring_9 : decode cX12_bring 9 = .ok (.ireturn, 1) := by decide +kernel
theorem dX12_bring_10 : decode cX12_bring 10 = .ok (.aload_n 0, 1) := by decide +kernel
theorem dX12_bring_11 : decode cX12_bring 11 = .ok (.iload_n 1, 1) := by decide +kernel
theorem dX12_bring_12 : decode cX12_bring 12 = .ok (.iconst 0, 1) := by decide +kernel
theorem dX12_bring_13 : decode cX12_bring 13 = .ok (.invokevirtual 263, 3) := by decide +kernel
theorem dX12_bring_16 : decode cX12_bring 16 = .ok (.aload_n 0, 1) := by decide +kernel
theorem dX12_bring_17 : decode cX12_bring 17 = .ok (.getfield 89, 3) := by decide +kernel
theorem dX12_bring_20 : decode cX12_bring 20 = .ok (.ireturn, 1) := by decide +kernel
set_option maxRecDepth 100000 in
theorem ggX12_twice_X12_isFlying : GoodIn wsX12_twice wsX12_isFlying := goodIn_r _ [6, 1, 160, 161, 162, 163, 164, 165, 166, 167, 168, 169, 170, 171, 172, 173, 174, 175, 176, 177, 178, 179, 180, 181, 182, 183, 184, 185, 186, 187, 188, 189, 190, 191, 192, 193, 194, 195, 196, 197, 198, 199, 200, 201, 202, 203, 204, 205, 206] rfl (by decide +kernel)
set_option maxRecDepth 20000 in
theorem gX12_twice_X12_isFlying : GoodIn wsX12_twice (wsV RX12 260 RX12 yX12_isFlying wsX12_isFlying) := goodIn_app (goodIn_of _ (by decide +kernel)) ggX12_twice_X12_isFlying
set_option maxRecDepth 100000 in
theorem ggX12_twice_X12_arrive : GoodIn wsX12_twice wsX12_arrive := goodIn_r _ [10, 11, 12, 13, 14, 15, 16, 17, 18, 19, 20, 21, 22, 23, 5, 24, 25, 26, 27, 28, 29, 30, 31, 32, 33, 34, 35, 36, 37, 38, 39, 40, 1, 41, 42, 43, 44, 45, 46, 47, 48, 49, 50, 51, 52, 53, 54, 55, 56, 57, 58, 59, 60, 61, 62, 63, 64, 65, 66, 67, 68, 69, 70, 71, 72, 73, 74, 75, 76, 77, 78, 79, 80, 81, 82, 83, 84, 85, 86, 87, 88, 89, 90, 91, 92, 93, 94, 95, 96, 97, 98, 99, 100, 101, 102, 103, 104, 105, 106, 107, 108, 109, 110, 111, 112, 113, 114, 115, 116, 117, 118, 119, 120, 121, 122, 123, 124, 125, 126, 127, 128, 129, 130, 131, 132, 133, 134, 135, 136, 137, 138, 139, 140, 141, 142, 143, 144, 145, 146, 147, 148, 149, 150, 151, 152, 153, 154, 155, 156, 157, 158, 159, 160, 161, 162, 163, 164, 165, 166, 167, 168, 169, 170, 171, 172, 173, 174, 175, 176, 177, 178, 179, 180, 181, 182, 183, 184, 185, 186, 187, 188, 189, 190, 191, 192, 193, 194, 195, 196, 197, 198, 199, 200, 201, 202, 203, 204, 205, 206] rfl (by decide +kernel)
set_option maxRecDepth 20000 in
theorem gX12_twice_X12_arrive : GoodIn wsX12_twice (wsV RX12 263 RX12 yX12_arrive wsX12_arrive) := goodIn_app (goodIn_of _ (by decide +kernel)) ggX12_twice_X12_arrive
theorem dX12_twice_0 : decode cX12_twice 0 = .ok (.aload_n 0, 1) := by decide +kernel
theorem dX12_twice_1 : decode cX12_twice 1 = .ok (.iload_n 1, 1) := by decide +kernel
theorem dX12_twice_2 : decode cX12_twice 2 = .ok (.invokevirtual 260, 3) := by decide +kernel
theorem dX12_twice_5 : decode cX12_twice 5 = .ok (.ifCond .ne 5, 3) := by decide +kernel
theorem dX12_twice_8 : decode cX12_twice 8 = .ok (.iconst (-1), 1) := by decide +kernel
theorem dX12_twice_9 : decode cX12_twice 9 = .ok (.ireturn, 1) := by decide +kernel
theorem dX12_twice_10 : decode cX12_twice 10 = .ok (.aload_n 0, 1) := by decide +kernel
theorem dX12_twice_11 : decode cX12_twice 11 = .ok (.iload_n 1, 1) := by decide +kernel
theorem dX12_twice_12 : decode cX12_twice 12 = .ok (.iconst 1, 1) := by decide +kernel
theorem dX12_twice_13 : decode cX12_twice 13 = .ok (.invokevirtual 263, 3) := by decide +kernel
theorem dX12_twice_16 : decode cX12_twice 16 = .ok (.aload_n 0, 1) := by decide +kernel
theorem dX12_twice_17 : decode cX12_twice 17 = .ok (.getfield 89, 3) := by decide +kernel
theorem dX12_twice_20 : decode cX12_twice 20 = .ok (.ireturn, 1) := by decide +kernel
set_option maxRecDepth 100000 in
theorem ggX12_lose_X12_isFlying : GoodIn wsX12_lose wsX12_isFlying := goodIn_r _ [6, 1, 14, 15, 16, 17, 18, 19, 20, 21, 22, 23, 24, 25, 26, 27, 28, 29, 30, 31, 32, 33, 34, 35, 36, 37, 38, 39, 40, 41, 42, 43, 44, 45, 46, 47, 48, 49, 50, 51, 52, 53, 54, 55, 56, 57, 58, 59, 60] rfl (by decide +kernel)
set_option maxRecDepth 20000 in
theorem gX12_lose_X12_isFlying : GoodIn wsX12_lose (wsV RX12 260 RX12 yX12_isFlying wsX12_isFlying) := goodIn_app (goodIn_of _ (by decide +kernel)) ggX12_lose_X12_isFlying
set_option maxRecDepth 100000 in
theorem ggX12_lose_X12_removeFrame : GoodIn wsX12_lose wsX12_removeFrame := goodIn_r _ [10, 1, 11, 12, 13, 14, 15, 16, 17, 18, 19, 20, 21, 22, 23, 24, 25, 26, 27, 28, 29, 30, 31, 32, 33, 34, 35, 36, 37, 38, 39, 40, 41, 42, 43, 44, 45, 46, 47, 48, 49, 50, 51, 52, 53, 54, 55, 56, 57, 58, 59, 60] rfl (by decide +kernel)
set_option maxRecDepth 20000 in
theorem gX12_lose_X12_removeFrame : GoodIn wsX12_lose (wsV RX12 107 RX12 yX12_removeFrame wsX12_removeFrame) := goodIn_app (goodIn_of _ (by decide +kernel)) ggX12_lose_X12_removeFrame
theorem dX12_lose_0 : decode cX12_lose 0 = .ok (.aload_n 0, 1) := by decide +kernel
theorem dX12_lose_1 : decode cX12_lose 1 = .ok (.iload_n 1, 1) := by decide +kernel
theorem dX12_lose_2 : decode cX12_lose 2 = .ok (.invokevirtual 260, 3) := by decide +kernel
theorem dX12_lose_5 : decode cX12_lose 5 = .ok (.ifCond .ne 5, 3) := by decide +kernel
theorem dX12_lose_8 : decode cX12_lose 8 = .ok (.iconst (-1), 1) := by decide +kernel
theorem dX12_lose_9 : decode cX12_lose 9 = .ok (.ireturn, 1) := by decide +kernel
theorem dX12_lose_10 : decode cX12_lose 10 = .ok (.aload_n 0, 1) := by decide +kernel
theorem dX12_lose_11 : decode cX12_lose 11 = .ok (.iload_n 1, 1) := by decide +kernel
theorem dX12_lose_12 : decode cX12_lose 12 = .ok (.invokevirtual 107, 3) := by decide +kernel
theorem dX12_lose_15 : decode cX12_lose 15 = .ok (.aload_n 0, 1) := by decide +kernel
theorem dX12_lose_16 : decode cX12_lose 16 = .ok (.getfield 89, 3) := by decide +kernel
theorem dX12_lose_19 : decode cX12_lose 19 = .ok (.ireturn, 1) := by decide +kernel
set_option maxRecDepth 100000 in
theorem ggX12_poke_X12_isFlying : GoodIn wsX12_poke wsX12_isFlying := goodIn_r _ [7, 8, 9, 10, 11, 12, 13, 14, 15, 16, 17, 18, 19, 20, 21, 22, 23, 24, 25, 26, 27, 28, 29, 30, 31, 32, 33, 34, 35, 36, 37, 38, 39, 40, 41, 42, 43, 44, 45, 46, 47, 48, 49, 50, 51, 52, 53, 54, 55] rfl (by decide +kernel)
set_option maxRecDepth 20000 in
theorem gX12_poke_X12_isFlying : GoodIn wsX12_poke (wsV RX12 260 RX12 yX12_isFlying wsX12_isFlying) := goodIn_app (goodIn_of _ (by decide +kernel)) ggX12_poke_X12_isFlying
theorem dX12_poke_0 : decode cX12_poke 0 = .ok (.aload_n 0, 1) := by decide +kernel
