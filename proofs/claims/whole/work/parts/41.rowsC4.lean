theorem dX6_takeEvent_125 : decode cX6_takeEvent 125 = .ok (.iconst 2, 1) := by decide +kernel
theorem dX6_takeEvent_126 : decode cX6_takeEvent 126 = .ok (.iadd, 1) := by decide +kernel
theorem dX6_takeEvent_127 : decode cX6_takeEvent 127 = .ok (.iload 6, 2) := by decide +kernel
theorem dX6_takeEvent_129 : decode cX6_takeEvent 129 = .ok (.iastore, 1) := by decide +kernel
theorem dX6_takeEvent_130 : decode cX6_takeEvent 130 = .ok (.aload_n 0, 1) := by decide +kernel
theorem dX6_takeEvent_131 : decode cX6_takeEvent 131 = .ok (.getfield 29, 3) := by decide +kernel
theorem dX6_takeEvent_134 : decode cX6_takeEvent 134 = .ok (.iload 7, 2) := by decide +kernel
theorem dX6_takeEvent_136 : decode cX6_takeEvent 136 = .ok (.iconst 3, 1) := by decide +kernel
theorem dX6_takeEvent_137 : decode cX6_takeEvent 137 = .ok (.iadd, 1) := by decide +kernel
theorem dX6_takeEvent_138 : decode cX6_takeEvent 138 = .ok (.iload_n 3, 1) := by decide +kernel
theorem dX6_takeEvent_139 : decode cX6_takeEvent 139 = .ok (.iastore, 1) := by decide +kernel
theorem dX6_takeEvent_140 : decode cX6_takeEvent 140 = .ok (.aload_n 0, 1) := by decide +kernel
theorem dX6_takeEvent_141 : decode cX6_takeEvent 141 = .ok (.dup, 1) := by decide +kernel
theorem dX6_takeEvent_142 : decode cX6_takeEvent 142 = .ok (.getfield 111, 3) := by decide +kernel
theorem dX6_takeEvent_145 : decode cX6_takeEvent 145 = .ok (.iconst 1, 1) := by decide +kernel
theorem dX6_takeEvent_146 : decode cX6_takeEvent 146 = .ok (.iadd, 1) := by decide +kernel
theorem dX6_takeEvent_147 : decode cX6_takeEvent 147 = .ok (.putfield 111, 3) := by decide +kernel
theorem dX6_takeEvent_150 : decode cX6_takeEvent 150 = .ok (.return_, 1) := by decide +kernel
set_option maxRecDepth 100000 in
theorem ggX6_makeConfirm_X1_clear : GoodIn wsX6_makeConfirm wsX1_clear := goodIn_r _ [6, 7, 25, 26] rfl (by decide +kernel)
set_option maxRecDepth 20000 in
theorem gX6_makeConfirm_X1_clear : GoodIn wsX6_makeConfirm (wsV RX6 40 RX1 yX1_clear wsX1_clear) := goodIn_app (goodIn_of _ (by decide +kernel)) ggX6_makeConfirm_X1_clear
set_option maxRecDepth 100000 in
theorem ggX6_makeConfirm_X1_add : GoodIn wsX6_makeConfirm wsX1_add := goodIn_r _ [11, 7, 12, 25, 26] rfl (by decide +kernel)
set_option maxRecDepth 20000 in
theorem gX6_makeConfirm_X1_add : GoodIn wsX6_makeConfirm (wsV RX6 43 RX1 yX1_add wsX1_add) := goodIn_app (goodIn_of _ (by decide +kernel)) ggX6_makeConfirm_X1_add
theorem dX6_makeConfirm_0 : decode cX6_makeConfirm 0 = .ok (.aload_n 0, 1) := by decide +kernel
theorem dX6_makeConfirm_1 : decode cX6_makeConfirm 1 = .ok (.getfield 18, 3) := by decide +kernel
theorem dX6_makeConfirm_4 : decode cX6_makeConfirm 4 = .ok (.invokevirtual 40, 3) := by decide +kernel
theorem dX6_makeConfirm_7 : decode cX6_makeConfirm 7 = .ok (.aload_n 0, 1) := by decide +kernel
theorem dX6_makeConfirm_8 : decode cX6_makeConfirm 8 = .ok (.getfield 18, 3) := by decide +kernel
theorem dX6_makeConfirm_11 : decode cX6_makeConfirm 11 = .ok (.sipush 192, 3) := by decide +kernel
theorem dX6_makeConfirm_14 : decode cX6_makeConfirm 14 = .ok (.iload_n 1, 1) := by decide +kernel
theorem dX6_makeConfirm_15 : decode cX6_makeConfirm 15 = .ok (.bipush 31, 2) := by decide +kernel
theorem dX6_makeConfirm_17 : decode cX6_makeConfirm 17 = .ok (.iand, 1) := by decide +kernel
theorem dX6_makeConfirm_18 : decode cX6_makeConfirm 18 = .ok (.iadd, 1) := by decide +kernel
theorem dX6_makeConfirm_19 : decode cX6_makeConfirm 19 = .ok (.invokevirtual 43, 3) := by decide +kernel
theorem dX6_makeConfirm_22 : decode cX6_makeConfirm 22 = .ok (.pop, 1) := by decide +kernel
theorem dX6_makeConfirm_23 : decode cX6_makeConfirm 23 = .ok (.aload_n 0, 1) := by decide +kernel
theorem dX6_makeConfirm_24 : decode cX6_makeConfirm 24 = .ok (.getfield 18, 3) := by decide +kernel
theorem dX6_makeConfirm_27 : decode cX6_makeConfirm 27 = .ok (.iconst 0, 1) := by decide +kernel
theorem dX6_makeConfirm_28 : decode cX6_makeConfirm 28 = .ok (.invokevirtual 43, 3) := by decide +kernel
theorem dX6_makeConfirm_31 : decode cX6_makeConfirm 31 = .ok (.pop, 1) := by decide +kernel
theorem dX6_makeConfirm_32 : decode cX6_makeConfirm 32 = .ok (.return_, 1) := by decide +kernel
theorem dX6_seen_0 : decode cX6_seen 0 = .ok (.iload_n 1, 1) := by decide +kernel
theorem dX6_seen_1 : decode cX6_seen 1 = .ok (.ifCond .lt 18, 3) := by decide +kernel
theorem dX6_seen_4 : decode cX6_seen 4 = .ok (.iload_n 1, 1) := by decide +kernel
theorem dX6_seen_5 : decode cX6_seen 5 = .ok (.bipush 10, 2) := by decide +kernel
theorem dX6_seen_7 : decode cX6_seen 7 = .ok (.if_icmp .ge 12, 3) := by decide +kernel
theorem dX6_seen_10 : decode cX6_seen 10 = .ok (.iload_n 2, 1) := by decide +kernel
theorem dX6_seen_11 : decode cX6_seen 11 = .ok (.ifCond .lt 8, 3) := by decide +kernel
theorem dX6_seen_14 : decode cX6_seen 14 = .ok (.iload_n 2, 1) := by decide +kernel
theorem dX6_seen_15 : decode cX6_seen 15 = .ok (.iconst 1, 1) := by decide +kernel
theorem dX6_seen_16 : decode cX6_seen 16 = .ok (.if_icmp .le 5, 3) := by decide +kernel
theorem dX6_seen_19 : decode cX6_seen 19 = .ok (.iconst (-1), 1) := by decide +kernel
theorem dX6_seen_20 : decode cX6_seen 20 = .ok (.ireturn, 1) := by decide +kernel
theorem dX6_seen_21 : decode cX6_seen 21 = .ok (.iload_n 2, 1) := by decide +kernel
theorem dX6_seen_22 : decode cX6_seen 22 = .ok (.ifCond .ne 12, 3) := by decide +kernel
theorem dX6_seen_25 : decode cX6_seen 25 = .ok (.aload_n 0, 1) := by decide +kernel
theorem dX6_seen_26 : decode cX6_seen 26 = .ok (.getfield 22, 3) := by decide +kernel
theorem dX6_seen_29 : decode cX6_seen 29 = .ok (.iload_n 1, 1) := by decide +kernel
theorem dX6_seen_30 : decode cX6_seen 30 = .ok (.iaload, 1) := by decide +kernel
theorem dX6_seen_31 : decode cX6_seen 31 = .ok (.goto 9, 3) := by decide +kernel
theorem dX6_seen_34 : decode cX6_seen 34 = .ok (.aload_n 0, 1) := by decide +kernel
theorem dX6_seen_35 : decode cX6_seen 35 = .ok (.getfield 26, 3) := by decide +kernel
theorem dX6_seen_38 : decode cX6_seen 38 = .ok (.iload_n 1, 1) := by decide +kernel
theorem dX6_seen_39 : decode cX6_seen 39 = .ok (.iaload, 1) := by decide +kernel
theorem dX6_seen_40 : decode cX6_seen 40 = .ok (.ireturn, 1) := by decide +kernel
theorem dX6_takenEvent_0 : decode cX6_takenEvent 0 = .ok (.iload_n 1, 1) := by decide +kernel
theorem dX6_takenEvent_1 : decode cX6_takenEvent 1 = .ok (.ifCond .lt 27, 3) := by decide +kernel
theorem dX6_takenEvent_4 : decode cX6_takenEvent 4 = .ok (.iload_n 1, 1) := by decide +kernel
theorem dX6_takenEvent_5 : decode cX6_takenEvent 5 = .ok (.sipush 200, 3) := by decide +kernel
theorem dX6_takenEvent_8 : decode cX6_takenEvent 8 = .ok (.if_icmp .ge 20, 3) := by decide +kernel
theorem dX6_takenEvent_11 : decode cX6_takenEvent 11 = .ok (.iload_n 1, 1) := by decide +kernel
theorem dX6_takenEvent_12 : decode cX6_takenEvent 12 = .ok (.aload_n 0, 1) := by decide +kernel
theorem dX6_takenEvent_13 : decode cX6_takenEvent 13 = .ok (.getfield 111, 3) := by decide +kernel
theorem dX6_takenEvent_16 : decode cX6_takenEvent 16 = .ok (.if_icmp .ge 12, 3) := by decide +kernel
theorem dX6_takenEvent_19 : decode cX6_takenEvent 19 = .ok (.iload_n 2, 1) := by decide +kernel
theorem dX6_takenEvent_20 : decode cX6_takenEvent 20 = .ok (.ifCond .lt 8, 3) := by decide +kernel
theorem dX6_takenEvent_23 : decode cX6_takenEvent 23 = .ok (.iload_n 2, 1) := by decide +kernel
theorem dX6_takenEvent_24 : decode cX6_takenEvent 24 = .ok (.iconst 4, 1) := by decide +kernel
theorem dX6_takenEvent_25 : decode cX6_takenEvent 25 = .ok (.if_icmp .lt 5, 3) := by decide +kernel
theorem dX6_takenEvent_28 : decode cX6_takenEvent 28 = .ok (.iconst (-1), 1) := by decide +kernel
theorem dX6_takenEvent_29 : decode cX6_takenEvent 29 = .ok (.ireturn, 1) := by decide +kernel
theorem dX6_takenEvent_30 : decode cX6_takenEvent 30 = .ok (.aload_n 0, 1) := by decide +kernel
theorem dX6_takenEvent_31 : decode cX6_takenEvent 31 = .ok (.getfield 29, 3) := by decide +kernel
theorem dX6_takenEvent_34 : decode cX6_takenEvent 34 = .ok (.iload_n 1, 1) := by decide +kernel
theorem dX6_takenEvent_35 : decode cX6_takenEvent 35 = .ok (.iconst 4, 1) := by decide +kernel
theorem dX6_takenEvent_36 : decode cX6_takenEvent 36 = .ok (.imul, 1) := by decide +kernel
theorem dX6_takenEvent_37 : decode cX6_takenEvent 37 = .ok (.iload_n 2, 1) := by decide +kernel
theorem dX6_takenEvent_38 : decode cX6_takenEvent 38 = .ok (.iadd, 1) := by decide +kernel
theorem dX6_takenEvent_39 : decode cX6_takenEvent 39 = .ok (.iaload, 1) := by decide +kernel
theorem dX6_takenEvent_40 : decode cX6_takenEvent 40 = .ok (.ireturn, 1) := by decide +kernel
set_option maxRecDepth 100000 in
theorem ggX7_init_X1_init : GoodIn wsX7_init wsX1_init := goodIn_r _ [10, 11, 2, 3, 12, 13, 14, 15] rfl (by decide +kernel)
set_option maxRecDepth 20000 in
theorem gX7_init_X1_init : GoodIn wsX7_init (wsX1_init) := ggX7_init_X1_init
theorem dX7_init_0 : decode cX7_init 0 = .ok (.aload_n 0, 1) := by decide +kernel
theorem dX7_init_1 : decode cX7_init 1 = .ok (.invokespecial 1, 3) := by decide +kernel
theorem dX7_init_4 : decode cX7_init 4 = .ok (.aload_n 0, 1) := by decide +kernel
theorem dX7_init_5 : decode cX7_init 5 = .ok (.new 7, 3) := by decide +kernel
theorem dX7_init_8 : decode cX7_init 8 = .ok (.dup, 1) := by decide +kernel
theorem dX7_init_9 : decode cX7_init 9 = .ok (.sipush 400, 3) := by decide +kernel
theorem dX7_init_12 : decode cX7_init 12 = .ok (.invokespecial 11, 3) := by decide +kernel
theorem dX7_init_15 : decode cX7_init 15 = .ok (.putfield 14, 3) := by decide +kernel
theorem dX7_init_18 : decode cX7_init 18 = .ok (.return_, 1) := by decide +kernel
set_option maxRecDepth 100000 in
theorem ggX7_completes_X3_isSound : GoodIn wsX7_completes wsX3_isSound := goodIn_r _ [9, 10, 11, 12, 13, 8, 14, 15, 16, 17, 18, 19, 20, 21, 22, 23, 24, 25, 26, 27, 28, 29, 30, 31, 32, 33, 34, 35, 36, 37, 38, 39, 40, 41, 42, 43, 44, 45, 46, 47, 48, 49, 50, 51, 52, 53, 54, 55, 56, 57, 97, 98, 99, 100] rfl (by decide +kernel)
set_option maxRecDepth 20000 in
theorem gX7_completes_X3_isSound : GoodIn wsX7_completes (wsV RX7 18 RX3 yX3_isSound wsX3_isSound) := goodIn_app (goodIn_of _ (by decide +kernel)) ggX7_completes_X3_isSound
set_option maxRecDepth 100000 in
theorem ggX7_completes_X3_carried : GoodIn wsX7_completes wsX3_carried := goodIn_r _ [61, 10, 15, 16, 17, 18, 19, 20, 21, 97, 98, 99, 100] rfl (by decide +kernel)
set_option maxRecDepth 20000 in
theorem gX7_completes_X3_carried : GoodIn wsX7_completes (wsV RX7 28 RX3 yX3_carried wsX3_carried) := goodIn_app (goodIn_of _ (by decide +kernel)) ggX7_completes_X3_carried
set_option maxRecDepth 100000 in
theorem ggX7_completes_X8_isFirst : GoodIn wsX7_completes wsX8_isFirst := goodIn_r _ [65] rfl (by decide +kernel)
set_option maxRecDepth 20000 in
theorem gX7_completes_X8_isFirst : GoodIn wsX7_completes (va_wsS RX7 32 yX8_isFirst wsX8_isFirst) := goodIn_app (goodIn_of _ (by decide +kernel)) ggX7_completes_X8_isFirst
set_option maxRecDepth 100000 in
theorem ggX7_completes_X1_clear : GoodIn wsX7_completes wsX1_clear := goodIn_r _ [69, 20, 99, 100] rfl (by decide +kernel)
set_option maxRecDepth 20000 in
theorem gX7_completes_X1_clear : GoodIn wsX7_completes (wsV RX7 38 RX1 yX1_clear wsX1_clear) := goodIn_app (goodIn_of _ (by decide +kernel)) ggX7_completes_X1_clear
set_option maxRecDepth 100000 in
theorem ggX7_completes_X3_carries : GoodIn wsX7_completes wsX3_carries := goodIn_r _ [14, 10, 15, 16, 17, 18, 19, 20, 21, 97, 98, 99, 100] rfl (by decide +kernel)
set_option maxRecDepth 20000 in
theorem gX7_completes_X3_carries : GoodIn wsX7_completes (wsV RX7 41 RX3 yX3_carries wsX3_carries) := goodIn_app (goodIn_of _ (by decide +kernel)) ggX7_completes_X3_carries
set_option maxRecDepth 100000 in
theorem ggX7_completes_X7_follows : GoodIn wsX7_completes wsX7_follows := goodIn_r _ [75, 3, 4, 2, 76, 77, 64, 78, 79, 80, 81, 82, 83, 84, 18, 85, 20, 21, 93, 94, 95, 96, 99, 100] rfl (by decide +kernel)
set_option maxRecDepth 20000 in
theorem gX7_completes_X7_follows : GoodIn wsX7_completes (wsV RX7 45 RX7 yX7_follows wsX7_follows) := goodIn_app (goodIn_of _ (by decide +kernel)) ggX7_completes_X7_follows
set_option maxRecDepth 100000 in
theorem ggX7_completes_X1_add : GoodIn wsX7_completes wsX1_add := goodIn_r _ [89, 20, 21, 99, 100] rfl (by decide +kernel)
set_option maxRecDepth 20000 in
theorem gX7_completes_X1_add : GoodIn wsX7_completes (wsV RX7 53 RX1 yX1_add wsX1_add) := goodIn_app (goodIn_of _ (by decide +kernel)) ggX7_completes_X1_add
set_option maxRecDepth 100000 in
theorem ggX7_completes_X8_number : GoodIn wsX7_completes wsX8_number := goodIn_r _ [78] rfl (by decide +kernel)
set_option maxRecDepth 20000 in
theorem gX7_completes_X8_number : GoodIn wsX7_completes (va_wsS RX7 56 yX8_number wsX8_number) := goodIn_app (goodIn_of _ (by decide +kernel)) ggX7_completes_X8_number
set_option maxRecDepth 100000 in
theorem ggX7_completes_X8_isLast : GoodIn wsX7_completes wsX8_isLast := goodIn_r _ [92] rfl (by decide +kernel)
set_option maxRecDepth 20000 in
theorem gX7_completes_X8_isLast : GoodIn wsX7_completes (va_wsS RX7 62 yX8_isLast wsX8_isLast) := goodIn_app (goodIn_of _ (by decide +kernel)) ggX7_completes_X8_isLast
theorem dX7_completes_0 : decode cX7_completes 0 = .ok (.aload_n 1, 1) := by decide +kernel
theorem dX7_completes_1 : decode cX7_completes 1 = .ok (.invokevirtual 18, 3) := by decide +kernel
theorem dX7_completes_4 : decode cX7_completes 4 = .ok (.ifCond .ne 15, 3) := by decide +kernel
theorem dX7_completes_7 : decode cX7_completes 7 = .ok (.aload_n 0, 1) := by decide +kernel
theorem dX7_completes_8 : decode cX7_completes 8 = .ok (.dup, 1) := by decide +kernel
theorem dX7_completes_9 : decode cX7_completes 9 = .ok (.getfield 24, 3) := by decide +kernel
theorem dX7_completes_12 : decode cX7_completes 12 = .ok (.iconst 1, 1) := by decide +kernel
theorem dX7_completes_13 : decode cX7_completes 13 = .ok (.iadd, 1) := by decide +kernel
theorem dX7_completes_14 : decode cX7_completes 14 = .ok (.putfield 24, 3) := by decide +kernel
theorem dX7_completes_17 : decode cX7_completes 17 = .ok (.iconst 0, 1) := by decide +kernel
theorem dX7_completes_18 : decode cX7_completes 18 = .ok (.ireturn, 1) := by decide +kernel
theorem dX7_completes_19 : decode cX7_completes 19 = .ok (.aload_n 1, 1) := by decide +kernel
theorem dX7_completes_20 : decode cX7_completes 20 = .ok (.iconst 0, 1) := by decide +kernel
theorem dX7_completes_21 : decode cX7_completes 21 = .ok (.invokevirtual 28, 3) := by decide +kernel
theorem dX7_completes_24 : decode cX7_completes 24 = .ok (.istore_n 2, 1) := by decide +kernel
theorem dX7_completes_25 : decode cX7_completes 25 = .ok (.iload_n 2, 1) := by decide +kernel
theorem dX7_completes_26 : decode cX7_completes 26 = .ok (.invokestatic 32, 3) := by decide +kernel
theorem dX7_completes_29 : decode cX7_completes 29 = .ok (.ifCond .eq 13, 3) := by decide +kernel
theorem dX7_completes_32 : decode cX7_completes 32 = .ok (.aload_n 0, 1) := by decide +kernel
theorem dX7_completes_33 : decode cX7_completes 33 = .ok (.getfield 14, 3) := by decide +kernel
theorem dX7_completes_36 : decode cX7_completes 36 = .ok (.invokevirtual 38, 3) := by decide +kernel
theorem dX7_completes_39 : decode cX7_completes 39 = .ok (.goto 24, 3) := by decide +kernel
theorem dX7_completes_42 : decode cX7_completes 42 = .ok (.aload_n 0, 1) := by decide +kernel
theorem dX7_completes_43 : decode cX7_completes 43 = .ok (.iload_n 2, 1) := by decide +kernel
theorem dX7_completes_44 : decode cX7_completes 44 = .ok (.aload_n 1, 1) := by decide +kernel
theorem dX7_completes_45 : decode cX7_completes 45 = .ok (.invokevirtual 41, 3) := by decide +kernel
theorem dX7_completes_48 : decode cX7_completes 48 = .ok (.iconst 1, 1) := by decide +kernel
theorem dX7_completes_49 : decode cX7_completes 49 = .ok (.isub, 1) := by decide +kernel
theorem dX7_completes_50 : decode cX7_completes 50 = .ok (.invokevirtual 45, 3) := by decide +kernel
theorem dX7_completes_53 : decode cX7_completes 53 = .ok (.ifCond .ne 10, 3) := by decide +kernel
theorem dX7_completes_56 : decode cX7_completes 56 = .ok (.aload_n 0, 1) := by decide +kernel
theorem dX7_completes_57 : decode cX7_completes 57 = .ok (.iconst 0, 1) := by decide +kernel
theorem dX7_completes_58 : decode cX7_completes 58 = .ok (.putfield 49, 3) := by decide +kernel
theorem dX7_completes_61 : decode cX7_completes 61 = .ok (.iconst 0, 1) := by decide +kernel
theorem dX7_completes_62 : decode cX7_completes 62 = .ok (.ireturn, 1) := by decide +kernel
theorem dX7_completes_63 : decode cX7_completes 63 = .ok (.iconst 1, 1) := by decide +kernel
theorem dX7_completes_64 : decode cX7_completes 64 = .ok (.istore_n 3, 1) := by decide +kernel
theorem dX7_completes_65 : decode cX7_completes 65 = .ok (.iload_n 3, 1) := by decide +kernel
theorem dX7_completes_66 : decode cX7_completes 66 = .ok (.aload_n 1, 1) := by decide +kernel
theorem dX7_completes_67 : decode cX7_completes 67 = .ok (.invokevirtual 41, 3) := by decide +kernel
theorem dX7_completes_70 : decode cX7_completes 70 = .ok (.if_icmp .ge 22, 3) := by decide +kernel
theorem dX7_completes_73 : decode cX7_completes 73 = .ok (.aload_n 0, 1) := by decide +kernel
theorem dX7_completes_74 : decode cX7_completes 74 = .ok (.getfield 14, 3) := by decide +kernel
theorem dX7_completes_77 : decode cX7_completes 77 = .ok (.aload_n 1, 1) := by decide +kernel
theorem dX7_completes_78 : decode cX7_completes 78 = .ok (.iload_n 3, 1) := by decide +kernel
theorem dX7_completes_79 : decode cX7_completes 79 = .ok (.invokevirtual 28, 3) := by decide +kernel
theorem dX7_completes_82 : decode cX7_completes 82 = .ok (.invokevirtual 53, 3) := by decide +kernel
theorem dX7_completes_85 : decode cX7_completes 85 = .ok (.pop, 1) := by decide +kernel
theorem dX7_completes_86 : decode cX7_completes 86 = .ok (.iinc 3 1, 3) := by decide +kernel
theorem dX7_completes_89 : decode cX7_completes 89 = .ok (.goto (-24), 3) := by decide +kernel
theorem dX7_completes_92 : decode cX7_completes 92 = .ok (.aload_n 0, 1) := by decide +kernel
theorem dX7_completes_93 : decode cX7_completes 93 = .ok (.iload_n 2, 1) := by decide +kernel
theorem dX7_completes_94 : decode cX7_completes 94 = .ok (.invokestatic 56, 3) := by decide +kernel
theorem dX7_completes_97 : decode cX7_completes 97 = .ok (.putfield 59, 3) := by decide +kernel
theorem dX7_completes_100 : decode cX7_completes 100 = .ok (.aload_n 0, 1) := by decide +kernel
theorem dX7_completes_101 : decode cX7_completes 101 = .ok (.iload_n 2, 1) := by decide +kernel
theorem dX7_completes_102 : decode cX7_completes 102 = .ok (.invokestatic 62, 3) := by decide +kernel
theorem dX7_completes_105 : decode cX7_completes 105 = .ok (.ifCond .ne 7, 3) := by decide +kernel
theorem dX7_completes_108 : decode cX7_completes 108 = .ok (.iconst 1, 1) := by decide +kernel
theorem dX7_completes_109 : decode cX7_completes 109 = .ok (.goto 4, 3) := by decide +kernel
theorem dX7_completes_112 : decode cX7_completes 112 = .ok (.iconst 0, 1) := by decide +kernel
theorem dX7_completes_113 : decode cX7_completes 113 = .ok (.putfield 49, 3) := by decide +kernel
theorem dX7_completes_116 : decode cX7_completes 116 = .ok (.aload_n 0, 1) := by decide +kernel
theorem dX7_completes_117 : decode cX7_completes 117 = .ok (.getfield 49, 3) := by decide +kernel
theorem dX7_completes_120 : decode cX7_completes 120 = .ok (.ifCond .ne 7, 3) := by decide +kernel
theorem dX7_completes_123 : decode cX7_completes 123 = .ok (.iconst 1, 1) := by decide +kernel
theorem dX7_completes_124 : decode cX7_completes 124 = .ok (.goto 4, 3) := by decide +kernel
theorem dX7_completes_127 : decode cX7_completes 127 = .ok (.iconst 0, 1) := by decide +kernel
theorem dX7_completes_128 : decode cX7_completes 128 = .ok (.ireturn, 1) := by decide +kernel
set_option maxRecDepth 100000 in
theorem ggX7_follows_X8_number : GoodIn wsX7_follows wsX8_number := goodIn_r _ [7] rfl (by decide +kernel)
set_option maxRecDepth 20000 in
theorem gX7_follows_X8_number : GoodIn wsX7_follows (va_wsS RX7 56 yX8_number wsX8_number) := goodIn_app (goodIn_of _ (by decide +kernel)) ggX7_follows_X8_number
set_option maxRecDepth 100000 in
theorem ggX7_follows_X8_after : GoodIn wsX7_follows wsX8_after := goodIn_r _ [10] rfl (by decide +kernel)
set_option maxRecDepth 20000 in
theorem gX7_follows_X8_after : GoodIn wsX7_follows (va_wsS RX7 65 yX8_after wsX8_after) := goodIn_app (goodIn_of _ (by decide +kernel)) ggX7_follows_X8_after
set_option maxRecDepth 100000 in
theorem ggX7_follows_X1_hasRoomFor : GoodIn wsX7_follows wsX1_hasRoomFor := goodIn_r _ [15, 16, 17, 22, 23] rfl (by decide +kernel)
set_option maxRecDepth 20000 in
theorem gX7_follows_X1_hasRoomFor : GoodIn wsX7_follows (wsV RX7 68 RX1 yX1_hasRoomFor wsX1_hasRoomFor) := goodIn_app (goodIn_of _ (by decide +kernel)) ggX7_follows_X1_hasRoomFor
theorem dX7_follows_0 : decode cX7_follows 0 = .ok (.aload_n 0, 1) := by decide +kernel
theorem dX7_follows_1 : decode cX7_follows 1 = .ok (.getfield 49, 3) := by decide +kernel
theorem dX7_follows_4 : decode cX7_follows 4 = .ok (.ifCond .eq 32, 3) := by decide +kernel
theorem dX7_follows_7 : decode cX7_follows 7 = .ok (.iload_n 1, 1) := by decide +kernel
theorem dX7_follows_8 : decode cX7_follows 8 = .ok (.invokestatic 56, 3) := by decide +kernel
theorem dX7_follows_11 : decode cX7_follows 11 = .ok (.aload_n 0, 1) := by decide +kernel
theorem dX7_follows_12 : decode cX7_follows 12 = .ok (.getfield 59, 3) := by decide +kernel
theorem dX7_follows_15 : decode cX7_follows 15 = .ok (.invokestatic 65, 3) := by decide +kernel
theorem dX7_follows_18 : decode cX7_follows 18 = .ok (.if_icmp .ne 18, 3) := by decide +kernel
theorem dX7_follows_21 : decode cX7_follows 21 = .ok (.aload_n 0, 1) := by decide +kernel
theorem dX7_follows_22 : decode cX7_follows 22 = .ok (.getfield 14, 3) := by decide +kernel
theorem dX7_follows_25 : decode cX7_follows 25 = .ok (.iload_n 2, 1) := by decide +kernel
theorem dX7_follows_26 : decode cX7_follows 26 = .ok (.invokevirtual 68, 3) := by decide +kernel
theorem dX7_follows_29 : decode cX7_follows 29 = .ok (.ifCond .eq 7, 3) := by decide +kernel
theorem dX7_follows_32 : decode cX7_follows 32 = .ok (.iconst 1, 1) := by decide +kernel
theorem dX7_follows_33 : decode cX7_follows 33 = .ok (.goto 4, 3) := by decide +kernel
theorem dX7_follows_36 : decode cX7_follows 36 = .ok (.iconst 0, 1) := by decide +kernel
theorem dX7_follows_37 : decode cX7_follows 37 = .ok (.ireturn, 1) := by decide +kernel
theorem dX8_firstByte_0 : decode cX8_firstByte 0 = .ok (.iload_n 0, 1) := by decide +kernel
theorem dX8_firstByte_1 : decode cX8_firstByte 1 = .ok (.iload_n 1, 1) := by decide +kernel
theorem dX8_firstByte_2 : decode cX8_firstByte 2 = .ok (.ifCond .eq 8, 3) := by decide +kernel
theorem dX8_firstByte_5 : decode cX8_firstByte 5 = .ok (.bipush 64, 2) := by decide +kernel
theorem dX8_firstByte_7 : decode cX8_firstByte 7 = .ok (.goto 4, 3) := by decide +kernel
theorem dX8_firstByte_10 : decode cX8_firstByte 10 = .ok (.iconst 0, 1) := by decide +kernel
theorem dX8_firstByte_11 : decode cX8_firstByte 11 = .ok (.iadd, 1) := by decide +kernel
theorem dX8_firstByte_12 : decode cX8_firstByte 12 = .ok (.iload_n 2, 1) := by decide +kernel
theorem dX8_firstByte_13 : decode cX8_firstByte 13 = .ok (.ifCond .eq 9, 3) := by decide +kernel
theorem dX8_firstByte_16 : decode cX8_firstByte 16 = .ok (.sipush 128, 3) := by decide +kernel
theorem dX8_firstByte_19 : decode cX8_firstByte 19 = .ok (.goto 4, 3) := by decide +kernel
theorem dX8_firstByte_22 : decode cX8_firstByte 22 = .ok (.iconst 0, 1) := by decide +kernel
theorem dX8_firstByte_23 : decode cX8_firstByte 23 = .ok (.iadd, 1) := by decide +kernel
theorem dX8_firstByte_24 : decode cX8_firstByte 24 = .ok (.ireturn, 1) := by decide +kernel
theorem dX8_isFirst_0 : decode cX8_isFirst 0 = .ok (.iload_n 0, 1) := by decide +kernel
theorem dX8_isFirst_1 : decode cX8_isFirst 1 = .ok (.bipush 64, 2) := by decide +kernel
theorem dX8_isFirst_3 : decode cX8_isFirst 3 = .ok (.iand, 1) := by decide +kernel
theorem dX8_isFirst_4 : decode cX8_isFirst 4 = .ok (.ifCond .eq 7, 3) := by decide +kernel
theorem dX8_isFirst_7 : decode cX8_isFirst 7 = .ok (.iconst 1, 1) := by decide +kernel
theorem dX8_isFirst_8 : decode cX8_isFirst 8 = .ok (.goto 4, 3) := by decide +kernel
theorem dX8_isFirst_11 : decode cX8_isFirst 11 = .ok (.iconst 0, 1) := by decide +kernel
theorem dX8_isFirst_12 : decode cX8_isFirst 12 = .ok (.ireturn, 1) := by decide +kernel
theorem dX8_isLast_0 : decode cX8_isLast 0 = .ok (.iload_n 0, 1) := by decide +kernel
theorem dX8_isLast_1 : decode cX8_isLast 1 = .ok (.sipush 128, 3) := by decide +kernel
theorem dX8_isLast_4 : decode cX8_isLast 4 = .ok (.iand, 1) := by decide +kernel
theorem dX8_isLast_5 : decode cX8_isLast 5 = .ok (.ifCond .eq 7, 3) := by decide +kernel
theorem dX8_isLast_8 : decode cX8_isLast 8 = .ok (.iconst 1, 1) := by decide +kernel
theorem dX8_isLast_9 : decode cX8_isLast 9 = .ok (.goto 4, 3) := by decide +kernel
theorem dX8_isLast_12 : decode cX8_isLast 12 = .ok (.iconst 0, 1) := by decide +kernel
theorem dX8_isLast_13 : decode cX8_isLast 13 = .ok (.ireturn, 1) := by decide +kernel
theorem dX8_number_0 : decode cX8_number 0 = .ok (.iload_n 0, 1) := by decide +kernel
theorem dX8_number_1 : decode cX8_number 1 = .ok (.bipush 64, 2) := by decide +kernel
theorem dX8_number_3 : decode cX8_number 3 = .ok (.irem, 1) := by decide +kernel
theorem dX8_number_4 : decode cX8_number 4 = .ok (.ireturn, 1) := by decide +kernel
theorem dX8_after_0 : decode cX8_after 0 = .ok (.iload_n 0, 1) := by decide +kernel
theorem dX8_after_1 : decode cX8_after 1 = .ok (.iconst 1, 1) := by decide +kernel
theorem dX8_after_2 : decode cX8_after 2 = .ok (.iadd, 1) := by decide +kernel
theorem dX8_after_3 : decode cX8_after 3 = .ok (.bipush 64, 2) := by decide +kernel
theorem dX8_after_5 : decode cX8_after 5 = .ok (.irem, 1) := by decide +kernel
theorem dX8_after_6 : decode cX8_after 6 = .ok (.ireturn, 1) := by decide +kernel
theorem dX9_init_0 : decode cX9_init 0 = .ok (.aload_n 0, 1) := by decide +kernel
theorem dX9_init_1 : decode cX9_init 1 = .ok (.invokespecial 1, 3) := by decide +kernel
theorem dX9_init_4 : decode cX9_init 4 = .ok (.aload_n 0, 1) := by decide +kernel
theorem dX9_init_5 : decode cX9_init 5 = .ok (.aload_n 1, 1) := by decide +kernel
theorem dX9_init_6 : decode cX9_init 6 = .ok (.putfield 7, 3) := by decide +kernel
theorem dX9_init_9 : decode cX9_init 9 = .ok (.aload_n 0, 1) := by decide +kernel
theorem dX9_init_10 : decode cX9_init 10 = .ok (.iload_n 2, 1) := by decide +kernel
theorem dX9_init_11 : decode cX9_init 11 = .ok (.putfield 13, 3) := by decide +kernel
theorem dX9_init_14 : decode cX9_init 14 = .ok (.return_, 1) := by decide +kernel
set_option maxRecDepth 100000 in
theorem ggX9_send_X1_size : GoodIn wsX9_send wsX1_size := goodIn_r _ [12, 13, 80, 81] rfl (by decide +kernel)
set_option maxRecDepth 20000 in
theorem gX9_send_X1_size : GoodIn wsX9_send (wsV RX9 17 RX1 yX1_size wsX1_size) := goodIn_app (goodIn_of _ (by decide +kernel)) ggX9_send_X1_size
set_option maxRecDepth 100000 in
theorem ggX9_send_X8_firstByte : GoodIn wsX9_send wsX8_firstByte := goodIn_r _ [17] rfl (by decide +kernel)
set_option maxRecDepth 20000 in
theorem gX9_send_X8_firstByte : GoodIn wsX9_send (va_wsS RX9 34 yX8_firstByte wsX8_firstByte) := goodIn_app (goodIn_of _ (by decide +kernel)) ggX9_send_X8_firstByte
set_option maxRecDepth 100000 in
theorem ggX9_send_X5_launch : GoodIn wsX9_send wsX5_launch := goodIn_r _ [22, 23, 24, 25, 26, 27, 21, 28, 29, 30, 31, 32, 82, 83] rfl (by decide +kernel)
set_option maxRecDepth 20000 in
theorem gX9_send_X5_launch : GoodIn wsX9_send (wsV RX9 38 RX5 yX5_launch wsX5_launch) := goodIn_app (goodIn_of _ (by decide +kernel)) ggX9_send_X5_launch
set_option maxRecDepth 100000 in
theorem ggX9_send_X3_pack : GoodIn wsX9_send wsX3_pack := goodIn_r _ [37, 38, 39, 40, 41, 42, 11, 43, 13, 44, 45, 46, 47, 48, 49, 50, 51, 36, 52, 53, 54, 55, 56, 57, 58, 59, 60, 61, 62, 63, 64, 65, 66, 67, 68, 69, 70, 71, 72, 9, 10, 12, 73, 84, 85, 80, 81] rfl (by decide +kernel)
set_option maxRecDepth 20000 in
theorem gX9_send_X3_pack : GoodIn wsX9_send (wsV RX9 44 RX3 yX3_pack wsX3_pack) := goodIn_app (goodIn_of _ (by decide +kernel)) ggX9_send_X3_pack
set_option maxRecDepth 100000 in
theorem ggX9_send_X8_after : GoodIn wsX9_send wsX8_after := goodIn_r _ [76] rfl (by decide +kernel)
set_option maxRecDepth 20000 in
theorem gX9_send_X8_after : GoodIn wsX9_send (va_wsS RX9 50 yX8_after wsX8_after) := goodIn_app (goodIn_of _ (by decide +kernel)) ggX9_send_X8_after
theorem dX9_send_0 : decode cX9_send 0 = .ok (.aload_n 1, 1) := by decide +kernel
theorem dX9_send_1 : decode cX9_send 1 = .ok (.invokevirtual 17, 3) := by decide +kernel
theorem dX9_send_4 : decode cX9_send 4 = .ok (.istore_n 2, 1) := by decide +kernel
theorem dX9_send_5 : decode cX9_send 5 = .ok (.iconst 0, 1) := by decide +kernel
theorem dX9_send_6 : decode cX9_send 6 = .ok (.istore_n 3, 1) := by decide +kernel
theorem dX9_send_7 : decode cX9_send 7 = .ok (.iload_n 3, 1) := by decide +kernel
theorem dX9_send_8 : decode cX9_send 8 = .ok (.iload_n 2, 1) := by decide +kernel
theorem dX9_send_9 : decode cX9_send 9 = .ok (.if_icmp .ge 81, 3) := by decide +kernel
theorem dX9_send_12 : decode cX9_send 12 = .ok (.bipush 20, 2) := by decide +kernel
theorem dX9_send_14 : decode cX9_send 14 = .ok (.iload_n 2, 1) := by decide +kernel
theorem dX9_send_15 : decode cX9_send 15 = .ok (.iload_n 3, 1) := by decide +kernel
theorem dX9_send_16 : decode cX9_send 16 = .ok (.isub, 1) := by decide +kernel
theorem dX9_send_17 : decode cX9_send 17 = .ok (.invokestatic 25, 3) := by decide +kernel
theorem dX9_send_20 : decode cX9_send 20 = .ok (.istore 4, 2) := by decide +kernel
theorem dX9_send_22 : decode cX9_send 22 = .ok (.aload_n 0, 1) := by decide +kernel
theorem dX9_send_23 : decode cX9_send 23 = .ok (.getfield 31, 3) := by decide +kernel
theorem dX9_send_26 : decode cX9_send 26 = .ok (.iload_n 3, 1) := by decide +kernel
theorem dX9_send_27 : decode cX9_send 27 = .ok (.ifCond .ne 7, 3) := by decide +kernel
theorem dX9_send_30 : decode cX9_send 30 = .ok (.iconst 1, 1) := by decide +kernel
theorem dX9_send_31 : decode cX9_send 31 = .ok (.goto 4, 3) := by decide +kernel
theorem dX9_send_34 : decode cX9_send 34 = .ok (.iconst 0, 1) := by decide +kernel
theorem dX9_send_35 : decode cX9_send 35 = .ok (.iload_n 3, 1) := by decide +kernel
theorem dX9_send_36 : decode cX9_send 36 = .ok (.iload 4, 2) := by decide +kernel
theorem dX9_send_38 : decode cX9_send 38 = .ok (.iadd, 1) := by decide +kernel
theorem dX9_send_39 : decode cX9_send 39 = .ok (.iload_n 2, 1) := by decide +kernel
theorem dX9_send_40 : decode cX9_send 40 = .ok (.if_icmp .ne 7, 3) := by decide +kernel
theorem dX9_send_43 : decode cX9_send 43 = .ok (.iconst 1, 1) := by decide +kernel
theorem dX9_send_44 : decode cX9_send 44 = .ok (.goto 4, 3) := by decide +kernel
theorem dX9_send_47 : decode cX9_send 47 = .ok (.iconst 0, 1) := by decide +kernel
theorem dX9_send_48 : decode cX9_send 48 = .ok (.invokestatic 34, 3) := by decide +kernel
theorem dX9_send_51 : decode cX9_send 51 = .ok (.istore 5, 2) := by decide +kernel
theorem dX9_send_53 : decode cX9_send 53 = .ok (.aload_n 0, 1) := by decide +kernel
theorem dX9_send_54 : decode cX9_send 54 = .ok (.getfield 7, 3) := by decide +kernel
theorem dX9_send_57 : decode cX9_send 57 = .ok (.invokevirtual 38, 3) := by decide +kernel
theorem dX9_send_60 : decode cX9_send 60 = .ok (.aload_n 0, 1) := by decide +kernel
theorem dX9_send_61 : decode cX9_send 61 = .ok (.getfield 13, 3) := by decide +kernel
theorem dX9_send_64 : decode cX9_send 64 = .ok (.iload 5, 2) := by decide +kernel
theorem dX9_send_66 : decode cX9_send 66 = .ok (.aload_n 1, 1) := by decide +kernel
theorem dX9_send_67 : decode cX9_send 67 = .ok (.iload_n 3, 1) := by decide +kernel
theorem dX9_send_68 : decode cX9_send 68 = .ok (.iload 4, 2) := by decide +kernel
theorem dX9_send_70 : decode cX9_send 70 = .ok (.invokevirtual 44, 3) := by decide +kernel
theorem dX9_send_73 : decode cX9_send 73 = .ok (.aload_n 0, 1) := by decide +kernel
theorem dX9_send_74 : decode cX9_send 74 = .ok (.aload_n 0, 1) := by decide +kernel
theorem dX9_send_75 : decode cX9_send 75 = .ok (.getfield 31, 3) := by decide +kernel
theorem dX9_send_78 : decode cX9_send 78 = .ok (.invokestatic 50, 3) := by decide +kernel
theorem dX9_send_81 : decode cX9_send 81 = .ok (.putfield 31, 3) := by decide +kernel
theorem dX9_send_84 : decode cX9_send 84 = .ok (.iinc 3 20, 3) := by decide +kernel
theorem dX9_send_87 : decode cX9_send 87 = .ok (.goto (-80), 3) := by decide +kernel
theorem dX9_send_90 : decode cX9_send 90 = .ok (.return_, 1) := by decide +kernel
set_option maxRecDepth 100000 in
theorem ggX10_init_X1_init : GoodIn wsX10_init wsX1_init := goodIn_r _ [21, 22, 2, 3, 4, 23, 47, 48] rfl (by decide +kernel)
set_option maxRecDepth 20000 in
theorem gX10_init_X1_init : GoodIn wsX10_init (wsX1_init) := ggX10_init_X1_init
set_option maxRecDepth 100000 in
theorem ggX10_init_X2_init : GoodIn wsX10_init wsX2_init := goodIn_r _ [25, 26, 2, 3, 4, 27, 28, 29, 49, 50, 51, 52, 53] rfl (by decide +kernel)
set_option maxRecDepth 20000 in
theorem gX10_init_X2_init_n47 : GoodIn wsX10_init (wsX2_init) := ggX10_init_X2_init
theorem dX10_init_0 : decode cX10_init 0 = .ok (.aload_n 0, 1) := by decide +kernel
theorem dX10_init_1 : decode cX10_init 1 = .ok (.invokespecial 3, 3) := by decide +kernel
theorem dX10_init_4 : decode cX10_init 4 = .ok (.aload_n 0, 1) := by decide +kernel
theorem dX10_init_5 : decode cX10_init 5 = .ok (.bipush 10, 2) := by decide +kernel
theorem dX10_init_7 : decode cX10_init 7 = .ok (.newarray .int, 2) := by decide +kernel
theorem dX10_init_9 : decode cX10_init 9 = .ok (.putfield 9, 3) := by decide +kernel
theorem dX10_init_12 : decode cX10_init 12 = .ok (.aload_n 0, 1) := by decide +kernel
theorem dX10_init_13 : decode cX10_init 13 = .ok (.bipush 10, 2) := by decide +kernel
theorem dX10_init_15 : decode cX10_init 15 = .ok (.newarray .int, 2) := by decide +kernel
theorem dX10_init_17 : decode cX10_init 17 = .ok (.putfield 15, 3) := by decide +kernel
theorem dX10_init_20 : decode cX10_init 20 = .ok (.aload_n 0, 1) := by decide +kernel
theorem dX10_init_21 : decode cX10_init 21 = .ok (.bipush 10, 2) := by decide +kernel
theorem dX10_init_23 : decode cX10_init 23 = .ok (.newarray .int, 2) := by decide +kernel
theorem dX10_init_25 : decode cX10_init 25 = .ok (.putfield 18, 3) := by decide +kernel
theorem dX10_init_28 : decode cX10_init 28 = .ok (.aload_n 0, 1) := by decide +kernel
theorem dX10_init_29 : decode cX10_init 29 = .ok (.iconst 3, 1) := by decide +kernel
theorem dX10_init_30 : decode cX10_init 30 = .ok (.anewarray 21, 3) := by decide +kernel
theorem dX10_init_33 : decode cX10_init 33 = .ok (.putfield 23, 3) := by decide +kernel
theorem dX10_init_36 : decode cX10_init 36 = .ok (.aload_n 0, 1) := by decide +kernel
theorem dX10_init_37 : decode cX10_init 37 = .ok (.new 27, 3) := by decide +kernel
theorem dX10_init_40 : decode cX10_init 40 = .ok (.dup, 1) := by decide +kernel
theorem dX10_init_41 : decode cX10_init 41 = .ok (.sipush 160, 3) := by decide +kernel
theorem dX10_init_44 : decode cX10_init 44 = .ok (.invokespecial 29, 3) := by decide +kernel
theorem dX10_init_47 : decode cX10_init 47 = .ok (.putfield 32, 3) := by decide +kernel
theorem dX10_init_50 : decode cX10_init 50 = .ok (.aload_n 0, 1) := by decide +kernel
theorem dX10_init_51 : decode cX10_init 51 = .ok (.new 27, 3) := by decide +kernel
theorem dX10_init_54 : decode cX10_init 54 = .ok (.dup, 1) := by decide +kernel
theorem dX10_init_55 : decode cX10_init 55 = .ok (.sipush 160, 3) := by decide +kernel
theorem dX10_init_58 : decode cX10_init 58 = .ok (.invokespecial 29, 3) := by decide +kernel
theorem dX10_init_61 : decode cX10_init 61 = .ok (.putfield 36, 3) := by decide +kernel
theorem dX10_init_64 : decode cX10_init 64 = .ok (.aload_n 0, 1) := by decide +kernel
theorem dX10_init_65 : decode cX10_init 65 = .ok (.iconst 0, 1) := by decide +kernel
theorem dX10_init_66 : decode cX10_init 66 = .ok (.putfield 39, 3) := by decide +kernel
theorem dX10_init_69 : decode cX10_init 69 = .ok (.aload_n 0, 1) := by decide +kernel
theorem dX10_init_70 : decode cX10_init 70 = .ok (.aload_n 1, 1) := by decide +kernel
theorem dX10_init_71 : decode cX10_init 71 = .ok (.putfield 43, 3) := by decide +kernel
theorem dX10_init_74 : decode cX10_init 74 = .ok (.iconst 0, 1) := by decide +kernel
theorem dX10_init_75 : decode cX10_init 75 = .ok (.istore_n 2, 1) := by decide +kernel
theorem dX10_init_76 : decode cX10_init 76 = .ok (.iload_n 2, 1) := by decide +kernel
theorem dX10_init_77 : decode cX10_init 77 = .ok (.iconst 3, 1) := by decide +kernel
theorem dX10_init_78 : decode cX10_init 78 = .ok (.if_icmp .ge 22, 3) := by decide +kernel
theorem dX10_init_81 : decode cX10_init 81 = .ok (.aload_n 0, 1) := by decide +kernel
theorem dX10_init_82 : decode cX10_init 82 = .ok (.getfield 23, 3) := by decide +kernel
theorem dX10_init_85 : decode cX10_init 85 = .ok (.iload_n 2, 1) := by decide +kernel
theorem dX10_init_86 : decode cX10_init 86 = .ok (.new 21, 3) := by decide +kernel
theorem dX10_init_89 : decode cX10_init 89 = .ok (.dup, 1) := by decide +kernel
theorem dX10_init_90 : decode cX10_init 90 = .ok (.invokespecial 47, 3) := by decide +kernel
theorem dX10_init_93 : decode cX10_init 93 = .ok (.aastore, 1) := by decide +kernel
theorem dX10_init_94 : decode cX10_init 94 = .ok (.iinc 2 1, 3) := by decide +kernel
theorem dX10_init_97 : decode cX10_init 97 = .ok (.goto (-21), 3) := by decide +kernel
theorem dX10_init_100 : decode cX10_init 100 = .ok (.iconst 0, 1) := by decide +kernel
theorem dX10_init_101 : decode cX10_init 101 = .ok (.istore_n 2, 1) := by decide +kernel
theorem dX10_init_102 : decode cX10_init 102 = .ok (.iload_n 2, 1) := by decide +kernel
theorem dX10_init_103 : decode cX10_init 103 = .ok (.bipush 10, 2) := by decide +kernel
theorem dX10_init_105 : decode cX10_init 105 = .ok (.if_icmp .ge 16, 3) := by decide +kernel
theorem dX10_init_108 : decode cX10_init 108 = .ok (.aload_n 0, 1) := by decide +kernel
theorem dX10_init_109 : decode cX10_init 109 = .ok (.getfield 18, 3) := by decide +kernel
theorem dX10_init_112 : decode cX10_init 112 = .ok (.iload_n 2, 1) := by decide +kernel
theorem dX10_init_113 : decode cX10_init 113 = .ok (.iconst (-1), 1) := by decide +kernel
theorem dX10_init_114 : decode cX10_init 114 = .ok (.iastore, 1) := by decide +kernel
theorem dX10_init_115 : decode cX10_init 115 = .ok (.iinc 2 1, 3) := by decide +kernel
theorem dX10_init_118 : decode cX10_init 118 = .ok (.goto (-16), 3) := by decide +kernel
theorem dX10_init_121 : decode cX10_init 121 = .ok (.return_, 1) := by decide +kernel
theorem dX10_classify_0 : decode cX10_classify 0 = .ok (.iload_n 1, 1) := by decide +kernel
theorem dX10_classify_1 : decode cX10_classify 1 = .ok (.ifCond .lt 18, 3) := by decide +kernel
theorem dX10_classify_4 : decode cX10_classify 4 = .ok (.iload_n 1, 1) := by decide +kernel
theorem dX10_classify_5 : decode cX10_classify 5 = .ok (.bipush 10, 2) := by decide +kernel
theorem dX10_classify_7 : decode cX10_classify 7 = .ok (.if_icmp .ge 12, 3) := by decide +kernel
theorem dX10_classify_10 : decode cX10_classify 10 = .ok (.iload_n 2, 1) := by decide +kernel
theorem dX10_classify_11 : decode cX10_classify 11 = .ok (.ifCond .lt 8, 3) := by decide +kernel
theorem dX10_classify_14 : decode cX10_classify 14 = .ok (.iload_n 2, 1) := by decide +kernel
theorem dX10_classify_15 : decode cX10_classify 15 = .ok (.iconst 3, 1) := by decide +kernel
theorem dX10_classify_16 : decode cX10_classify 16 = .ok (.if_icmp .le 5, 3) := by decide +kernel
theorem dX10_classify_19 : decode cX10_classify 19 = .ok (.iconst 0, 1) := by decide +kernel
theorem dX10_classify_20 : decode cX10_classify 20 = .ok (.ireturn, 1) := by decide +kernel
theorem dX10_classify_21 : decode cX10_classify 21 = .ok (.aload_n 0, 1) := by decide +kernel
theorem dX10_classify_22 : decode cX10_classify 22 = .ok (.getfield 9, 3) := by decide +kernel
theorem dX10_classify_25 : decode cX10_classify 25 = .ok (.iload_n 1, 1) := by decide +kernel
theorem dX10_classify_26 : decode cX10_classify 26 = .ok (.iload_n 2, 1) := by decide +kernel
theorem dX10_classify_27 : decode cX10_classify 27 = .ok (.iastore, 1) := by decide +kernel
theorem dX10_classify_28 : decode cX10_classify 28 = .ok (.iconst 1, 1) := by decide +kernel
theorem dX10_classify_29 : decode cX10_classify 29 = .ok (.ireturn, 1) := by decide +kernel
set_option maxRecDepth 100000 in
theorem ggX10_changeValue_X2_add : GoodIn wsX10_changeValue wsX2_add := goodIn_r _ [13, 14, 15, 16, 17, 18, 19, 20, 12, 21, 22, 23, 24, 25, 26, 44, 45, 46, 47, 48] rfl (by decide +kernel)
set_option maxRecDepth 20000 in
theorem gX10_changeValue_X2_add : GoodIn wsX10_changeValue (wsV RX10 52 RX2 yX2_add wsX2_add) := goodIn_app (goodIn_of _ (by decide +kernel)) ggX10_changeValue_X2_add
theorem dX10_changeValue_0 : decode cX10_changeValue 0 = .ok (.iload_n 1, 1) := by decide +kernel
theorem dX10_changeValue_1 : decode cX10_changeValue 1 = .ok (.ifCond .lt 32, 3) := by decide +kernel
theorem dX10_changeValue_4 : decode cX10_changeValue 4 = .ok (.iload_n 1, 1) := by decide +kernel
theorem dX10_changeValue_5 : decode cX10_changeValue 5 = .ok (.bipush 10, 2) := by decide +kernel
theorem dX10_changeValue_7 : decode cX10_changeValue 7 = .ok (.if_icmp .ge 26, 3) := by decide +kernel
theorem dX10_changeValue_10 : decode cX10_changeValue 10 = .ok (.iload_n 2, 1) := by decide +kernel
theorem dX10_changeValue_11 : decode cX10_changeValue 11 = .ok (.ifCond .lt 22, 3) := by decide +kernel
theorem dX10_changeValue_14 : decode cX10_changeValue 14 = .ok (.iload_n 2, 1) := by decide +kernel
theorem dX10_changeValue_15 : decode cX10_changeValue 15 = .ok (.ldc 48, 2) := by decide +kernel
theorem dX10_changeValue_17 : decode cX10_changeValue 17 = .ok (.if_icmp .gt 16, 3) := by decide +kernel
theorem dX10_changeValue_20 : decode cX10_changeValue 20 = .ok (.aload_n 0, 1) := by decide +kernel
theorem dX10_changeValue_21 : decode cX10_changeValue 21 = .ok (.getfield 18, 3) := by decide +kernel
theorem dX10_changeValue_24 : decode cX10_changeValue 24 = .ok (.iload_n 1, 1) := by decide +kernel
theorem dX10_changeValue_25 : decode cX10_changeValue 25 = .ok (.iaload, 1) := by decide +kernel
theorem dX10_changeValue_26 : decode cX10_changeValue 26 = .ok (.aload_n 0, 1) := by decide +kernel
theorem dX10_changeValue_27 : decode cX10_changeValue 27 = .ok (.getfield 49, 3) := by decide +kernel
theorem dX10_changeValue_30 : decode cX10_changeValue 30 = .ok (.if_icmp .ne 5, 3) := by decide +kernel
theorem dX10_changeValue_33 : decode cX10_changeValue 33 = .ok (.iconst 0, 1) := by decide +kernel
theorem dX10_changeValue_34 : decode cX10_changeValue 34 = .ok (.ireturn, 1) := by decide +kernel
theorem dX10_changeValue_35 : decode cX10_changeValue 35 = .ok (.aload_n 0, 1) := by decide +kernel
theorem dX10_changeValue_36 : decode cX10_changeValue 36 = .ok (.getfield 15, 3) := by decide +kernel
theorem dX10_changeValue_39 : decode cX10_changeValue 39 = .ok (.iload_n 1, 1) := by decide +kernel
theorem dX10_changeValue_40 : decode cX10_changeValue 40 = .ok (.iload_n 2, 1) := by decide +kernel
theorem dX10_changeValue_41 : decode cX10_changeValue 41 = .ok (.iastore, 1) := by decide +kernel
theorem dX10_changeValue_42 : decode cX10_changeValue 42 = .ok (.aload_n 0, 1) := by decide +kernel
theorem dX10_changeValue_43 : decode cX10_changeValue 43 = .ok (.getfield 18, 3) := by decide +kernel
theorem dX10_changeValue_46 : decode cX10_changeValue 46 = .ok (.iload_n 1, 1) := by decide +kernel
theorem dX10_changeValue_47 : decode cX10_changeValue 47 = .ok (.aload_n 0, 1) := by decide +kernel
theorem dX10_changeValue_48 : decode cX10_changeValue 48 = .ok (.getfield 49, 3) := by decide +kernel
theorem dX10_changeValue_51 : decode cX10_changeValue 51 = .ok (.iastore, 1) := by decide +kernel
theorem dX10_changeValue_52 : decode cX10_changeValue 52 = .ok (.aload_n 0, 1) := by decide +kernel
theorem dX10_changeValue_53 : decode cX10_changeValue 53 = .ok (.getfield 9, 3) := by decide +kernel
theorem dX10_changeValue_56 : decode cX10_changeValue 56 = .ok (.iload_n 1, 1) := by decide +kernel
theorem dX10_changeValue_57 : decode cX10_changeValue 57 = .ok (.iaload, 1) := by decide +kernel
theorem dX10_changeValue_58 : decode cX10_changeValue 58 = .ok (.ifCond .le 43, 3) := by decide +kernel
theorem dX10_changeValue_61 : decode cX10_changeValue 61 = .ok (.aload_n 0, 1) := by decide +kernel
theorem dX10_changeValue_62 : decode cX10_changeValue 62 = .ok (.getfield 23, 3) := by decide +kernel
theorem dX10_changeValue_65 : decode cX10_changeValue 65 = .ok (.aload_n 0, 1) := by decide +kernel
theorem dX10_changeValue_66 : decode cX10_changeValue 66 = .ok (.getfield 9, 3) := by decide +kernel
theorem dX10_changeValue_69 : decode cX10_changeValue 69 = .ok (.iload_n 1, 1) := by decide +kernel
theorem dX10_changeValue_70 : decode cX10_changeValue 70 = .ok (.iaload, 1) := by decide +kernel
theorem dX10_changeValue_71 : decode cX10_changeValue 71 = .ok (.iconst 1, 1) := by decide +kernel
theorem dX10_changeValue_72 : decode cX10_changeValue 72 = .ok (.isub, 1) := by decide +kernel
theorem dX10_changeValue_73 : decode cX10_changeValue 73 = .ok (.aaload, 1) := by decide +kernel
theorem dX10_changeValue_74 : decode cX10_changeValue 74 = .ok (.iload_n 1, 1) := by decide +kernel
theorem dX10_changeValue_75 : decode cX10_changeValue 75 = .ok (.iload_n 2, 1) := by decide +kernel
theorem dX10_changeValue_76 : decode cX10_changeValue 76 = .ok (.aload_n 0, 1) := by decide +kernel
theorem dX10_changeValue_77 : decode cX10_changeValue 77 = .ok (.getfield 49, 3) := by decide +kernel
theorem dX10_changeValue_80 : decode cX10_changeValue 80 = .ok (.invokevirtual 52, 3) := by decide +kernel
theorem dX10_changeValue_83 : decode cX10_changeValue 83 = .ok (.ifCond .eq 18, 3) := by decide +kernel
theorem dX10_changeValue_86 : decode cX10_changeValue 86 = .ok (.aload_n 0, 1) := by decide +kernel
theorem dX10_changeValue_87 : decode cX10_changeValue 87 = .ok (.dup, 1) := by decide +kernel
theorem dX10_changeValue_88 : decode cX10_changeValue 88 = .ok (.getfield 56, 3) := by decide +kernel
theorem dX10_changeValue_91 : decode cX10_changeValue 91 = .ok (.iconst 1, 1) := by decide +kernel
theorem dX10_changeValue_92 : decode cX10_changeValue 92 = .ok (.iadd, 1) := by decide +kernel
theorem dX10_changeValue_93 : decode cX10_changeValue 93 = .ok (.putfield 56, 3) := by decide +kernel
theorem dX10_changeValue_96 : decode cX10_changeValue 96 = .ok (.aload_n 0, 1) := by decide +kernel
theorem dX10_changeValue_97 : decode cX10_changeValue 97 = .ok (.iconst 1, 1) := by decide +kernel
theorem dX10_changeValue_98 : decode cX10_changeValue 98 = .ok (.putfield 59, 3) := by decide +kernel
theorem dX10_changeValue_101 : decode cX10_changeValue 101 = .ok (.iconst 1, 1) := by decide +kernel
theorem dX10_changeValue_102 : decode cX10_changeValue 102 = .ok (.ireturn, 1) := by decide +kernel
set_option maxRecDepth 100000 in
theorem ggX10_keptEvent_X4_isClass : GoodIn wsX10_keptEvent wsX4_isClass := goodIn_r _ [5] rfl (by decide +kernel)
set_option maxRecDepth 20000 in
theorem gX10_keptEvent_X4_isClass : GoodIn wsX10_keptEvent (va_wsS RX10 63 yX4_isClass wsX4_isClass) := goodIn_app (goodIn_of _ (by decide +kernel)) ggX10_keptEvent_X4_isClass
set_option maxRecDepth 100000 in
theorem ggX10_keptEvent_X2_get : GoodIn wsX10_keptEvent wsX2_get := goodIn_r _ [10, 11, 12, 13, 14, 15, 33, 34, 35, 36, 37] rfl (by decide +kernel)
set_option maxRecDepth 20000 in
theorem gX10_keptEvent_X2_get : GoodIn wsX10_keptEvent (wsV RX10 69 RX2 yX2_get wsX2_get) := goodIn_app (goodIn_of _ (by decide +kernel)) ggX10_keptEvent_X2_get
theorem dX10_keptEvent_0 : decode cX10_keptEvent 0 = .ok (.iload_n 1, 1) := by decide +kernel
theorem dX10_keptEvent_1 : decode cX10_keptEvent 1 = .ok (.invokestatic 63, 3) := by decide +kernel
theorem dX10_keptEvent_4 : decode cX10_keptEvent 4 = .ok (.ifCond .eq 19, 3) := by decide +kernel
theorem dX10_keptEvent_7 : decode cX10_keptEvent 7 = .ok (.aload_n 0, 1) := by decide +kernel
theorem dX10_keptEvent_8 : decode cX10_keptEvent 8 = .ok (.getfield 23, 3) := by decide +kernel
theorem dX10_keptEvent_11 : decode cX10_keptEvent 11 = .ok (.iload_n 1, 1) := by decide +kernel
theorem dX10_keptEvent_12 : decode cX10_keptEvent 12 = .ok (.iconst 1, 1) := by decide +kernel
theorem dX10_keptEvent_13 : decode cX10_keptEvent 13 = .ok (.isub, 1) := by decide +kernel
theorem dX10_keptEvent_14 : decode cX10_keptEvent 14 = .ok (.aaload, 1) := by decide +kernel
theorem dX10_keptEvent_15 : decode cX10_keptEvent 15 = .ok (.iload_n 2, 1) := by decide +kernel
theorem dX10_keptEvent_16 : decode cX10_keptEvent 16 = .ok (.iload_n 3, 1) := by decide +kernel
theorem dX10_keptEvent_17 : decode cX10_keptEvent 17 = .ok (.invokevirtual 69, 3) := by decide +kernel
theorem dX10_keptEvent_20 : decode cX10_keptEvent 20 = .ok (.goto 4, 3) := by decide +kernel
theorem dX10_keptEvent_23 : decode cX10_keptEvent 23 = .ok (.iconst (-1), 1) := by decide +kernel
theorem dX10_keptEvent_24 : decode cX10_keptEvent 24 = .ok (.ireturn, 1) := by decide +kernel
set_option maxRecDepth 100000 in
theorem ggX10_allowReports_X10_waitNoMore : GoodIn wsX10_allowReports wsX10_waitNoMore := goodIn_r _ [7, 2, 8, 9, 10, 11, 12, 13, 14, 15, 16, 17, 18, 19, 20, 21, 22, 23, 24, 25, 26, 27, 28, 29, 30, 31, 32, 33, 34, 35, 36] rfl (by decide +kernel)
set_option maxRecDepth 20000 in
theorem gX10_allowReports_X10_waitNoMore : GoodIn wsX10_allowReports (wsV RX10 76 RX10 yX10_waitNoMore wsX10_waitNoMore) := goodIn_app (goodIn_of _ (by decide +kernel)) ggX10_allowReports_X10_waitNoMore
theorem dX10_allowReports_0 : decode cX10_allowReports 0 = .ok (.aload_n 0, 1) := by decide +kernel
