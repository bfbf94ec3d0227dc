theorem dX5_frame_21 : decode cX5_frame 21 = .ok (.aaload, 1) := by decide +kernel
theorem dX5_frame_22 : decode cX5_frame 22 = .ok (.areturn, 1) := by decide +kernel
set_option maxRecDepth 100000 in
theorem ggX5_takeOut_X5_frame : GoodIn wsX5_takeOut wsX5_frame := goodIn_r _ [7, 1, 2, 8, 9] rfl (by decide +kernel)
set_option maxRecDepth 20000 in
theorem gX5_takeOut_X5_frame : GoodIn wsX5_takeOut (wsV RX5 20 RX5 yX5_frame wsX5_frame) := goodIn_app (goodIn_of _ (by decide +kernel)) ggX5_takeOut_X5_frame
theorem dX5_takeOut_0 : decode cX5_takeOut 0 = .ok (.aload_n 0, 1) := by decide +kernel
theorem dX5_takeOut_1 : decode cX5_takeOut 1 = .ok (.iload_n 1, 1) := by decide +kernel
theorem dX5_takeOut_2 : decode cX5_takeOut 2 = .ok (.invokevirtual 20, 3) := by decide +kernel
theorem dX5_takeOut_5 : decode cX5_takeOut 5 = .ok (.astore_n 2, 1) := by decide +kernel
theorem dX5_takeOut_6 : decode cX5_takeOut 6 = .ok (.aload_n 2, 1) := by decide +kernel
theorem dX5_takeOut_7 : decode cX5_takeOut 7 = .ok (.ifnonnull 5, 3) := by decide +kernel
theorem dX5_takeOut_10 : decode cX5_takeOut 10 = .ok (.aconst_null, 1) := by decide +kernel
theorem dX5_takeOut_11 : decode cX5_takeOut 11 = .ok (.areturn, 1) := by decide +kernel
theorem dX5_takeOut_12 : decode cX5_takeOut 12 = .ok (.aload_n 0, 1) := by decide +kernel
theorem dX5_takeOut_13 : decode cX5_takeOut 13 = .ok (.dup, 1) := by decide +kernel
theorem dX5_takeOut_14 : decode cX5_takeOut 14 = .ok (.getfield 16, 3) := by decide +kernel
theorem dX5_takeOut_17 : decode cX5_takeOut 17 = .ok (.iconst 1, 1) := by decide +kernel
theorem dX5_takeOut_18 : decode cX5_takeOut 18 = .ok (.isub, 1) := by decide +kernel
theorem dX5_takeOut_19 : decode cX5_takeOut 19 = .ok (.putfield 16, 3) := by decide +kernel
theorem dX5_takeOut_22 : decode cX5_takeOut 22 = .ok (.iload_n 1, 1) := by decide +kernel
theorem dX5_takeOut_23 : decode cX5_takeOut 23 = .ok (.istore_n 3, 1) := by decide +kernel
theorem dX5_takeOut_24 : decode cX5_takeOut 24 = .ok (.iload_n 3, 1) := by decide +kernel
theorem dX5_takeOut_25 : decode cX5_takeOut 25 = .ok (.aload_n 0, 1) := by decide +kernel
theorem dX5_takeOut_26 : decode cX5_takeOut 26 = .ok (.getfield 16, 3) := by decide +kernel
theorem dX5_takeOut_29 : decode cX5_takeOut 29 = .ok (.if_icmp .ge 23, 3) := by decide +kernel
theorem dX5_takeOut_32 : decode cX5_takeOut 32 = .ok (.aload_n 0, 1) := by decide +kernel
theorem dX5_takeOut_33 : decode cX5_takeOut 33 = .ok (.getfield 11, 3) := by decide +kernel
theorem dX5_takeOut_36 : decode cX5_takeOut 36 = .ok (.iload_n 3, 1) := by decide +kernel
theorem dX5_takeOut_37 : decode cX5_takeOut 37 = .ok (.aload_n 0, 1) := by decide +kernel
theorem dX5_takeOut_38 : decode cX5_takeOut 38 = .ok (.getfield 11, 3) := by decide +kernel
theorem dX5_takeOut_41 : decode cX5_takeOut 41 = .ok (.iload_n 3, 1) := by decide +kernel
theorem dX5_takeOut_42 : decode cX5_takeOut 42 = .ok (.iconst 1, 1) := by decide +kernel
theorem dX5_takeOut_43 : decode cX5_takeOut 43 = .ok (.iadd, 1) := by decide +kernel
theorem dX5_takeOut_44 : decode cX5_takeOut 44 = .ok (.aaload, 1) := by decide +kernel
theorem dX5_takeOut_45 : decode cX5_takeOut 45 = .ok (.aastore, 1) := by decide +kernel
theorem dX5_takeOut_46 : decode cX5_takeOut 46 = .ok (.iinc 3 1, 3) := by decide +kernel
theorem dX5_takeOut_49 : decode cX5_takeOut 49 = .ok (.goto (-25), 3) := by decide +kernel
theorem dX5_takeOut_52 : decode cX5_takeOut 52 = .ok (.aload_n 0, 1) := by decide +kernel
theorem dX5_takeOut_53 : decode cX5_takeOut 53 = .ok (.getfield 11, 3) := by decide +kernel
theorem dX5_takeOut_56 : decode cX5_takeOut 56 = .ok (.aload_n 0, 1) := by decide +kernel
theorem dX5_takeOut_57 : decode cX5_takeOut 57 = .ok (.getfield 16, 3) := by decide +kernel
theorem dX5_takeOut_60 : decode cX5_takeOut 60 = .ok (.aload_n 2, 1) := by decide +kernel
theorem dX5_takeOut_61 : decode cX5_takeOut 61 = .ok (.aastore, 1) := by decide +kernel
theorem dX5_takeOut_62 : decode cX5_takeOut 62 = .ok (.aload_n 2, 1) := by decide +kernel
theorem dX5_takeOut_63 : decode cX5_takeOut 63 = .ok (.areturn, 1) := by decide +kernel
set_option maxRecDepth 100000 in
theorem ggX5_launch_X5_takeOut : GoodIn wsX5_launch wsX5_takeOut := goodIn_r _ [7, 1, 2, 8, 9, 10, 6, 11, 12, 13] rfl (by decide +kernel)
set_option maxRecDepth 20000 in
theorem gX5_launch_X5_takeOut : GoodIn wsX5_launch (wsV RX5 24 RX5 yX5_takeOut wsX5_takeOut) := goodIn_app (goodIn_of _ (by decide +kernel)) ggX5_launch_X5_takeOut
theorem dX5_launch_0 : decode cX5_launch 0 = .ok (.aload_n 0, 1) := by decide +kernel
theorem dX5_launch_1 : decode cX5_launch 1 = .ok (.getfield 16, 3) := by decide +kernel
theorem dX5_launch_4 : decode cX5_launch 4 = .ok (.bipush 40, 2) := by decide +kernel
theorem dX5_launch_6 : decode cX5_launch 6 = .ok (.if_icmp .ne 9, 3) := by decide +kernel
theorem dX5_launch_9 : decode cX5_launch 9 = .ok (.aload_n 0, 1) := by decide +kernel
theorem dX5_launch_10 : decode cX5_launch 10 = .ok (.iconst 0, 1) := by decide +kernel
theorem dX5_launch_11 : decode cX5_launch 11 = .ok (.invokevirtual 24, 3) := by decide +kernel
theorem dX5_launch_14 : decode cX5_launch 14 = .ok (.pop, 1) := by decide +kernel
theorem dX5_launch_15 : decode cX5_launch 15 = .ok (.aload_n 0, 1) := by decide +kernel
theorem dX5_launch_16 : decode cX5_launch 16 = .ok (.dup, 1) := by decide +kernel
theorem dX5_launch_17 : decode cX5_launch 17 = .ok (.getfield 16, 3) := by decide +kernel
theorem dX5_launch_20 : decode cX5_launch 20 = .ok (.iconst 1, 1) := by decide +kernel
theorem dX5_launch_21 : decode cX5_launch 21 = .ok (.iadd, 1) := by decide +kernel
theorem dX5_launch_22 : decode cX5_launch 22 = .ok (.putfield 16, 3) := by decide +kernel
theorem dX5_launch_25 : decode cX5_launch 25 = .ok (.aload_n 0, 1) := by decide +kernel
theorem dX5_launch_26 : decode cX5_launch 26 = .ok (.getfield 11, 3) := by decide +kernel
theorem dX5_launch_29 : decode cX5_launch 29 = .ok (.aload_n 0, 1) := by decide +kernel
theorem dX5_launch_30 : decode cX5_launch 30 = .ok (.getfield 16, 3) := by decide +kernel
theorem dX5_launch_33 : decode cX5_launch 33 = .ok (.iconst 1, 1) := by decide +kernel
theorem dX5_launch_34 : decode cX5_launch 34 = .ok (.isub, 1) := by decide +kernel
theorem dX5_launch_35 : decode cX5_launch 35 = .ok (.aaload, 1) := by decide +kernel
theorem dX5_launch_36 : decode cX5_launch 36 = .ok (.areturn, 1) := by decide +kernel
set_option maxRecDepth 100000 in
theorem ggX6_init_X1_init : GoodIn wsX6_init wsX1_init := goodIn_r _ [15, 16, 2, 3, 8, 17, 18, 19] rfl (by decide +kernel)
set_option maxRecDepth 20000 in
theorem gX6_init_X1_init : GoodIn wsX6_init (wsX1_init) := ggX6_init_X1_init
theorem dX6_init_0 : decode cX6_init 0 = .ok (.aload_n 0, 1) := by decide +kernel
theorem dX6_init_1 : decode cX6_init 1 = .ok (.invokespecial 5, 3) := by decide +kernel
theorem dX6_init_4 : decode cX6_init 4 = .ok (.aload_n 0, 1) := by decide +kernel
theorem dX6_init_5 : decode cX6_init 5 = .ok (.new 11, 3) := by decide +kernel
theorem dX6_init_8 : decode cX6_init 8 = .ok (.dup, 1) := by decide +kernel
theorem dX6_init_9 : decode cX6_init 9 = .ok (.bipush 14, 2) := by decide +kernel
theorem dX6_init_11 : decode cX6_init 11 = .ok (.invokespecial 15, 3) := by decide +kernel
theorem dX6_init_14 : decode cX6_init 14 = .ok (.putfield 18, 3) := by decide +kernel
theorem dX6_init_17 : decode cX6_init 17 = .ok (.aload_n 0, 1) := by decide +kernel
theorem dX6_init_18 : decode cX6_init 18 = .ok (.bipush 10, 2) := by decide +kernel
theorem dX6_init_20 : decode cX6_init 20 = .ok (.newarray .int, 2) := by decide +kernel
theorem dX6_init_22 : decode cX6_init 22 = .ok (.putfield 22, 3) := by decide +kernel
theorem dX6_init_25 : decode cX6_init 25 = .ok (.aload_n 0, 1) := by decide +kernel
theorem dX6_init_26 : decode cX6_init 26 = .ok (.bipush 10, 2) := by decide +kernel
theorem dX6_init_28 : decode cX6_init 28 = .ok (.newarray .int, 2) := by decide +kernel
theorem dX6_init_30 : decode cX6_init 30 = .ok (.putfield 26, 3) := by decide +kernel
theorem dX6_init_33 : decode cX6_init 33 = .ok (.aload_n 0, 1) := by decide +kernel
theorem dX6_init_34 : decode cX6_init 34 = .ok (.sipush 800, 3) := by decide +kernel
theorem dX6_init_37 : decode cX6_init 37 = .ok (.newarray .int, 2) := by decide +kernel
theorem dX6_init_39 : decode cX6_init 39 = .ok (.putfield 29, 3) := by decide +kernel
theorem dX6_init_42 : decode cX6_init 42 = .ok (.aload_n 0, 1) := by decide +kernel
theorem dX6_init_43 : decode cX6_init 43 = .ok (.aload_n 1, 1) := by decide +kernel
theorem dX6_init_44 : decode cX6_init 44 = .ok (.putfield 32, 3) := by decide +kernel
theorem dX6_init_47 : decode cX6_init 47 = .ok (.iconst 0, 1) := by decide +kernel
theorem dX6_init_48 : decode cX6_init 48 = .ok (.istore_n 2, 1) := by decide +kernel
theorem dX6_init_49 : decode cX6_init 49 = .ok (.iload_n 2, 1) := by decide +kernel
theorem dX6_init_50 : decode cX6_init 50 = .ok (.bipush 10, 2) := by decide +kernel
theorem dX6_init_52 : decode cX6_init 52 = .ok (.if_icmp .ge 16, 3) := by decide +kernel
theorem dX6_init_55 : decode cX6_init 55 = .ok (.aload_n 0, 1) := by decide +kernel
theorem dX6_init_56 : decode cX6_init 56 = .ok (.getfield 26, 3) := by decide +kernel
theorem dX6_init_59 : decode cX6_init 59 = .ok (.iload_n 2, 1) := by decide +kernel
theorem dX6_init_60 : decode cX6_init 60 = .ok (.iconst (-1), 1) := by decide +kernel
theorem dX6_init_61 : decode cX6_init 61 = .ok (.iastore, 1) := by decide +kernel
theorem dX6_init_62 : decode cX6_init 62 = .ok (.iinc 2 1, 3) := by decide +kernel
theorem dX6_init_65 : decode cX6_init 65 = .ok (.goto (-16), 3) := by decide +kernel
theorem dX6_init_68 : decode cX6_init 68 = .ok (.return_, 1) := by decide +kernel
set_option maxRecDepth 100000 in
theorem ggX6_ask_X1_clear : GoodIn wsX6_ask wsX1_clear := goodIn_r _ [9, 10, 105, 106] rfl (by decide +kernel)
set_option maxRecDepth 20000 in
theorem gX6_ask_X1_clear : GoodIn wsX6_ask (wsV RX6 40 RX1 yX1_clear wsX1_clear) := goodIn_app (goodIn_of _ (by decide +kernel)) ggX6_ask_X1_clear
set_option maxRecDepth 100000 in
theorem ggX6_ask_X1_add : GoodIn wsX6_ask wsX1_add := goodIn_r _ [14, 10, 15, 105, 106] rfl (by decide +kernel)
set_option maxRecDepth 20000 in
theorem gX6_ask_X1_add : GoodIn wsX6_ask (wsV RX6 43 RX1 yX1_add wsX1_add) := goodIn_app (goodIn_of _ (by decide +kernel)) ggX6_ask_X1_add
set_option maxRecDepth 100000 in
theorem ggX6_ask_X0_put : GoodIn wsX6_ask wsX0_put := goodIn_r _ [19, 20, 12, 13, 8, 14, 10, 15, 105, 106] rfl (by decide +kernel)
set_option maxRecDepth 20000 in
theorem gX6_ask_X0_put : GoodIn wsX6_ask (va_wsS RX6 47 yX0_put wsX0_put) := goodIn_app (goodIn_of _ (by decide +kernel)) ggX6_ask_X0_put
set_option maxRecDepth 100000 in
theorem ggX6_ask_X9_send : GoodIn wsX6_ask wsX9_send := goodIn_r _ [25, 26, 27, 28, 29, 30, 31, 32, 33, 34, 35, 8, 36, 10, 37, 38, 39, 40, 41, 42, 43, 44, 45, 46, 47, 48, 49, 50, 51, 52, 53, 54, 55, 56, 57, 58, 59, 60, 61, 62, 63, 6, 7, 9, 64, 12, 13, 14, 15, 65, 66, 67, 68, 69, 70, 71, 72, 73, 74, 75, 76, 77, 78, 79, 80, 81, 82, 83, 84, 85, 86, 87, 88, 89, 90, 91, 92, 107, 108, 109, 105, 106, 110, 111, 112, 113] rfl (by decide +kernel)
set_option maxRecDepth 20000 in
theorem gX6_ask_X9_send : GoodIn wsX6_ask (wsV RX6 51 RX9 yX9_send wsX9_send) := goodIn_app (goodIn_of _ (by decide +kernel)) ggX6_ask_X9_send
theorem dX6_ask_0 : decode cX6_ask 0 = .ok (.aload_n 0, 1) := by decide +kernel
theorem dX6_ask_1 : decode cX6_ask 1 = .ok (.getfield 36, 3) := by decide +kernel
theorem dX6_ask_4 : decode cX6_ask 4 = .ok (.bipush 15, 2) := by decide +kernel
theorem dX6_ask_6 : decode cX6_ask 6 = .ok (.iand, 1) := by decide +kernel
theorem dX6_ask_7 : decode cX6_ask 7 = .ok (.istore_n 2, 1) := by decide +kernel
theorem dX6_ask_8 : decode cX6_ask 8 = .ok (.aload_n 0, 1) := by decide +kernel
theorem dX6_ask_9 : decode cX6_ask 9 = .ok (.getfield 18, 3) := by decide +kernel
theorem dX6_ask_12 : decode cX6_ask 12 = .ok (.invokevirtual 40, 3) := by decide +kernel
theorem dX6_ask_15 : decode cX6_ask 15 = .ok (.aload_n 0, 1) := by decide +kernel
theorem dX6_ask_16 : decode cX6_ask 16 = .ok (.getfield 18, 3) := by decide +kernel
theorem dX6_ask_19 : decode cX6_ask 19 = .ok (.sipush 192, 3) := by decide +kernel
theorem dX6_ask_22 : decode cX6_ask 22 = .ok (.iload_n 2, 1) := by decide +kernel
theorem dX6_ask_23 : decode cX6_ask 23 = .ok (.iadd, 1) := by decide +kernel
theorem dX6_ask_24 : decode cX6_ask 24 = .ok (.invokevirtual 43, 3) := by decide +kernel
theorem dX6_ask_27 : decode cX6_ask 27 = .ok (.pop, 1) := by decide +kernel
theorem dX6_ask_28 : decode cX6_ask 28 = .ok (.aload_n 0, 1) := by decide +kernel
theorem dX6_ask_29 : decode cX6_ask 29 = .ok (.getfield 18, 3) := by decide +kernel
theorem dX6_ask_32 : decode cX6_ask 32 = .ok (.iconst 1, 1) := by decide +kernel
theorem dX6_ask_33 : decode cX6_ask 33 = .ok (.invokevirtual 43, 3) := by decide +kernel
theorem dX6_ask_36 : decode cX6_ask 36 = .ok (.pop, 1) := by decide +kernel
theorem dX6_ask_37 : decode cX6_ask 37 = .ok (.iconst 0, 1) := by decide +kernel
theorem dX6_ask_38 : decode cX6_ask 38 = .ok (.istore_n 3, 1) := by decide +kernel
theorem dX6_ask_39 : decode cX6_ask 39 = .ok (.iload_n 3, 1) := by decide +kernel
theorem dX6_ask_40 : decode cX6_ask 40 = .ok (.iconst 4, 1) := by decide +kernel
theorem dX6_ask_41 : decode cX6_ask 41 = .ok (.if_icmp .ge 27, 3) := by decide +kernel
theorem dX6_ask_44 : decode cX6_ask 44 = .ok (.iload_n 1, 1) := by decide +kernel
theorem dX6_ask_45 : decode cX6_ask 45 = .ok (.iconst 1, 1) := by decide +kernel
theorem dX6_ask_46 : decode cX6_ask 46 = .ok (.iload_n 3, 1) := by decide +kernel
theorem dX6_ask_47 : decode cX6_ask 47 = .ok (.ishl, 1) := by decide +kernel
theorem dX6_ask_48 : decode cX6_ask 48 = .ok (.iand, 1) := by decide +kernel
theorem dX6_ask_49 : decode cX6_ask 49 = .ok (.ifCond .eq 13, 3) := by decide +kernel
theorem dX6_ask_52 : decode cX6_ask 52 = .ok (.aload_n 0, 1) := by decide +kernel
theorem dX6_ask_53 : decode cX6_ask 53 = .ok (.getfield 18, 3) := by decide +kernel
theorem dX6_ask_56 : decode cX6_ask 56 = .ok (.iload_n 3, 1) := by decide +kernel
theorem dX6_ask_57 : decode cX6_ask 57 = .ok (.iconst 1, 1) := by decide +kernel
theorem dX6_ask_58 : decode cX6_ask 58 = .ok (.iadd, 1) := by decide +kernel
theorem dX6_ask_59 : decode cX6_ask 59 = .ok (.invokestatic 47, 3) := by decide +kernel
theorem dX6_ask_62 : decode cX6_ask 62 = .ok (.iinc 3 1, 3) := by decide +kernel
theorem dX6_ask_65 : decode cX6_ask 65 = .ok (.goto (-26), 3) := by decide +kernel
theorem dX6_ask_68 : decode cX6_ask 68 = .ok (.aload_n 0, 1) := by decide +kernel
theorem dX6_ask_69 : decode cX6_ask 69 = .ok (.getfield 32, 3) := by decide +kernel
theorem dX6_ask_72 : decode cX6_ask 72 = .ok (.aload_n 0, 1) := by decide +kernel
theorem dX6_ask_73 : decode cX6_ask 73 = .ok (.getfield 18, 3) := by decide +kernel
theorem dX6_ask_76 : decode cX6_ask 76 = .ok (.invokevirtual 51, 3) := by decide +kernel
theorem dX6_ask_79 : decode cX6_ask 79 = .ok (.aload_n 0, 1) := by decide +kernel
theorem dX6_ask_80 : decode cX6_ask 80 = .ok (.dup, 1) := by decide +kernel
theorem dX6_ask_81 : decode cX6_ask 81 = .ok (.getfield 36, 3) := by decide +kernel
theorem dX6_ask_84 : decode cX6_ask 84 = .ok (.iconst 1, 1) := by decide +kernel
theorem dX6_ask_85 : decode cX6_ask 85 = .ok (.iadd, 1) := by decide +kernel
theorem dX6_ask_86 : decode cX6_ask 86 = .ok (.putfield 36, 3) := by decide +kernel
theorem dX6_ask_89 : decode cX6_ask 89 = .ok (.aload_n 0, 1) := by decide +kernel
theorem dX6_ask_90 : decode cX6_ask 90 = .ok (.iconst 1, 1) := by decide +kernel
theorem dX6_ask_91 : decode cX6_ask 91 = .ok (.putfield 57, 3) := by decide +kernel
theorem dX6_ask_94 : decode cX6_ask 94 = .ok (.iload_n 2, 1) := by decide +kernel
theorem dX6_ask_95 : decode cX6_ask 95 = .ok (.ireturn, 1) := by decide +kernel
set_option maxRecDepth 100000 in
theorem ggX6_hear_X6_isWanted : GoodIn wsX6_hear wsX6_isWanted := goodIn_r _ [11, 2, 12, 13, 14, 15, 16, 17, 18, 19, 20, 21, 22, 23, 138, 139, 140, 141, 142, 143, 144, 145, 146, 147, 148, 149, 150, 151] rfl (by decide +kernel)
set_option maxRecDepth 20000 in
theorem gX6_hear_X6_isWanted : GoodIn wsX6_hear (wsV RX6 61 RX6 yX6_isWanted wsX6_isWanted) := goodIn_app (goodIn_of _ (by decide +kernel)) ggX6_hear_X6_isWanted
set_option maxRecDepth 100000 in
theorem ggX6_hear_X6_groupsAreSound : GoodIn wsX6_hear wsX6_groupsAreSound := goodIn_r _ [26, 13, 14, 15, 16, 17, 18, 27, 28, 29, 30, 31, 32, 20, 21, 22, 23, 33, 34, 35, 36, 37, 38, 150, 151] rfl (by decide +kernel)
set_option maxRecDepth 20000 in
theorem gX6_hear_X6_groupsAreSound : GoodIn wsX6_hear (va_wsS RX6 65 yX6_groupsAreSound wsX6_groupsAreSound) := goodIn_app (goodIn_of _ (by decide +kernel)) ggX6_hear_X6_groupsAreSound
set_option maxRecDepth 100000 in
theorem ggX6_hear_X1_get : GoodIn wsX6_hear wsX1_get := goodIn_r _ [22, 18, 23, 150, 151] rfl (by decide +kernel)
set_option maxRecDepth 20000 in
theorem gX6_hear_X1_get : GoodIn wsX6_hear (wsV RX6 71 RX1 yX1_get wsX1_get) := goodIn_app (goodIn_of _ (by decide +kernel)) ggX6_hear_X1_get
set_option maxRecDepth 100000 in
theorem ggX6_hear_X6_takeGroups : GoodIn wsX6_hear wsX6_takeGroups := goodIn_r _ [42, 13, 14, 15, 16, 17, 18, 19, 20, 21, 22, 23, 43, 44, 45, 10, 46, 47, 48, 49, 50, 51, 52, 53, 54, 55, 56, 57, 58, 59, 60, 150, 151, 138, 139, 140, 141, 142, 143, 144, 145, 146, 147, 148, 149] rfl (by decide +kernel)
set_option maxRecDepth 20000 in
theorem gX6_hear_X6_takeGroups : GoodIn wsX6_hear (wsV RX6 75 RX6 yX6_takeGroups wsX6_takeGroups) := goodIn_app (goodIn_of _ (by decide +kernel)) ggX6_hear_X6_takeGroups
set_option maxRecDepth 100000 in
theorem ggX6_hear_X6_makeConfirm : GoodIn wsX6_hear wsX6_makeConfirm := goodIn_r _ [64, 6, 65, 66, 67, 16, 68, 18, 69, 70, 71, 72, 23, 138, 139, 140, 141, 142, 143, 144, 145, 146, 147, 148, 149, 150, 151] rfl (by decide +kernel)
set_option maxRecDepth 20000 in
theorem gX6_hear_X6_makeConfirm : GoodIn wsX6_hear (wsV RX6 84 RX6 yX6_makeConfirm wsX6_makeConfirm) := goodIn_app (goodIn_of _ (by decide +kernel)) ggX6_hear_X6_makeConfirm
set_option maxRecDepth 100000 in
theorem ggX6_hear_X9_send : GoodIn wsX6_hear wsX9_send := goodIn_r _ [77, 78, 79, 80, 81, 82, 83, 84, 85, 14, 15, 16, 17, 18, 86, 87, 88, 89, 90, 91, 92, 93, 94, 95, 96, 97, 98, 99, 100, 101, 102, 103, 104, 105, 106, 107, 108, 109, 110, 111, 112, 66, 67, 68, 113, 70, 71, 72, 23, 114, 115, 116, 117, 118, 119, 120, 121, 122, 123, 124, 125, 126, 127, 128, 129, 130, 131, 132, 56, 20, 21, 22, 133, 134, 135, 136, 137, 152, 153, 154, 150, 151, 155, 156, 157, 158] rfl (by decide +kernel)
set_option maxRecDepth 20000 in
theorem gX6_hear_X9_send : GoodIn wsX6_hear (wsV RX6 51 RX9 yX9_send wsX9_send) := goodIn_app (goodIn_of _ (by decide +kernel)) ggX6_hear_X9_send
theorem dX6_hear_0 : decode cX6_hear 0 = .ok (.aload_n 0, 1) := by decide +kernel
theorem dX6_hear_1 : decode cX6_hear 1 = .ok (.aload_n 1, 1) := by decide +kernel
theorem dX6_hear_2 : decode cX6_hear 2 = .ok (.invokevirtual 61, 3) := by decide +kernel
theorem dX6_hear_5 : decode cX6_hear 5 = .ok (.ifCond .eq 10, 3) := by decide +kernel
theorem dX6_hear_8 : decode cX6_hear 8 = .ok (.aload_n 1, 1) := by decide +kernel
theorem dX6_hear_9 : decode cX6_hear 9 = .ok (.invokestatic 65, 3) := by decide +kernel
theorem dX6_hear_12 : decode cX6_hear 12 = .ok (.ifCond .ne 15, 3) := by decide +kernel
theorem dX6_hear_15 : decode cX6_hear 15 = .ok (.aload_n 0, 1) := by decide +kernel
theorem dX6_hear_16 : decode cX6_hear 16 = .ok (.dup, 1) := by decide +kernel
theorem dX6_hear_17 : decode cX6_hear 17 = .ok (.getfield 68, 3) := by decide +kernel
theorem dX6_hear_20 : decode cX6_hear 20 = .ok (.iconst 1, 1) := by decide +kernel
theorem dX6_hear_21 : decode cX6_hear 21 = .ok (.iadd, 1) := by decide +kernel
theorem dX6_hear_22 : decode cX6_hear 22 = .ok (.putfield 68, 3) := by decide +kernel
theorem dX6_hear_25 : decode cX6_hear 25 = .ok (.iconst 0, 1) := by decide +kernel
theorem dX6_hear_26 : decode cX6_hear 26 = .ok (.ireturn, 1) := by decide +kernel
theorem dX6_hear_27 : decode cX6_hear 27 = .ok (.aload_n 1, 1) := by decide +kernel
theorem dX6_hear_28 : decode cX6_hear 28 = .ok (.iconst 1, 1) := by decide +kernel
theorem dX6_hear_29 : decode cX6_hear 29 = .ok (.invokevirtual 71, 3) := by decide +kernel
theorem dX6_hear_32 : decode cX6_hear 32 = .ok (.sipush 129, 3) := by decide +kernel
theorem dX6_hear_35 : decode cX6_hear 35 = .ok (.if_icmp .ne 8, 3) := by decide +kernel
theorem dX6_hear_38 : decode cX6_hear 38 = .ok (.aload_n 0, 1) := by decide +kernel
theorem dX6_hear_39 : decode cX6_hear 39 = .ok (.iconst 0, 1) := by decide +kernel
theorem dX6_hear_40 : decode cX6_hear 40 = .ok (.putfield 57, 3) := by decide +kernel
theorem dX6_hear_43 : decode cX6_hear 43 = .ok (.aload_n 0, 1) := by decide +kernel
theorem dX6_hear_44 : decode cX6_hear 44 = .ok (.aload_n 1, 1) := by decide +kernel
theorem dX6_hear_45 : decode cX6_hear 45 = .ok (.invokevirtual 75, 3) := by decide +kernel
theorem dX6_hear_48 : decode cX6_hear 48 = .ok (.aload_n 0, 1) := by decide +kernel
theorem dX6_hear_49 : decode cX6_hear 49 = .ok (.aload_n 1, 1) := by decide +kernel
theorem dX6_hear_50 : decode cX6_hear 50 = .ok (.iconst 2, 1) := by decide +kernel
theorem dX6_hear_51 : decode cX6_hear 51 = .ok (.invokevirtual 71, 3) := by decide +kernel
theorem dX6_hear_54 : decode cX6_hear 54 = .ok (.putfield 78, 3) := by decide +kernel
theorem dX6_hear_57 : decode cX6_hear 57 = .ok (.aload_n 0, 1) := by decide +kernel
theorem dX6_hear_58 : decode cX6_hear 58 = .ok (.aload_n 1, 1) := by decide +kernel
theorem dX6_hear_59 : decode cX6_hear 59 = .ok (.iconst 3, 1) := by decide +kernel
theorem dX6_hear_60 : decode cX6_hear 60 = .ok (.invokevirtual 71, 3) := by decide +kernel
theorem dX6_hear_63 : decode cX6_hear 63 = .ok (.putfield 81, 3) := by decide +kernel
theorem dX6_hear_66 : decode cX6_hear 66 = .ok (.aload_n 1, 1) := by decide +kernel
theorem dX6_hear_67 : decode cX6_hear 67 = .ok (.iconst 0, 1) := by decide +kernel
theorem dX6_hear_68 : decode cX6_hear 68 = .ok (.invokevirtual 71, 3) := by decide +kernel
theorem dX6_hear_71 : decode cX6_hear 71 = .ok (.bipush 32, 2) := by decide +kernel
theorem dX6_hear_73 : decode cX6_hear 73 = .ok (.iand, 1) := by decide +kernel
theorem dX6_hear_74 : decode cX6_hear 74 = .ok (.ifCond .eq 23, 3) := by decide +kernel
theorem dX6_hear_77 : decode cX6_hear 77 = .ok (.aload_n 0, 1) := by decide +kernel
theorem dX6_hear_78 : decode cX6_hear 78 = .ok (.aload_n 1, 1) := by decide +kernel
theorem dX6_hear_79 : decode cX6_hear 79 = .ok (.iconst 0, 1) := by decide +kernel
theorem dX6_hear_80 : decode cX6_hear 80 = .ok (.invokevirtual 71, 3) := by decide +kernel
theorem dX6_hear_83 : decode cX6_hear 83 = .ok (.invokevirtual 84, 3) := by decide +kernel
theorem dX6_hear_86 : decode cX6_hear 86 = .ok (.aload_n 0, 1) := by decide +kernel
theorem dX6_hear_87 : decode cX6_hear 87 = .ok (.getfield 32, 3) := by decide +kernel
theorem dX6_hear_90 : decode cX6_hear 90 = .ok (.aload_n 0, 1) := by decide +kernel
theorem dX6_hear_91 : decode cX6_hear 91 = .ok (.getfield 18, 3) := by decide +kernel
theorem dX6_hear_94 : decode cX6_hear 94 = .ok (.invokevirtual 51, 3) := by decide +kernel
theorem dX6_hear_97 : decode cX6_hear 97 = .ok (.iconst 1, 1) := by decide +kernel
theorem dX6_hear_98 : decode cX6_hear 98 = .ok (.ireturn, 1) := by decide +kernel
set_option maxRecDepth 100000 in
theorem ggX6_isWanted_X1_size : GoodIn wsX6_isWanted wsX1_size := goodIn_r _ [7, 8, 26, 27] rfl (by decide +kernel)
set_option maxRecDepth 20000 in
theorem gX6_isWanted_X1_size : GoodIn wsX6_isWanted (wsV RX6 87 RX1 yX1_size wsX1_size) := goodIn_app (goodIn_of _ (by decide +kernel)) ggX6_isWanted_X1_size
set_option maxRecDepth 100000 in
theorem ggX6_isWanted_X1_get : GoodIn wsX6_isWanted wsX1_get := goodIn_r _ [12, 8, 13, 26, 27] rfl (by decide +kernel)
set_option maxRecDepth 20000 in
theorem gX6_isWanted_X1_get : GoodIn wsX6_isWanted (wsV RX6 71 RX1 yX1_get wsX1_get) := goodIn_app (goodIn_of _ (by decide +kernel)) ggX6_isWanted_X1_get
theorem dX6_isWanted_0 : decode cX6_isWanted 0 = .ok (.aload_n 1, 1) := by decide +kernel
theorem dX6_isWanted_1 : decode cX6_isWanted 1 = .ok (.invokevirtual 87, 3) := by decide +kernel
theorem dX6_isWanted_4 : decode cX6_isWanted 4 = .ok (.iconst 4, 1) := by decide +kernel
theorem dX6_isWanted_5 : decode cX6_isWanted 5 = .ok (.if_icmp .lt 18, 3) := by decide +kernel
theorem dX6_isWanted_8 : decode cX6_isWanted 8 = .ok (.aload_n 1, 1) := by decide +kernel
theorem dX6_isWanted_9 : decode cX6_isWanted 9 = .ok (.iconst 0, 1) := by decide +kernel
theorem dX6_isWanted_10 : decode cX6_isWanted 10 = .ok (.invokevirtual 71, 3) := by decide +kernel
theorem dX6_isWanted_13 : decode cX6_isWanted 13 = .ok (.sipush 192, 3) := by decide +kernel
theorem dX6_isWanted_16 : decode cX6_isWanted 16 = .ok (.iand, 1) := by decide +kernel
theorem dX6_isWanted_17 : decode cX6_isWanted 17 = .ok (.sipush 192, 3) := by decide +kernel
theorem dX6_isWanted_20 : decode cX6_isWanted 20 = .ok (.if_icmp .eq 5, 3) := by decide +kernel
theorem dX6_isWanted_23 : decode cX6_isWanted 23 = .ok (.iconst 0, 1) := by decide +kernel
theorem dX6_isWanted_24 : decode cX6_isWanted 24 = .ok (.ireturn, 1) := by decide +kernel
theorem dX6_isWanted_25 : decode cX6_isWanted 25 = .ok (.aload_n 1, 1) := by decide +kernel
theorem dX6_isWanted_26 : decode cX6_isWanted 26 = .ok (.iconst 0, 1) := by decide +kernel
theorem dX6_isWanted_27 : decode cX6_isWanted 27 = .ok (.invokevirtual 71, 3) := by decide +kernel
theorem dX6_isWanted_30 : decode cX6_isWanted 30 = .ok (.bipush 16, 2) := by decide +kernel
theorem dX6_isWanted_32 : decode cX6_isWanted 32 = .ok (.iand, 1) := by decide +kernel
theorem dX6_isWanted_33 : decode cX6_isWanted 33 = .ok (.ifCond .eq 7, 3) := by decide +kernel
theorem dX6_isWanted_36 : decode cX6_isWanted 36 = .ok (.iconst 1, 1) := by decide +kernel
theorem dX6_isWanted_37 : decode cX6_isWanted 37 = .ok (.goto 4, 3) := by decide +kernel
theorem dX6_isWanted_40 : decode cX6_isWanted 40 = .ok (.iconst 0, 1) := by decide +kernel
theorem dX6_isWanted_41 : decode cX6_isWanted 41 = .ok (.istore_n 2, 1) := by decide +kernel
theorem dX6_isWanted_42 : decode cX6_isWanted 42 = .ok (.aload_n 1, 1) := by decide +kernel
theorem dX6_isWanted_43 : decode cX6_isWanted 43 = .ok (.iconst 1, 1) := by decide +kernel
theorem dX6_isWanted_44 : decode cX6_isWanted 44 = .ok (.invokevirtual 71, 3) := by decide +kernel
theorem dX6_isWanted_47 : decode cX6_isWanted 47 = .ok (.sipush 130, 3) := by decide +kernel
theorem dX6_isWanted_50 : decode cX6_isWanted 50 = .ok (.if_icmp .ne 5, 3) := by decide +kernel
theorem dX6_isWanted_53 : decode cX6_isWanted 53 = .ok (.iload_n 2, 1) := by decide +kernel
theorem dX6_isWanted_54 : decode cX6_isWanted 54 = .ok (.ireturn, 1) := by decide +kernel
theorem dX6_isWanted_55 : decode cX6_isWanted 55 = .ok (.aload_n 1, 1) := by decide +kernel
theorem dX6_isWanted_56 : decode cX6_isWanted 56 = .ok (.iconst 1, 1) := by decide +kernel
theorem dX6_isWanted_57 : decode cX6_isWanted 57 = .ok (.invokevirtual 71, 3) := by decide +kernel
theorem dX6_isWanted_60 : decode cX6_isWanted 60 = .ok (.sipush 129, 3) := by decide +kernel
theorem dX6_isWanted_63 : decode cX6_isWanted 63 = .ok (.if_icmp .ne 38, 3) := by decide +kernel
theorem dX6_isWanted_66 : decode cX6_isWanted 66 = .ok (.iload_n 2, 1) := by decide +kernel
theorem dX6_isWanted_67 : decode cX6_isWanted 67 = .ok (.ifCond .ne 34, 3) := by decide +kernel
theorem dX6_isWanted_70 : decode cX6_isWanted 70 = .ok (.aload_n 0, 1) := by decide +kernel
theorem dX6_isWanted_71 : decode cX6_isWanted 71 = .ok (.getfield 57, 3) := by decide +kernel
theorem dX6_isWanted_74 : decode cX6_isWanted 74 = .ok (.ifCond .eq 27, 3) := by decide +kernel
theorem dX6_isWanted_77 : decode cX6_isWanted 77 = .ok (.aload_n 1, 1) := by decide +kernel
theorem dX6_isWanted_78 : decode cX6_isWanted 78 = .ok (.iconst 0, 1) := by decide +kernel
theorem dX6_isWanted_79 : decode cX6_isWanted 79 = .ok (.invokevirtual 71, 3) := by decide +kernel
theorem dX6_isWanted_82 : decode cX6_isWanted 82 = .ok (.bipush 15, 2) := by decide +kernel
theorem dX6_isWanted_84 : decode cX6_isWanted 84 = .ok (.iand, 1) := by decide +kernel
theorem dX6_isWanted_85 : decode cX6_isWanted 85 = .ok (.aload_n 0, 1) := by decide +kernel
theorem dX6_isWanted_86 : decode cX6_isWanted 86 = .ok (.getfield 36, 3) := by decide +kernel
theorem dX6_isWanted_89 : decode cX6_isWanted 89 = .ok (.iconst 1, 1) := by decide +kernel
theorem dX6_isWanted_90 : decode cX6_isWanted 90 = .ok (.isub, 1) := by decide +kernel
theorem dX6_isWanted_91 : decode cX6_isWanted 91 = .ok (.bipush 15, 2) := by decide +kernel
theorem dX6_isWanted_93 : decode cX6_isWanted 93 = .ok (.iand, 1) := by decide +kernel
theorem dX6_isWanted_94 : decode cX6_isWanted 94 = .ok (.if_icmp .ne 7, 3) := by decide +kernel
theorem dX6_isWanted_97 : decode cX6_isWanted 97 = .ok (.iconst 1, 1) := by decide +kernel
theorem dX6_isWanted_98 : decode cX6_isWanted 98 = .ok (.goto 4, 3) := by decide +kernel
theorem dX6_isWanted_101 : decode cX6_isWanted 101 = .ok (.iconst 0, 1) := by decide +kernel
theorem dX6_isWanted_102 : decode cX6_isWanted 102 = .ok (.ireturn, 1) := by decide +kernel
set_option maxRecDepth 100000 in
theorem ggX6_groupsAreSound_X1_size : GoodIn wsX6_groupsAreSound wsX1_size := goodIn_r _ [5, 6, 23, 24] rfl (by decide +kernel)
set_option maxRecDepth 20000 in
theorem gX6_groupsAreSound_X1_size : GoodIn wsX6_groupsAreSound (wsV RX6 87 RX1 yX1_size wsX1_size) := goodIn_app (goodIn_of _ (by decide +kernel)) ggX6_groupsAreSound_X1_size
set_option maxRecDepth 100000 in
theorem ggX6_groupsAreSound_X4_end : GoodIn wsX6_groupsAreSound wsX4_end := goodIn_r _ [10, 11, 2, 3, 4, 5, 6, 12, 13, 14, 15, 16, 17, 18, 9, 19, 20, 21, 22, 23, 24] rfl (by decide +kernel)
set_option maxRecDepth 20000 in
theorem gX6_groupsAreSound_X4_end : GoodIn wsX6_groupsAreSound (va_wsS RX6 91 yX4_end wsX4_end) := goodIn_app (goodIn_of _ (by decide +kernel)) ggX6_groupsAreSound_X4_end
theorem dX6_groupsAreSound_0 : decode cX6_groupsAreSound 0 = .ok (.iconst 4, 1) := by decide +kernel
theorem dX6_groupsAreSound_1 : decode cX6_groupsAreSound 1 = .ok (.istore_n 1, 1) := by decide +kernel
theorem dX6_groupsAreSound_2 : decode cX6_groupsAreSound 2 = .ok (.iload_n 1, 1) := by decide +kernel
theorem dX6_groupsAreSound_3 : decode cX6_groupsAreSound 3 = .ok (.aload_n 0, 1) := by decide +kernel
theorem dX6_groupsAreSound_4 : decode cX6_groupsAreSound 4 = .ok (.invokevirtual 87, 3) := by decide +kernel
theorem dX6_groupsAreSound_7 : decode cX6_groupsAreSound 7 = .ok (.if_icmp .ge 21, 3) := by decide +kernel
theorem dX6_groupsAreSound_10 : decode cX6_groupsAreSound 10 = .ok (.aload_n 0, 1) := by decide +kernel
theorem dX6_groupsAreSound_11 : decode cX6_groupsAreSound 11 = .ok (.iload_n 1, 1) := by decide +kernel
theorem dX6_groupsAreSound_12 : decode cX6_groupsAreSound 12 = .ok (.invokestatic 91, 3) := by decide +kernel
theorem dX6_groupsAreSound_15 : decode cX6_groupsAreSound 15 = .ok (.istore_n 2, 1) := by decide +kernel
theorem dX6_groupsAreSound_16 : decode cX6_groupsAreSound 16 = .ok (.iload_n 2, 1) := by decide +kernel
theorem dX6_groupsAreSound_17 : decode cX6_groupsAreSound 17 = .ok (.iload_n 1, 1) := by decide +kernel
theorem dX6_groupsAreSound_18 : decode cX6_groupsAreSound 18 = .ok (.if_icmp .gt 5, 3) := by decide +kernel
theorem dX6_groupsAreSound_21 : decode cX6_groupsAreSound 21 = .ok (.iconst 0, 1) := by decide +kernel
theorem dX6_groupsAreSound_22 : decode cX6_groupsAreSound 22 = .ok (.ireturn, 1) := by decide +kernel
theorem dX6_groupsAreSound_23 : decode cX6_groupsAreSound 23 = .ok (.iload_n 2, 1) := by decide +kernel
theorem dX6_groupsAreSound_24 : decode cX6_groupsAreSound 24 = .ok (.istore_n 1, 1) := by decide +kernel
theorem dX6_groupsAreSound_25 : decode cX6_groupsAreSound 25 = .ok (.goto (-23), 3) := by decide +kernel
theorem dX6_groupsAreSound_28 : decode cX6_groupsAreSound 28 = .ok (.iconst 1, 1) := by decide +kernel
theorem dX6_groupsAreSound_29 : decode cX6_groupsAreSound 29 = .ok (.ireturn, 1) := by decide +kernel
set_option maxRecDepth 100000 in
theorem ggX6_takeGroups_X1_size : GoodIn wsX6_takeGroups wsX1_size := goodIn_r _ [5, 6, 31, 32] rfl (by decide +kernel)
set_option maxRecDepth 20000 in
theorem gX6_takeGroups_X1_size : GoodIn wsX6_takeGroups (wsV RX6 87 RX1 yX1_size wsX1_size) := goodIn_app (goodIn_of _ (by decide +kernel)) ggX6_takeGroups_X1_size
set_option maxRecDepth 100000 in
theorem ggX6_takeGroups_X1_get : GoodIn wsX6_takeGroups wsX1_get := goodIn_r _ [10, 6, 11, 31, 32] rfl (by decide +kernel)
set_option maxRecDepth 20000 in
theorem gX6_takeGroups_X1_get : GoodIn wsX6_takeGroups (wsV RX6 71 RX1 yX1_get wsX1_get) := goodIn_app (goodIn_of _ (by decide +kernel)) ggX6_takeGroups_X1_get
set_option maxRecDepth 100000 in
theorem ggX6_takeGroups_X6_takeEvent : GoodIn wsX6_takeGroups wsX6_takeEvent := goodIn_r _ [16, 17, 18, 19, 20, 21, 7, 8, 9, 4, 10, 6, 11, 22, 23, 24, 25, 26, 33, 34, 35, 36, 37, 38, 39, 40, 41, 42, 43, 44, 31, 32] rfl (by decide +kernel)
set_option maxRecDepth 20000 in
theorem gX6_takeGroups_X6_takeEvent : GoodIn wsX6_takeGroups (wsV RX6 97 RX6 yX6_takeEvent wsX6_takeEvent) := goodIn_app (goodIn_of _ (by decide +kernel)) ggX6_takeGroups_X6_takeEvent
set_option maxRecDepth 100000 in
theorem ggX6_takeGroups_X6_takeState : GoodIn wsX6_takeGroups wsX6_takeState := goodIn_r _ [30, 19, 7, 8, 9, 4, 10, 6, 11, 22, 23, 24, 25, 26, 33, 34, 35, 36, 37, 38, 39, 40, 41, 42, 43, 44, 31, 32] rfl (by decide +kernel)
set_option maxRecDepth 20000 in
theorem gX6_takeGroups_X6_takeState : GoodIn wsX6_takeGroups (wsV RX6 101 RX6 yX6_takeState wsX6_takeState) := goodIn_app (goodIn_of _ (by decide +kernel)) ggX6_takeGroups_X6_takeState
theorem dX6_takeGroups_0 : decode cX6_takeGroups 0 = .ok (.iconst 4, 1) := by decide +kernel
theorem dX6_takeGroups_1 : decode cX6_takeGroups 1 = .ok (.istore_n 2, 1) := by decide +kernel
theorem dX6_takeGroups_2 : decode cX6_takeGroups 2 = .ok (.iload_n 2, 1) := by decide +kernel
theorem dX6_takeGroups_3 : decode cX6_takeGroups 3 = .ok (.aload_n 1, 1) := by decide +kernel
theorem dX6_takeGroups_4 : decode cX6_takeGroups 4 = .ok (.invokevirtual 87, 3) := by decide +kernel
theorem dX6_takeGroups_7 : decode cX6_takeGroups 7 = .ok (.if_icmp .ge 99, 3) := by decide +kernel
theorem dX6_takeGroups_10 : decode cX6_takeGroups 10 = .ok (.iload_n 2, 1) := by decide +kernel
theorem dX6_takeGroups_11 : decode cX6_takeGroups 11 = .ok (.iconst 3, 1) := by decide +kernel
theorem dX6_takeGroups_12 : decode cX6_takeGroups 12 = .ok (.iadd, 1) := by decide +kernel
theorem dX6_takeGroups_13 : decode cX6_takeGroups 13 = .ok (.istore_n 3, 1) := by decide +kernel
theorem dX6_takeGroups_14 : decode cX6_takeGroups 14 = .ok (.aload_n 1, 1) := by decide +kernel
theorem dX6_takeGroups_15 : decode cX6_takeGroups 15 = .ok (.iload_n 2, 1) := by decide +kernel
theorem dX6_takeGroups_16 : decode cX6_takeGroups 16 = .ok (.iconst 2, 1) := by decide +kernel
theorem dX6_takeGroups_17 : decode cX6_takeGroups 17 = .ok (.iadd, 1) := by decide +kernel
theorem dX6_takeGroups_18 : decode cX6_takeGroups 18 = .ok (.invokevirtual 71, 3) := by decide +kernel
theorem dX6_takeGroups_21 : decode cX6_takeGroups 21 = .ok (.istore 4, 2) := by decide +kernel
theorem dX6_takeGroups_23 : decode cX6_takeGroups 23 = .ok (.aload_n 1, 1) := by decide +kernel
theorem dX6_takeGroups_24 : decode cX6_takeGroups 24 = .ok (.iload_n 2, 1) := by decide +kernel
theorem dX6_takeGroups_25 : decode cX6_takeGroups 25 = .ok (.invokevirtual 71, 3) := by decide +kernel
theorem dX6_takeGroups_28 : decode cX6_takeGroups 28 = .ok (.bipush 32, 2) := by decide +kernel
theorem dX6_takeGroups_30 : decode cX6_takeGroups 30 = .ok (.if_icmp .ne 7, 3) := by decide +kernel
theorem dX6_takeGroups_33 : decode cX6_takeGroups 33 = .ok (.iconst 1, 1) := by decide +kernel
theorem dX6_takeGroups_34 : decode cX6_takeGroups 34 = .ok (.goto 4, 3) := by decide +kernel
theorem dX6_takeGroups_37 : decode cX6_takeGroups 37 = .ok (.iconst 0, 1) := by decide +kernel
theorem dX6_takeGroups_38 : decode cX6_takeGroups 38 = .ok (.istore 5, 2) := by decide +kernel
theorem dX6_takeGroups_40 : decode cX6_takeGroups 40 = .ok (.iload 5, 2) := by decide +kernel
theorem dX6_takeGroups_42 : decode cX6_takeGroups 42 = .ok (.ifCond .eq 8, 3) := by decide +kernel
theorem dX6_takeGroups_45 : decode cX6_takeGroups 45 = .ok (.bipush 7, 2) := by decide +kernel
theorem dX6_takeGroups_47 : decode cX6_takeGroups 47 = .ok (.goto 4, 3) := by decide +kernel
theorem dX6_takeGroups_50 : decode cX6_takeGroups 50 = .ok (.iconst 3, 1) := by decide +kernel
theorem dX6_takeGroups_51 : decode cX6_takeGroups 51 = .ok (.istore 6, 2) := by decide +kernel
theorem dX6_takeGroups_53 : decode cX6_takeGroups 53 = .ok (.iconst 0, 1) := by decide +kernel
theorem dX6_takeGroups_54 : decode cX6_takeGroups 54 = .ok (.istore 7, 2) := by decide +kernel
theorem dX6_takeGroups_56 : decode cX6_takeGroups 56 = .ok (.iload 7, 2) := by decide +kernel
theorem dX6_takeGroups_58 : decode cX6_takeGroups 58 = .ok (.iload 4, 2) := by decide +kernel
theorem dX6_takeGroups_60 : decode cX6_takeGroups 60 = .ok (.if_icmp .ge 41, 3) := by decide +kernel
theorem dX6_takeGroups_63 : decode cX6_takeGroups 63 = .ok (.iload 5, 2) := by decide +kernel
theorem dX6_takeGroups_65 : decode cX6_takeGroups 65 = .ok (.ifCond .eq 19, 3) := by decide +kernel
theorem dX6_takeGroups_68 : decode cX6_takeGroups 68 = .ok (.aload_n 0, 1) := by decide +kernel
theorem dX6_takeGroups_69 : decode cX6_takeGroups 69 = .ok (.aload_n 1, 1) := by decide +kernel
theorem dX6_takeGroups_70 : decode cX6_takeGroups 70 = .ok (.iload_n 3, 1) := by decide +kernel
theorem dX6_takeGroups_71 : decode cX6_takeGroups 71 = .ok (.aload_n 1, 1) := by decide +kernel
theorem dX6_takeGroups_72 : decode cX6_takeGroups 72 = .ok (.iload_n 2, 1) := by decide +kernel
theorem dX6_takeGroups_73 : decode cX6_takeGroups 73 = .ok (.iconst 1, 1) := by decide +kernel
theorem dX6_takeGroups_74 : decode cX6_takeGroups 74 = .ok (.iadd, 1) := by decide +kernel
theorem dX6_takeGroups_75 : decode cX6_takeGroups 75 = .ok (.invokevirtual 71, 3) := by decide +kernel
theorem dX6_takeGroups_78 : decode cX6_takeGroups 78 = .ok (.invokevirtual 97, 3) := by decide +kernel
theorem dX6_takeGroups_81 : decode cX6_takeGroups 81 = .ok (.goto 9, 3) := by decide +kernel
theorem dX6_takeGroups_84 : decode cX6_takeGroups 84 = .ok (.aload_n 0, 1) := by decide +kernel
theorem dX6_takeGroups_85 : decode cX6_takeGroups 85 = .ok (.aload_n 1, 1) := by decide +kernel
theorem dX6_takeGroups_86 : decode cX6_takeGroups 86 = .ok (.iload_n 3, 1) := by decide +kernel
theorem dX6_takeGroups_87 : decode cX6_takeGroups 87 = .ok (.invokevirtual 101, 3) := by decide +kernel
theorem dX6_takeGroups_90 : decode cX6_takeGroups 90 = .ok (.iload_n 3, 1) := by decide +kernel
theorem dX6_takeGroups_91 : decode cX6_takeGroups 91 = .ok (.iload 6, 2) := by decide +kernel
theorem dX6_takeGroups_93 : decode cX6_takeGroups 93 = .ok (.iadd, 1) := by decide +kernel
theorem dX6_takeGroups_94 : decode cX6_takeGroups 94 = .ok (.istore_n 3, 1) := by decide +kernel
theorem dX6_takeGroups_95 : decode cX6_takeGroups 95 = .ok (.iinc 7 1, 3) := by decide +kernel
theorem dX6_takeGroups_98 : decode cX6_takeGroups 98 = .ok (.goto (-42), 3) := by decide +kernel
theorem dX6_takeGroups_101 : decode cX6_takeGroups 101 = .ok (.iload_n 3, 1) := by decide +kernel
theorem dX6_takeGroups_102 : decode cX6_takeGroups 102 = .ok (.istore_n 2, 1) := by decide +kernel
theorem dX6_takeGroups_103 : decode cX6_takeGroups 103 = .ok (.goto (-101), 3) := by decide +kernel
theorem dX6_takeGroups_106 : decode cX6_takeGroups 106 = .ok (.return_, 1) := by decide +kernel
set_option maxRecDepth 100000 in
theorem ggX6_takeState_X1_get : GoodIn wsX6_takeState wsX1_get := goodIn_r _ [6, 7, 8, 26, 27] rfl (by decide +kernel)
set_option maxRecDepth 20000 in
theorem gX6_takeState_X1_get : GoodIn wsX6_takeState (wsV RX6 71 RX1 yX1_get wsX1_get) := goodIn_app (goodIn_of _ (by decide +kernel)) ggX6_takeState_X1_get
set_option maxRecDepth 100000 in
theorem ggX6_takeState_X1_number : GoodIn wsX6_takeState wsX1_number := goodIn_r _ [12, 13, 3, 4, 5, 6, 7, 8, 26, 27] rfl (by decide +kernel)
set_option maxRecDepth 20000 in
theorem gX6_takeState_X1_number : GoodIn wsX6_takeState (wsV RX6 104 RX1 yX1_number wsX1_number) := goodIn_app (goodIn_of _ (by decide +kernel)) ggX6_takeState_X1_number
theorem dX6_takeState_0 : decode cX6_takeState 0 = .ok (.aload_n 1, 1) := by decide +kernel
theorem dX6_takeState_1 : decode cX6_takeState 1 = .ok (.iload_n 2, 1) := by decide +kernel
theorem dX6_takeState_2 : decode cX6_takeState 2 = .ok (.invokevirtual 71, 3) := by decide +kernel
theorem dX6_takeState_5 : decode cX6_takeState 5 = .ok (.istore_n 3, 1) := by decide +kernel
theorem dX6_takeState_6 : decode cX6_takeState 6 = .ok (.iload_n 3, 1) := by decide +kernel
theorem dX6_takeState_7 : decode cX6_takeState 7 = .ok (.ifCond .lt 23, 3) := by decide +kernel
theorem dX6_takeState_10 : decode cX6_takeState 10 = .ok (.iload_n 3, 1) := by decide +kernel
theorem dX6_takeState_11 : decode cX6_takeState 11 = .ok (.bipush 10, 2) := by decide +kernel
theorem dX6_takeState_13 : decode cX6_takeState 13 = .ok (.if_icmp .ge 17, 3) := by decide +kernel
theorem dX6_takeState_16 : decode cX6_takeState 16 = .ok (.aload_n 0, 1) := by decide +kernel
theorem dX6_takeState_17 : decode cX6_takeState 17 = .ok (.getfield 22, 3) := by decide +kernel
theorem dX6_takeState_20 : decode cX6_takeState 20 = .ok (.iload_n 3, 1) := by decide +kernel
theorem dX6_takeState_21 : decode cX6_takeState 21 = .ok (.aload_n 1, 1) := by decide +kernel
theorem dX6_takeState_22 : decode cX6_takeState 22 = .ok (.iload_n 2, 1) := by decide +kernel
theorem dX6_takeState_23 : decode cX6_takeState 23 = .ok (.iconst 1, 1) := by decide +kernel
theorem dX6_takeState_24 : decode cX6_takeState 24 = .ok (.iadd, 1) := by decide +kernel
theorem dX6_takeState_25 : decode cX6_takeState 25 = .ok (.iconst 2, 1) := by decide +kernel
theorem dX6_takeState_26 : decode cX6_takeState 26 = .ok (.invokevirtual 104, 3) := by decide +kernel
theorem dX6_takeState_29 : decode cX6_takeState 29 = .ok (.iastore, 1) := by decide +kernel
theorem dX6_takeState_30 : decode cX6_takeState 30 = .ok (.return_, 1) := by decide +kernel
set_option maxRecDepth 100000 in
theorem ggX6_takeEvent_X1_get : GoodIn wsX6_takeEvent wsX1_get := goodIn_r _ [10, 11, 12, 30, 31] rfl (by decide +kernel)
set_option maxRecDepth 20000 in
theorem gX6_takeEvent_X1_get : GoodIn wsX6_takeEvent (wsV RX6 71 RX1 yX1_get wsX1_get) := goodIn_app (goodIn_of _ (by decide +kernel)) ggX6_takeEvent_X1_get
set_option maxRecDepth 100000 in
theorem ggX6_takeEvent_X1_number : GoodIn wsX6_takeEvent wsX1_number := goodIn_r _ [16, 17, 7, 8, 9, 10, 11, 12, 30, 31] rfl (by decide +kernel)
set_option maxRecDepth 20000 in
theorem gX6_takeEvent_X1_number : GoodIn wsX6_takeEvent (wsV RX6 104 RX1 yX1_number wsX1_number) := goodIn_app (goodIn_of _ (by decide +kernel)) ggX6_takeEvent_X1_number
theorem dX6_takeEvent_0 : decode cX6_takeEvent 0 = .ok (.aload_n 1, 1) := by decide +kernel
theorem dX6_takeEvent_1 : decode cX6_takeEvent 1 = .ok (.iload_n 2, 1) := by decide +kernel
theorem dX6_takeEvent_2 : decode cX6_takeEvent 2 = .ok (.invokevirtual 71, 3) := by decide +kernel
theorem dX6_takeEvent_5 : decode cX6_takeEvent 5 = .ok (.istore 4, 2) := by decide +kernel
theorem dX6_takeEvent_7 : decode cX6_takeEvent 7 = .ok (.iload 4, 2) := by decide +kernel
theorem dX6_takeEvent_9 : decode cX6_takeEvent 9 = .ok (.ifCond .lt 10, 3) := by decide +kernel
theorem dX6_takeEvent_12 : decode cX6_takeEvent 12 = .ok (.iload 4, 2) := by decide +kernel
theorem dX6_takeEvent_14 : decode cX6_takeEvent 14 = .ok (.bipush 10, 2) := by decide +kernel
theorem dX6_takeEvent_16 : decode cX6_takeEvent 16 = .ok (.if_icmp .lt 4, 3) := by decide +kernel
theorem dX6_takeEvent_19 : decode cX6_takeEvent 19 = .ok (.return_, 1) := by decide +kernel
theorem dX6_takeEvent_20 : decode cX6_takeEvent 20 = .ok (.aload_n 1, 1) := by decide +kernel
theorem dX6_takeEvent_21 : decode cX6_takeEvent 21 = .ok (.iload_n 2, 1) := by decide +kernel
theorem dX6_takeEvent_22 : decode cX6_takeEvent 22 = .ok (.iconst 1, 1) := by decide +kernel
theorem dX6_takeEvent_23 : decode cX6_takeEvent 23 = .ok (.iadd, 1) := by decide +kernel
theorem dX6_takeEvent_24 : decode cX6_takeEvent 24 = .ok (.iconst 2, 1) := by decide +kernel
theorem dX6_takeEvent_25 : decode cX6_takeEvent 25 = .ok (.invokevirtual 104, 3) := by decide +kernel
theorem dX6_takeEvent_28 : decode cX6_takeEvent 28 = .ok (.istore 5, 2) := by decide +kernel
theorem dX6_takeEvent_30 : decode cX6_takeEvent 30 = .ok (.aload_n 1, 1) := by decide +kernel
theorem dX6_takeEvent_31 : decode cX6_takeEvent 31 = .ok (.iload_n 2, 1) := by decide +kernel
theorem dX6_takeEvent_32 : decode cX6_takeEvent 32 = .ok (.iconst 3, 1) := by decide +kernel
theorem dX6_takeEvent_33 : decode cX6_takeEvent 33 = .ok (.iadd, 1) := by decide +kernel
theorem dX6_takeEvent_34 : decode cX6_takeEvent 34 = .ok (.iconst 4, 1) := by decide +kernel
theorem dX6_takeEvent_35 : decode cX6_takeEvent 35 = .ok (.invokevirtual 104, 3) := by decide +kernel
theorem dX6_takeEvent_38 : decode cX6_takeEvent 38 = .ok (.istore 6, 2) := by decide +kernel
theorem dX6_takeEvent_40 : decode cX6_takeEvent 40 = .ok (.iload 6, 2) := by decide +kernel
theorem dX6_takeEvent_42 : decode cX6_takeEvent 42 = .ok (.aload_n 0, 1) := by decide +kernel
theorem dX6_takeEvent_43 : decode cX6_takeEvent 43 = .ok (.getfield 26, 3) := by decide +kernel
theorem dX6_takeEvent_46 : decode cX6_takeEvent 46 = .ok (.iload 4, 2) := by decide +kernel
theorem dX6_takeEvent_48 : decode cX6_takeEvent 48 = .ok (.iaload, 1) := by decide +kernel
theorem dX6_takeEvent_49 : decode cX6_takeEvent 49 = .ok (.if_icmp .gt 14, 3) := by decide +kernel
theorem dX6_takeEvent_52 : decode cX6_takeEvent 52 = .ok (.aload_n 0, 1) := by decide +kernel
theorem dX6_takeEvent_53 : decode cX6_takeEvent 53 = .ok (.dup, 1) := by decide +kernel
theorem dX6_takeEvent_54 : decode cX6_takeEvent 54 = .ok (.getfield 108, 3) := by decide +kernel
theorem dX6_takeEvent_57 : decode cX6_takeEvent 57 = .ok (.iconst 1, 1) := by decide +kernel
theorem dX6_takeEvent_58 : decode cX6_takeEvent 58 = .ok (.iadd, 1) := by decide +kernel
theorem dX6_takeEvent_59 : decode cX6_takeEvent 59 = .ok (.putfield 108, 3) := by decide +kernel
theorem dX6_takeEvent_62 : decode cX6_takeEvent 62 = .ok (.return_, 1) := by decide +kernel
theorem dX6_takeEvent_63 : decode cX6_takeEvent 63 = .ok (.aload_n 0, 1) := by decide +kernel
theorem dX6_takeEvent_64 : decode cX6_takeEvent 64 = .ok (.getfield 22, 3) := by decide +kernel
theorem dX6_takeEvent_67 : decode cX6_takeEvent 67 = .ok (.iload 4, 2) := by decide +kernel
theorem dX6_takeEvent_69 : decode cX6_takeEvent 69 = .ok (.iload 5, 2) := by decide +kernel
theorem dX6_takeEvent_71 : decode cX6_takeEvent 71 = .ok (.iastore, 1) := by decide +kernel
theorem dX6_takeEvent_72 : decode cX6_takeEvent 72 = .ok (.aload_n 0, 1) := by decide +kernel
theorem dX6_takeEvent_73 : decode cX6_takeEvent 73 = .ok (.getfield 26, 3) := by decide +kernel
theorem dX6_takeEvent_76 : decode cX6_takeEvent 76 = .ok (.iload 4, 2) := by decide +kernel
theorem dX6_takeEvent_78 : decode cX6_takeEvent 78 = .ok (.iload 6, 2) := by decide +kernel
theorem dX6_takeEvent_80 : decode cX6_takeEvent 80 = .ok (.iastore, 1) := by decide +kernel
theorem dX6_takeEvent_81 : decode cX6_takeEvent 81 = .ok (.aload_n 0, 1) := by decide +kernel
theorem dX6_takeEvent_82 : decode cX6_takeEvent 82 = .ok (.getfield 111, 3) := by decide +kernel
theorem dX6_takeEvent_85 : decode cX6_takeEvent 85 = .ok (.sipush 200, 3) := by decide +kernel
theorem dX6_takeEvent_88 : decode cX6_takeEvent 88 = .ok (.if_icmp .ge 52, 3) := by decide +kernel
theorem dX6_takeEvent_91 : decode cX6_takeEvent 91 = .ok (.aload_n 0, 1) := by decide +kernel
theorem dX6_takeEvent_92 : decode cX6_takeEvent 92 = .ok (.getfield 111, 3) := by decide +kernel
theorem dX6_takeEvent_95 : decode cX6_takeEvent 95 = .ok (.iconst 4, 1) := by decide +kernel
theorem dX6_takeEvent_96 : decode cX6_takeEvent 96 = .ok (.imul, 1) := by decide +kernel
theorem dX6_takeEvent_97 : decode cX6_takeEvent 97 = .ok (.istore 7, 2) := by decide +kernel
theorem dX6_takeEvent_99 : decode cX6_takeEvent 99 = .ok (.aload_n 0, 1) := by decide +kernel
theorem dX6_takeEvent_100 : decode cX6_takeEvent 100 = .ok (.getfield 29, 3) := by decide +kernel
theorem dX6_takeEvent_103 : decode cX6_takeEvent 103 = .ok (.iload 7, 2) := by decide +kernel
theorem dX6_takeEvent_105 : decode cX6_takeEvent 105 = .ok (.iload 4, 2) := by decide +kernel
theorem dX6_takeEvent_107 : decode cX6_takeEvent 107 = .ok (.iastore, 1) := by decide +kernel
theorem dX6_takeEvent_108 : decode cX6_takeEvent 108 = .ok (.aload_n 0, 1) := by decide +kernel
theorem dX6_takeEvent_109 : decode cX6_takeEvent 109 = .ok (.getfield 29, 3) := by decide +kernel
theorem dX6_takeEvent_112 : decode cX6_takeEvent 112 = .ok (.iload 7, 2) := by decide +kernel
theorem dX6_takeEvent_114 : decode cX6_takeEvent 114 = .ok (.iconst 1, 1) := by decide +kernel
theorem dX6_takeEvent_115 : decode cX6_takeEvent 115 = .ok (.iadd, 1) := by decide +kernel
theorem dX6_takeEvent_116 : decode cX6_takeEvent 116 = .ok (.iload 5, 2) := by decide +kernel
theorem dX6_takeEvent_118 : decode cX6_takeEvent 118 = .ok (.iastore, 1) := by decide +kernel
theorem dX6_takeEvent_119 : decode cX6_takeEvent 119 = .ok (.aload_n 0, 1) := by decide +kernel
theorem dX6_takeEvent_120 : decode cX6_takeEvent 120 = .ok (.getfield 29, 3) := by decide +kernel
theorem dX6_takeEvent_123 : decode cX6_takeEvent 123 = .ok (.iload 7, 2) := by decide +kernel
