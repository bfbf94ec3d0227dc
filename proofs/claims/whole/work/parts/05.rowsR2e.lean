theorem dX12_poke_1 : decode cX12_poke 1 = .ok (.iload_n 1, 1) := by decide +kernel
theorem dX12_poke_2 : decode cX12_poke 2 = .ok (.invokevirtual 260, 3) := by decide +kernel
theorem dX12_poke_5 : decode cX12_poke 5 = .ok (.ifCond .eq 29, 3) := by decide +kernel
theorem dX12_poke_8 : decode cX12_poke 8 = .ok (.iload_n 2, 1) := by decide +kernel
theorem dX12_poke_9 : decode cX12_poke 9 = .ok (.ifCond .lt 25, 3) := by decide +kernel
theorem dX12_poke_12 : decode cX12_poke 12 = .ok (.iload_n 2, 1) := by decide +kernel
theorem dX12_poke_13 : decode cX12_poke 13 = .ok (.aload_n 0, 1) := by decide +kernel
theorem dX12_poke_14 : decode cX12_poke 14 = .ok (.getfield 54, 3) := by decide +kernel
theorem dX12_poke_17 : decode cX12_poke 17 = .ok (.iload_n 1, 1) := by decide +kernel
theorem dX12_poke_18 : decode cX12_poke 18 = .ok (.iaload, 1) := by decide +kernel
theorem dX12_poke_19 : decode cX12_poke 19 = .ok (.if_icmp .ge 15, 3) := by decide +kernel
theorem dX12_poke_22 : decode cX12_poke 22 = .ok (.iload_n 3, 1) := by decide +kernel
theorem dX12_poke_23 : decode cX12_poke 23 = .ok (.iconst 1, 1) := by decide +kernel
theorem dX12_poke_24 : decode cX12_poke 24 = .ok (.if_icmp .lt 10, 3) := by decide +kernel
theorem dX12_poke_27 : decode cX12_poke 27 = .ok (.iload_n 3, 1) := by decide +kernel
theorem dX12_poke_28 : decode cX12_poke 28 = .ok (.sipush 255, 3) := by decide +kernel
theorem dX12_poke_31 : decode cX12_poke 31 = .ok (.if_icmp .le 5, 3) := by decide +kernel
theorem dX12_poke_34 : decode cX12_poke 34 = .ok (.iconst 0, 1) := by decide +kernel
theorem dX12_poke_35 : decode cX12_poke 35 = .ok (.ireturn, 1) := by decide +kernel
theorem dX12_poke_36 : decode cX12_poke 36 = .ok (.aload_n 0, 1) := by decide +kernel
theorem dX12_poke_37 : decode cX12_poke 37 = .ok (.getfield 51, 3) := by decide +kernel
theorem dX12_poke_40 : decode cX12_poke 40 = .ok (.bipush 40, 2) := by decide +kernel
theorem dX12_poke_42 : decode cX12_poke 42 = .ok (.iload_n 1, 1) := by decide +kernel
theorem dX12_poke_43 : decode cX12_poke 43 = .ok (.imul, 1) := by decide +kernel
theorem dX12_poke_44 : decode cX12_poke 44 = .ok (.iload_n 2, 1) := by decide +kernel
theorem dX12_poke_45 : decode cX12_poke 45 = .ok (.iadd, 1) := by decide +kernel
theorem dX12_poke_46 : decode cX12_poke 46 = .ok (.aload_n 0, 1) := by decide +kernel
theorem dX12_poke_47 : decode cX12_poke 47 = .ok (.getfield 51, 3) := by decide +kernel
theorem dX12_poke_50 : decode cX12_poke 50 = .ok (.bipush 40, 2) := by decide +kernel
theorem dX12_poke_52 : decode cX12_poke 52 = .ok (.iload_n 1, 1) := by decide +kernel
theorem dX12_poke_53 : decode cX12_poke 53 = .ok (.imul, 1) := by decide +kernel
theorem dX12_poke_54 : decode cX12_poke 54 = .ok (.iload_n 2, 1) := by decide +kernel
theorem dX12_poke_55 : decode cX12_poke 55 = .ok (.iadd, 1) := by decide +kernel
theorem dX12_poke_56 : decode cX12_poke 56 = .ok (.iaload, 1) := by decide +kernel
theorem dX12_poke_57 : decode cX12_poke 57 = .ok (.iload_n 3, 1) := by decide +kernel
theorem dX12_poke_58 : decode cX12_poke 58 = .ok (.ixor, 1) := by decide +kernel
theorem dX12_poke_59 : decode cX12_poke 59 = .ok (.iastore, 1) := by decide +kernel
theorem dX12_poke_60 : decode cX12_poke 60 = .ok (.iconst 1, 1) := by decide +kernel
theorem dX12_poke_61 : decode cX12_poke 61 = .ok (.ireturn, 1) := by decide +kernel
set_option maxRecDepth 100000 in
theorem ggX12_at_X12_isFlying : GoodIn wsX12_at wsX12_isFlying := goodIn_r _ [7, 8, 9, 10, 11, 12, 13, 14, 15, 16, 17, 18, 19, 20, 21, 22, 23, 24, 25, 26, 27, 28, 29, 30, 31, 32, 33, 34, 35, 36, 37, 38, 39, 40, 41, 42, 43, 44, 45, 46, 47, 48, 49, 50, 51, 52, 53, 54, 55] rfl (by decide +kernel)
set_option maxRecDepth 20000 in
theorem gX12_at_X12_isFlying : GoodIn wsX12_at (wsV RX12 260 RX12 yX12_isFlying wsX12_isFlying) := goodIn_app (goodIn_of _ (by decide +kernel)) ggX12_at_X12_isFlying
theorem dX12_at_0 : decode cX12_at 0 = .ok (.aload_n 0, 1) := by decide +kernel
theorem dX12_at_1 : decode cX12_at 1 = .ok (.iload_n 1, 1) := by decide +kernel
theorem dX12_at_2 : decode cX12_at 2 = .ok (.invokevirtual 260, 3) := by decide +kernel
theorem dX12_at_5 : decode cX12_at 5 = .ok (.ifCond .eq 31, 3) := by decide +kernel
theorem dX12_at_8 : decode cX12_at 8 = .ok (.iload_n 2, 1) := by decide +kernel
theorem dX12_at_9 : decode cX12_at 9 = .ok (.ifCond .lt 27, 3) := by decide +kernel
theorem dX12_at_12 : decode cX12_at 12 = .ok (.iload_n 2, 1) := by decide +kernel
theorem dX12_at_13 : decode cX12_at 13 = .ok (.aload_n 0, 1) := by decide +kernel
theorem dX12_at_14 : decode cX12_at 14 = .ok (.getfield 54, 3) := by decide +kernel
theorem dX12_at_17 : decode cX12_at 17 = .ok (.iload_n 1, 1) := by decide +kernel
theorem dX12_at_18 : decode cX12_at 18 = .ok (.iaload, 1) := by decide +kernel
theorem dX12_at_19 : decode cX12_at 19 = .ok (.if_icmp .ge 17, 3) := by decide +kernel
theorem dX12_at_22 : decode cX12_at 22 = .ok (.aload_n 0, 1) := by decide +kernel
theorem dX12_at_23 : decode cX12_at 23 = .ok (.getfield 51, 3) := by decide +kernel
theorem dX12_at_26 : decode cX12_at 26 = .ok (.bipush 40, 2) := by decide +kernel
theorem dX12_at_28 : decode cX12_at 28 = .ok (.iload_n 1, 1) := by decide +kernel
theorem dX12_at_29 : decode cX12_at 29 = .ok (.imul, 1) := by decide +kernel
theorem dX12_at_30 : decode cX12_at 30 = .ok (.iload_n 2, 1) := by decide +kernel
theorem dX12_at_31 : decode cX12_at 31 = .ok (.iadd, 1) := by decide +kernel
theorem dX12_at_32 : decode cX12_at 32 = .ok (.iaload, 1) := by decide +kernel
theorem dX12_at_33 : decode cX12_at 33 = .ok (.goto 4, 3) := by decide +kernel
theorem dX12_at_36 : decode cX12_at 36 = .ok (.iconst (-1), 1) := by decide +kernel
theorem dX12_at_37 : decode cX12_at 37 = .ok (.ireturn, 1) := by decide +kernel
theorem dX12_flying_0 : decode cX12_flying 0 = .ok (.aload_n 0, 1) := by decide +kernel
theorem dX12_flying_1 : decode cX12_flying 1 = .ok (.getfield 89, 3) := by decide +kernel
theorem dX12_flying_4 : decode cX12_flying 4 = .ok (.ireturn, 1) := by decide +kernel
theorem dX12_feed_0 : decode cX12_feed 0 = .ok (.iload_n 1, 1) := by decide +kernel
theorem dX12_feed_1 : decode cX12_feed 1 = .ok (.ifCond .lt 19, 3) := by decide +kernel
theorem dX12_feed_4 : decode cX12_feed 4 = .ok (.iload_n 1, 1) := by decide +kernel
theorem dX12_feed_5 : decode cX12_feed 5 = .ok (.sipush 255, 3) := by decide +kernel
theorem dX12_feed_8 : decode cX12_feed 8 = .ok (.if_icmp .gt 12, 3) := by decide +kernel
theorem dX12_feed_11 : decode cX12_feed 11 = .ok (.aload_n 0, 1) := by decide +kernel
theorem dX12_feed_12 : decode cX12_feed 12 = .ok (.getfield 267, 3) := by decide +kernel
theorem dX12_feed_15 : decode cX12_feed 15 = .ok (.bipush 60, 2) := by decide +kernel
theorem dX12_feed_17 : decode cX12_feed 17 = .ok (.if_icmp .ne 5, 3) := by decide +kernel
theorem dX12_feed_20 : decode cX12_feed 20 = .ok (.iconst 0, 1) := by decide +kernel
theorem dX12_feed_21 : decode cX12_feed 21 = .ok (.ireturn, 1) := by decide +kernel
theorem dX12_feed_22 : decode cX12_feed 22 = .ok (.aload_n 0, 1) := by decide +kernel
theorem dX12_feed_23 : decode cX12_feed 23 = .ok (.getfield 81, 3) := by decide +kernel
theorem dX12_feed_26 : decode cX12_feed 26 = .ok (.aload_n 0, 1) := by decide +kernel
theorem dX12_feed_27 : decode cX12_feed 27 = .ok (.getfield 267, 3) := by decide +kernel
theorem dX12_feed_30 : decode cX12_feed 30 = .ok (.iload_n 1, 1) := by decide +kernel
theorem dX12_feed_31 : decode cX12_feed 31 = .ok (.iastore, 1) := by decide +kernel
theorem dX12_feed_32 : decode cX12_feed 32 = .ok (.aload_n 0, 1) := by decide +kernel
theorem dX12_feed_33 : decode cX12_feed 33 = .ok (.dup, 1) := by decide +kernel
theorem dX12_feed_34 : decode cX12_feed 34 = .ok (.getfield 267, 3) := by decide +kernel
theorem dX12_feed_37 : decode cX12_feed 37 = .ok (.iconst 1, 1) := by decide +kernel
theorem dX12_feed_38 : decode cX12_feed 38 = .ok (.iadd, 1) := by decide +kernel
theorem dX12_feed_39 : decode cX12_feed 39 = .ok (.putfield 267, 3) := by decide +kernel
theorem dX12_feed_42 : decode cX12_feed 42 = .ok (.iconst 1, 1) := by decide +kernel
theorem dX12_feed_43 : decode cX12_feed 43 = .ok (.ireturn, 1) := by decide +kernel
set_option maxRecDepth 100000 in
theorem ggX12_inject_X12_take : GoodIn wsX12_inject wsX12_take := goodIn_r _ [9, 2, 3, 10, 11, 12, 13, 8, 14, 15, 16, 17, 18, 19, 20, 21, 22, 23, 24, 25, 26, 27, 28, 29, 30, 31, 32, 33, 34, 35, 36, 37, 38, 39, 40, 41, 42, 43, 44, 45, 46, 47, 48, 49, 50, 51, 52, 53, 54, 55, 56, 57, 58, 59, 60, 61, 62, 63, 64, 65, 66, 67, 68, 69, 70, 71, 72, 73, 74, 75, 76, 77, 78, 79, 80, 81, 82, 83, 84, 85, 86, 87, 88, 89, 90, 91, 92, 93, 94, 95, 96, 97, 98, 99, 100, 101, 102, 103, 104, 105, 106, 107, 108, 109, 110, 111, 112, 113, 114, 115, 116, 117, 118, 119, 120, 121, 122, 123, 124, 125, 126, 127, 128, 129, 130, 131, 132, 133, 134, 135, 136, 137, 138, 139, 140, 141, 142, 143, 144, 145, 146, 147, 148, 149, 150, 151, 152, 153, 154, 155, 156, 157, 158, 159, 160, 161, 162, 163, 164, 165, 166, 167, 168, 169, 170, 171, 172, 173, 174, 175, 176, 177, 178, 179, 180, 181, 182, 183, 184, 185] rfl (by decide +kernel)
set_option maxRecDepth 20000 in
theorem gX12_inject_X12_take : GoodIn wsX12_inject (wsV RX12 130 RX12 yX12_take wsX12_take) := goodIn_app (goodIn_of _ (by decide +kernel)) ggX12_inject_X12_take
theorem dX12_inject_0 : decode cX12_inject 0 = .ok (.iload_n 1, 1) := by decide +kernel
theorem dX12_inject_1 : decode cX12_inject 1 = .ok (.ifCond .lt 8, 3) := by decide +kernel
theorem dX12_inject_4 : decode cX12_inject 4 = .ok (.iload_n 1, 1) := by decide +kernel
theorem dX12_inject_5 : decode cX12_inject 5 = .ok (.iconst 1, 1) := by decide +kernel
theorem dX12_inject_6 : decode cX12_inject 6 = .ok (.if_icmp .le 5, 3) := by decide +kernel
theorem dX12_inject_9 : decode cX12_inject 9 = .ok (.iconst 0, 1) := by decide +kernel
theorem dX12_inject_10 : decode cX12_inject 10 = .ok (.ireturn, 1) := by decide +kernel
theorem dX12_inject_11 : decode cX12_inject 11 = .ok (.aload_n 0, 1) := by decide +kernel
theorem dX12_inject_12 : decode cX12_inject 12 = .ok (.aload_n 0, 1) := by decide +kernel
theorem dX12_inject_13 : decode cX12_inject 13 = .ok (.getfield 267, 3) := by decide +kernel
theorem dX12_inject_16 : decode cX12_inject 16 = .ok (.putfield 127, 3) := by decide +kernel
theorem dX12_inject_19 : decode cX12_inject 19 = .ok (.iconst 0, 1) := by decide +kernel
theorem dX12_inject_20 : decode cX12_inject 20 = .ok (.istore_n 2, 1) := by decide +kernel
theorem dX12_inject_21 : decode cX12_inject 21 = .ok (.iload_n 2, 1) := by decide +kernel
theorem dX12_inject_22 : decode cX12_inject 22 = .ok (.aload_n 0, 1) := by decide +kernel
theorem dX12_inject_23 : decode cX12_inject 23 = .ok (.getfield 127, 3) := by decide +kernel
theorem dX12_inject_26 : decode cX12_inject 26 = .ok (.if_icmp .ge 21, 3) := by decide +kernel
theorem dX12_inject_29 : decode cX12_inject 29 = .ok (.aload_n 0, 1) := by decide +kernel
theorem dX12_inject_30 : decode cX12_inject 30 = .ok (.getfield 78, 3) := by decide +kernel
theorem dX12_inject_33 : decode cX12_inject 33 = .ok (.iload_n 2, 1) := by decide +kernel
theorem dX12_inject_34 : decode cX12_inject 34 = .ok (.aload_n 0, 1) := by decide +kernel
theorem dX12_inject_35 : decode cX12_inject 35 = .ok (.getfield 81, 3) := by decide +kernel
theorem dX12_inject_38 : decode cX12_inject 38 = .ok (.iload_n 2, 1) := by decide +kernel
theorem dX12_inject_39 : decode cX12_inject 39 = .ok (.iaload, 1) := by decide +kernel
theorem dX12_inject_40 : decode cX12_inject 40 = .ok (.iastore, 1) := by decide +kernel
theorem dX12_inject_41 : decode cX12_inject 41 = .ok (.iinc 2 1, 3) := by decide +kernel
theorem dX12_inject_44 : decode cX12_inject 44 = .ok (.goto (-23), 3) := by decide +kernel
theorem dX12_inject_47 : decode cX12_inject 47 = .ok (.aload_n 0, 1) := by decide +kernel
theorem dX12_inject_48 : decode cX12_inject 48 = .ok (.iconst 0, 1) := by decide +kernel
theorem dX12_inject_49 : decode cX12_inject 49 = .ok (.putfield 267, 3) := by decide +kernel
theorem dX12_inject_52 : decode cX12_inject 52 = .ok (.aload_n 0, 1) := by decide +kernel
theorem dX12_inject_53 : decode cX12_inject 53 = .ok (.iload_n 1, 1) := by decide +kernel
theorem dX12_inject_54 : decode cX12_inject 54 = .ok (.invokevirtual 130, 3) := by decide +kernel
theorem dX12_inject_57 : decode cX12_inject 57 = .ok (.ireturn, 1) := by decide +kernel
set_option maxRecDepth 100000 in
theorem ggX12_view_X12_isPoint : GoodIn wsX12_view wsX12_isPoint := goodIn_r _ [6] rfl (by decide +kernel)
set_option maxRecDepth 20000 in
theorem gX12_view_X12_isPoint : GoodIn wsX12_view (va_wsS RX12 220 yX12_isPoint wsX12_isPoint) := goodIn_app (goodIn_of _ (by decide +kernel)) ggX12_view_X12_isPoint
theorem dX12_view_0 : decode cX12_view 0 = .ok (.iload_n 1, 1) := by decide +kernel
theorem dX12_view_1 : decode cX12_view 1 = .ok (.invokestatic 220, 3) := by decide +kernel
theorem dX12_view_4 : decode cX12_view 4 = .ok (.ifCond .eq 12, 3) := by decide +kernel
theorem dX12_view_7 : decode cX12_view 7 = .ok (.iload_n 2, 1) := by decide +kernel
theorem dX12_view_8 : decode cX12_view 8 = .ok (.ifCond .lt 8, 3) := by decide +kernel
theorem dX12_view_11 : decode cX12_view 11 = .ok (.iload_n 2, 1) := by decide +kernel
theorem dX12_view_12 : decode cX12_view 12 = .ok (.iconst 1, 1) := by decide +kernel
theorem dX12_view_13 : decode cX12_view 13 = .ok (.if_icmp .le 5, 3) := by decide +kernel
theorem dX12_view_16 : decode cX12_view 16 = .ok (.iconst (-1), 1) := by decide +kernel
theorem dX12_view_17 : decode cX12_view 17 = .ok (.ireturn, 1) := by decide +kernel
theorem dX12_view_18 : decode cX12_view 18 = .ok (.iload_n 2, 1) := by decide +kernel
theorem dX12_view_19 : decode cX12_view 19 = .ok (.ifCond .ne 12, 3) := by decide +kernel
theorem dX12_view_22 : decode cX12_view 22 = .ok (.aload_n 0, 1) := by decide +kernel
theorem dX12_view_23 : decode cX12_view 23 = .ok (.getfield 42, 3) := by decide +kernel
theorem dX12_view_26 : decode cX12_view 26 = .ok (.iload_n 1, 1) := by decide +kernel
theorem dX12_view_27 : decode cX12_view 27 = .ok (.iaload, 1) := by decide +kernel
theorem dX12_view_28 : decode cX12_view 28 = .ok (.goto 9, 3) := by decide +kernel
theorem dX12_view_31 : decode cX12_view 31 = .ok (.aload_n 0, 1) := by decide +kernel
theorem dX12_view_32 : decode cX12_view 32 = .ok (.getfield 45, 3) := by decide +kernel
theorem dX12_view_35 : decode cX12_view 35 = .ok (.iload_n 1, 1) := by decide +kernel
theorem dX12_view_36 : decode cX12_view 36 = .ok (.iaload, 1) := by decide +kernel
theorem dX12_view_37 : decode cX12_view 37 = .ok (.ireturn, 1) := by decide +kernel
theorem dX12_taken_0 : decode cX12_taken 0 = .ok (.iload_n 1, 1) := by decide +kernel
theorem dX12_taken_1 : decode cX12_taken 1 = .ok (.ifCond .lt 31, 3) := by decide +kernel
theorem dX12_taken_4 : decode cX12_taken 4 = .ok (.iload_n 1, 1) := by decide +kernel
theorem dX12_taken_5 : decode cX12_taken 5 = .ok (.aload_n 0, 1) := by decide +kernel
theorem dX12_taken_6 : decode cX12_taken 6 = .ok (.getfield 242, 3) := by decide +kernel
theorem dX12_taken_9 : decode cX12_taken 9 = .ok (.if_icmp .ge 23, 3) := by decide +kernel
theorem dX12_taken_12 : decode cX12_taken 12 = .ok (.iload_n 1, 1) := by decide +kernel
theorem dX12_taken_13 : decode cX12_taken 13 = .ok (.sipush 200, 3) := by decide +kernel
theorem dX12_taken_16 : decode cX12_taken 16 = .ok (.if_icmp .ge 16, 3) := by decide +kernel
theorem dX12_taken_19 : decode cX12_taken 19 = .ok (.iload_n 2, 1) := by decide +kernel
theorem dX12_taken_20 : decode cX12_taken 20 = .ok (.ifCond .lt 12, 3) := by decide +kernel
theorem dX12_taken_23 : decode cX12_taken 23 = .ok (.iload_n 2, 1) := by decide +kernel
theorem dX12_taken_24 : decode cX12_taken 24 = .ok (.iconst 3, 1) := by decide +kernel
theorem dX12_taken_25 : decode cX12_taken 25 = .ok (.if_icmp .gt 7, 3) := by decide +kernel
theorem dX12_taken_28 : decode cX12_taken 28 = .ok (.iconst 1, 1) := by decide +kernel
theorem dX12_taken_29 : decode cX12_taken 29 = .ok (.goto 4, 3) := by decide +kernel
theorem dX12_taken_32 : decode cX12_taken 32 = .ok (.iconst 0, 1) := by decide +kernel
theorem dX12_taken_33 : decode cX12_taken 33 = .ok (.istore_n 3, 1) := by decide +kernel
theorem dX12_taken_34 : decode cX12_taken 34 = .ok (.iload_n 3, 1) := by decide +kernel
theorem dX12_taken_35 : decode cX12_taken 35 = .ok (.ifCond .eq 16, 3) := by decide +kernel
theorem dX12_taken_38 : decode cX12_taken 38 = .ok (.aload_n 0, 1) := by decide +kernel
theorem dX12_taken_39 : decode cX12_taken 39 = .ok (.getfield 48, 3) := by decide +kernel
theorem dX12_taken_42 : decode cX12_taken 42 = .ok (.iconst 4, 1) := by decide +kernel
theorem dX12_taken_43 : decode cX12_taken 43 = .ok (.iload_n 1, 1) := by decide +kernel
theorem dX12_taken_44 : decode cX12_taken 44 = .ok (.imul, 1) := by decide +kernel
theorem dX12_taken_45 : decode cX12_taken 45 = .ok (.iload_n 2, 1) := by decide +kernel
theorem dX12_taken_46 : decode cX12_taken 46 = .ok (.iadd, 1) := by decide +kernel
theorem dX12_taken_47 : decode cX12_taken 47 = .ok (.iaload, 1) := by decide +kernel
theorem dX12_taken_48 : decode cX12_taken 48 = .ok (.goto 4, 3) := by decide +kernel
theorem dX12_taken_51 : decode cX12_taken 51 = .ok (.iconst (-1), 1) := by decide +kernel
theorem dX12_taken_52 : decode cX12_taken 52 = .ok (.ireturn, 1) := by decide +kernel
theorem dX12_event_0 : decode cX12_event 0 = .ok (.iload_n 1, 1) := by decide +kernel
theorem dX12_event_1 : decode cX12_event 1 = .ok (.iconst 1, 1) := by decide +kernel
theorem dX12_event_2 : decode cX12_event 2 = .ok (.if_icmp .lt 22, 3) := by decide +kernel
theorem dX12_event_5 : decode cX12_event 5 = .ok (.iload_n 1, 1) := by decide +kernel
theorem dX12_event_6 : decode cX12_event 6 = .ok (.iconst 3, 1) := by decide +kernel
theorem dX12_event_7 : decode cX12_event 7 = .ok (.if_icmp .gt 17, 3) := by decide +kernel
theorem dX12_event_10 : decode cX12_event 10 = .ok (.iload_n 2, 1) := by decide +kernel
theorem dX12_event_11 : decode cX12_event 11 = .ok (.ifCond .lt 13, 3) := by decide +kernel
theorem dX12_event_14 : decode cX12_event 14 = .ok (.iload_n 2, 1) := by decide +kernel
theorem dX12_event_15 : decode cX12_event 15 = .ok (.aload_n 0, 1) := by decide +kernel
theorem dX12_event_16 : decode cX12_event 16 = .ok (.getfield 19, 3) := by decide +kernel
theorem dX12_event_19 : decode cX12_event 19 = .ok (.iload_n 1, 1) := by decide +kernel
theorem dX12_event_20 : decode cX12_event 20 = .ok (.iaload, 1) := by decide +kernel
theorem dX12_event_21 : decode cX12_event 21 = .ok (.if_icmp .lt 5, 3) := by decide +kernel
theorem dX12_event_24 : decode cX12_event 24 = .ok (.iconst (-1), 1) := by decide +kernel
theorem dX12_event_25 : decode cX12_event 25 = .ok (.ireturn, 1) := by decide +kernel
theorem dX12_event_26 : decode cX12_event 26 = .ok (.bipush 8, 2) := by decide +kernel
theorem dX12_event_28 : decode cX12_event 28 = .ok (.iload_n 1, 1) := by decide +kernel
theorem dX12_event_29 : decode cX12_event 29 = .ok (.imul, 1) := by decide +kernel
theorem dX12_event_30 : decode cX12_event 30 = .ok (.iload_n 2, 1) := by decide +kernel
theorem dX12_event_31 : decode cX12_event 31 = .ok (.iadd, 1) := by decide +kernel
theorem dX12_event_32 : decode cX12_event 32 = .ok (.istore 4, 2) := by decide +kernel
theorem dX12_event_34 : decode cX12_event 34 = .ok (.iload_n 3, 1) := by decide +kernel
theorem dX12_event_35 : decode cX12_event 35 = .ok (.tableswitch 69 0 3 #[29, 37, 45, 53], 29) := by decide +kernel
theorem dX12_event_64 : decode cX12_event 64 = .ok (.aload_n 0, 1) := by decide +kernel
theorem dX12_event_65 : decode cX12_event 65 = .ok (.getfield 22, 3) := by decide +kernel
theorem dX12_event_68 : decode cX12_event 68 = .ok (.iload 4, 2) := by decide +kernel
theorem dX12_event_70 : decode cX12_event 70 = .ok (.iaload, 1) := by decide +kernel
theorem dX12_event_71 : decode cX12_event 71 = .ok (.ireturn, 1) := by decide +kernel
theorem dX12_event_72 : decode cX12_event 72 = .ok (.aload_n 0, 1) := by decide +kernel
theorem dX12_event_73 : decode cX12_event 73 = .ok (.getfield 25, 3) := by decide +kernel
theorem dX12_event_76 : decode cX12_event 76 = .ok (.iload 4, 2) := by decide +kernel
theorem dX12_event_78 : decode cX12_event 78 = .ok (.iaload, 1) := by decide +kernel
theorem dX12_event_79 : decode cX12_event 79 = .ok (.ireturn, 1) := by decide +kernel
theorem dX12_event_80 : decode cX12_event 80 = .ok (.aload_n 0, 1) := by decide +kernel
theorem dX12_event_81 : decode cX12_event 81 = .ok (.getfield 28, 3) := by decide +kernel
theorem dX12_event_84 : decode cX12_event 84 = .ok (.iload 4, 2) := by decide +kernel
theorem dX12_event_86 : decode cX12_event 86 = .ok (.iaload, 1) := by decide +kernel
theorem dX12_event_87 : decode cX12_event 87 = .ok (.ireturn, 1) := by decide +kernel
theorem dX12_event_88 : decode cX12_event 88 = .ok (.aload_n 0, 1) := by decide +kernel
theorem dX12_event_89 : decode cX12_event 89 = .ok (.getfield 31, 3) := by decide +kernel
theorem dX12_event_92 : decode cX12_event 92 = .ok (.iload 4, 2) := by decide +kernel
theorem dX12_event_94 : decode cX12_event 94 = .ok (.baload, 1) := by decide +kernel
theorem dX12_event_95 : decode cX12_event 95 = .ok (.ifCond .eq 7, 3) := by decide +kernel
theorem dX12_event_98 : decode cX12_event 98 = .ok (.iconst 1, 1) := by decide +kernel
theorem dX12_event_99 : decode cX12_event 99 = .ok (.goto 4, 3) := by decide +kernel
theorem dX12_event_102 : decode cX12_event 102 = .ok (.iconst 0, 1) := by decide +kernel
theorem dX12_event_103 : decode cX12_event 103 = .ok (.ireturn, 1) := by decide +kernel
theorem dX12_event_104 : decode cX12_event 104 = .ok (.iconst (-1), 1) := by decide +kernel
theorem dX12_event_105 : decode cX12_event 105 = .ok (.ireturn, 1) := by decide +kernel
theorem dX12_count_0 : decode cX12_count 0 = .ok (.iload_n 1, 1) := by decide +kernel
theorem dX12_count_1 : decode cX12_count 1 = .ok (.tableswitch 131 0 11 #[63, 68, 73, 78, 83, 88, 93, 98, 103, 108, 113, 126], 63) := by decide +kernel
theorem dX12_count_64 : decode cX12_count 64 = .ok (.aload_n 0, 1) := by decide +kernel
theorem dX12_count_65 : decode cX12_count 65 = .ok (.getfield 196, 3) := by decide +kernel
theorem dX12_count_68 : decode cX12_count 68 = .ok (.ireturn, 1) := by decide +kernel
theorem dX12_count_69 : decode cX12_count 69 = .ok (.aload_n 0, 1) := by decide +kernel
theorem dX12_count_70 : decode cX12_count 70 = .ok (.getfield 242, 3) := by decide +kernel
theorem dX12_count_73 : decode cX12_count 73 = .ok (.ireturn, 1) := by decide +kernel
theorem dX12_count_74 : decode cX12_count 74 = .ok (.aload_n 0, 1) := by decide +kernel
theorem dX12_count_75 : decode cX12_count 75 = .ok (.getfield 239, 3) := by decide +kernel
theorem dX12_count_78 : decode cX12_count 78 = .ok (.ireturn, 1) := by decide +kernel
theorem dX12_count_79 : decode cX12_count 79 = .ok (.aload_n 0, 1) := by decide +kernel
theorem dX12_count_80 : decode cX12_count 80 = .ok (.getfield 124, 3) := by decide +kernel
theorem dX12_count_83 : decode cX12_count 83 = .ok (.ireturn, 1) := by decide +kernel
theorem dX12_count_84 : decode cX12_count 84 = .ok (.aload_n 0, 1) := by decide +kernel
theorem dX12_count_85 : decode cX12_count 85 = .ok (.getfield 141, 3) := by decide +kernel
theorem dX12_count_88 : decode cX12_count 88 = .ok (.ireturn, 1) := by decide +kernel
theorem dX12_count_89 : decode cX12_count 89 = .ok (.aload_n 0, 1) := by decide +kernel
theorem dX12_count_90 : decode cX12_count 90 = .ok (.getfield 226, 3) := by decide +kernel
theorem dX12_count_93 : decode cX12_count 93 = .ok (.ireturn, 1) := by decide +kernel
theorem dX12_count_94 : decode cX12_count 94 = .ok (.aload_n 0, 1) := by decide +kernel
theorem dX12_count_95 : decode cX12_count 95 = .ok (.getfield 193, 3) := by decide +kernel
theorem dX12_count_98 : decode cX12_count 98 = .ok (.ireturn, 1) := by decide +kernel
theorem dX12_count_99 : decode cX12_count 99 = .ok (.aload_n 0, 1) := by decide +kernel
theorem dX12_count_100 : decode cX12_count 100 = .ok (.getfield 223, 3) := by decide +kernel
theorem dX12_count_103 : decode cX12_count 103 = .ok (.ireturn, 1) := by decide +kernel
theorem dX12_count_104 : decode cX12_count 104 = .ok (.aload_n 0, 1) := by decide +kernel
theorem dX12_count_105 : decode cX12_count 105 = .ok (.getfield 254, 3) := by decide +kernel
theorem dX12_count_108 : decode cX12_count 108 = .ok (.ireturn, 1) := by decide +kernel
theorem dX12_count_109 : decode cX12_count 109 = .ok (.aload_n 0, 1) := by decide +kernel
theorem dX12_count_110 : decode cX12_count 110 = .ok (.getfield 257, 3) := by decide +kernel
theorem dX12_count_113 : decode cX12_count 113 = .ok (.ireturn, 1) := by decide +kernel
theorem dX12_count_114 : decode cX12_count 114 = .ok (.aload_n 0, 1) := by decide +kernel
theorem dX12_count_115 : decode cX12_count 115 = .ok (.getfield 147, 3) := by decide +kernel
theorem dX12_count_118 : decode cX12_count 118 = .ok (.ifCond .le 7, 3) := by decide +kernel
theorem dX12_count_121 : decode cX12_count 121 = .ok (.iconst 1, 1) := by decide +kernel
theorem dX12_count_122 : decode cX12_count 122 = .ok (.goto 4, 3) := by decide +kernel
theorem dX12_count_125 : decode cX12_count 125 = .ok (.iconst 0, 1) := by decide +kernel
theorem dX12_count_126 : decode cX12_count 126 = .ok (.ireturn, 1) := by decide +kernel
theorem dX12_count_127 : decode cX12_count 127 = .ok (.aload_n 0, 1) := by decide +kernel
theorem dX12_count_128 : decode cX12_count 128 = .ok (.getfield 267, 3) := by decide +kernel
theorem dX12_count_131 : decode cX12_count 131 = .ok (.ireturn, 1) := by decide +kernel
theorem dX12_count_132 : decode cX12_count 132 = .ok (.iconst (-1), 1) := by decide +kernel
theorem dX12_count_133 : decode cX12_count 133 = .ok (.ireturn, 1) := by decide +kernel
