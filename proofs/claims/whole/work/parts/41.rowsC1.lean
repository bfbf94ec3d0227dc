set_option maxRecDepth 100000 in
theorem ggX0_put_X1_add : GoodIn wsX0_put wsX1_add := goodIn_r _ [5, 6, 7, 8, 9] rfl (by decide +kernel)
set_option maxRecDepth 20000 in
theorem gX0_put_X1_add : GoodIn wsX0_put (wsV RX0 11 RX1 yX1_add wsX1_add) := goodIn_app (goodIn_of _ (by decide +kernel)) ggX0_put_X1_add
theorem dX0_put_0 : decode cX0_put 0 = .ok (.aload_n 0, 1) := by decide +kernel
theorem dX0_put_1 : decode cX0_put 1 = .ok (.bipush 60, 2) := by decide +kernel
theorem dX0_put_3 : decode cX0_put 3 = .ok (.invokevirtual 11, 3) := by decide +kernel
theorem dX0_put_6 : decode cX0_put 6 = .ok (.pop, 1) := by decide +kernel
theorem dX0_put_7 : decode cX0_put 7 = .ok (.aload_n 0, 1) := by decide +kernel
theorem dX0_put_8 : decode cX0_put 8 = .ok (.iload_n 1, 1) := by decide +kernel
theorem dX0_put_9 : decode cX0_put 9 = .ok (.invokevirtual 11, 3) := by decide +kernel
theorem dX0_put_12 : decode cX0_put 12 = .ok (.pop, 1) := by decide +kernel
theorem dX0_put_13 : decode cX0_put 13 = .ok (.aload_n 0, 1) := by decide +kernel
theorem dX0_put_14 : decode cX0_put 14 = .ok (.bipush 6, 2) := by decide +kernel
theorem dX0_put_16 : decode cX0_put 16 = .ok (.invokevirtual 11, 3) := by decide +kernel
theorem dX0_put_19 : decode cX0_put 19 = .ok (.pop, 1) := by decide +kernel
theorem dX0_put_20 : decode cX0_put 20 = .ok (.return_, 1) := by decide +kernel
set_option maxRecDepth 100000 in
theorem ggX0_isSound_X1_size : GoodIn wsX0_isSound wsX1_size := goodIn_r _ [5, 6, 12, 13] rfl (by decide +kernel)
set_option maxRecDepth 20000 in
theorem gX0_isSound_X1_size : GoodIn wsX0_isSound (wsV RX0 17 RX1 yX1_size wsX1_size) := goodIn_app (goodIn_of _ (by decide +kernel)) ggX0_isSound_X1_size
set_option maxRecDepth 100000 in
theorem ggX0_isSound_X1_get : GoodIn wsX0_isSound wsX1_get := goodIn_r _ [10, 6, 11, 12, 13] rfl (by decide +kernel)
set_option maxRecDepth 20000 in
theorem gX0_isSound_X1_get : GoodIn wsX0_isSound (wsV RX0 21 RX1 yX1_get wsX1_get) := goodIn_app (goodIn_of _ (by decide +kernel)) ggX0_isSound_X1_get
theorem dX0_isSound_0 : decode cX0_isSound 0 = .ok (.aload_n 0, 1) := by decide +kernel
theorem dX0_isSound_1 : decode cX0_isSound 1 = .ok (.invokevirtual 17, 3) := by decide +kernel
theorem dX0_isSound_4 : decode cX0_isSound 4 = .ok (.iconst 2, 1) := by decide +kernel
theorem dX0_isSound_5 : decode cX0_isSound 5 = .ok (.isub, 1) := by decide +kernel
theorem dX0_isSound_6 : decode cX0_isSound 6 = .ok (.istore_n 1, 1) := by decide +kernel
theorem dX0_isSound_7 : decode cX0_isSound 7 = .ok (.iload_n 1, 1) := by decide +kernel
theorem dX0_isSound_8 : decode cX0_isSound 8 = .ok (.iconst 3, 1) := by decide +kernel
theorem dX0_isSound_9 : decode cX0_isSound 9 = .ok (.if_icmp .lt 15, 3) := by decide +kernel
theorem dX0_isSound_12 : decode cX0_isSound 12 = .ok (.iload_n 1, 1) := by decide +kernel
theorem dX0_isSound_13 : decode cX0_isSound 13 = .ok (.bipush 12, 2) := by decide +kernel
theorem dX0_isSound_15 : decode cX0_isSound 15 = .ok (.if_icmp .gt 9, 3) := by decide +kernel
theorem dX0_isSound_18 : decode cX0_isSound 18 = .ok (.iload_n 1, 1) := by decide +kernel
theorem dX0_isSound_19 : decode cX0_isSound 19 = .ok (.iconst 3, 1) := by decide +kernel
theorem dX0_isSound_20 : decode cX0_isSound 20 = .ok (.irem, 1) := by decide +kernel
theorem dX0_isSound_21 : decode cX0_isSound 21 = .ok (.ifCond .eq 5, 3) := by decide +kernel
theorem dX0_isSound_24 : decode cX0_isSound 24 = .ok (.iconst 0, 1) := by decide +kernel
theorem dX0_isSound_25 : decode cX0_isSound 25 = .ok (.ireturn, 1) := by decide +kernel
theorem dX0_isSound_26 : decode cX0_isSound 26 = .ok (.iconst 2, 1) := by decide +kernel
theorem dX0_isSound_27 : decode cX0_isSound 27 = .ok (.istore_n 2, 1) := by decide +kernel
theorem dX0_isSound_28 : decode cX0_isSound 28 = .ok (.iload_n 2, 1) := by decide +kernel
theorem dX0_isSound_29 : decode cX0_isSound 29 = .ok (.aload_n 0, 1) := by decide +kernel
theorem dX0_isSound_30 : decode cX0_isSound 30 = .ok (.invokevirtual 17, 3) := by decide +kernel
theorem dX0_isSound_33 : decode cX0_isSound 33 = .ok (.if_icmp .ge 51, 3) := by decide +kernel
theorem dX0_isSound_36 : decode cX0_isSound 36 = .ok (.aload_n 0, 1) := by decide +kernel
theorem dX0_isSound_37 : decode cX0_isSound 37 = .ok (.iload_n 2, 1) := by decide +kernel
theorem dX0_isSound_38 : decode cX0_isSound 38 = .ok (.iconst 1, 1) := by decide +kernel
theorem dX0_isSound_39 : decode cX0_isSound 39 = .ok (.iadd, 1) := by decide +kernel
theorem dX0_isSound_40 : decode cX0_isSound 40 = .ok (.invokevirtual 21, 3) := by decide +kernel
theorem dX0_isSound_43 : decode cX0_isSound 43 = .ok (.istore_n 3, 1) := by decide +kernel
theorem dX0_isSound_44 : decode cX0_isSound 44 = .ok (.aload_n 0, 1) := by decide +kernel
theorem dX0_isSound_45 : decode cX0_isSound 45 = .ok (.iload_n 2, 1) := by decide +kernel
theorem dX0_isSound_46 : decode cX0_isSound 46 = .ok (.invokevirtual 21, 3) := by decide +kernel
theorem dX0_isSound_49 : decode cX0_isSound 49 = .ok (.bipush 60, 2) := by decide +kernel
theorem dX0_isSound_51 : decode cX0_isSound 51 = .ok (.if_icmp .ne 25, 3) := by decide +kernel
theorem dX0_isSound_54 : decode cX0_isSound 54 = .ok (.iload_n 3, 1) := by decide +kernel
theorem dX0_isSound_55 : decode cX0_isSound 55 = .ok (.iconst 1, 1) := by decide +kernel
theorem dX0_isSound_56 : decode cX0_isSound 56 = .ok (.if_icmp .lt 20, 3) := by decide +kernel
theorem dX0_isSound_59 : decode cX0_isSound 59 = .ok (.iload_n 3, 1) := by decide +kernel
theorem dX0_isSound_60 : decode cX0_isSound 60 = .ok (.iconst 4, 1) := by decide +kernel
theorem dX0_isSound_61 : decode cX0_isSound 61 = .ok (.if_icmp .gt 15, 3) := by decide +kernel
theorem dX0_isSound_64 : decode cX0_isSound 64 = .ok (.aload_n 0, 1) := by decide +kernel
theorem dX0_isSound_65 : decode cX0_isSound 65 = .ok (.iload_n 2, 1) := by decide +kernel
theorem dX0_isSound_66 : decode cX0_isSound 66 = .ok (.iconst 2, 1) := by decide +kernel
theorem dX0_isSound_67 : decode cX0_isSound 67 = .ok (.iadd, 1) := by decide +kernel
theorem dX0_isSound_68 : decode cX0_isSound 68 = .ok (.invokevirtual 21, 3) := by decide +kernel
theorem dX0_isSound_71 : decode cX0_isSound 71 = .ok (.bipush 6, 2) := by decide +kernel
theorem dX0_isSound_73 : decode cX0_isSound 73 = .ok (.if_icmp .eq 5, 3) := by decide +kernel
theorem dX0_isSound_76 : decode cX0_isSound 76 = .ok (.iconst 0, 1) := by decide +kernel
theorem dX0_isSound_77 : decode cX0_isSound 77 = .ok (.ireturn, 1) := by decide +kernel
theorem dX0_isSound_78 : decode cX0_isSound 78 = .ok (.iinc 2 3, 3) := by decide +kernel
theorem dX0_isSound_81 : decode cX0_isSound 81 = .ok (.goto (-53), 3) := by decide +kernel
theorem dX0_isSound_84 : decode cX0_isSound 84 = .ok (.iconst 1, 1) := by decide +kernel
theorem dX0_isSound_85 : decode cX0_isSound 85 = .ok (.ireturn, 1) := by decide +kernel
theorem dX1_init_0 : decode cX1_init 0 = .ok (.aload_n 0, 1) := by decide +kernel
theorem dX1_init_1 : decode cX1_init 1 = .ok (.invokespecial 3, 3) := by decide +kernel
theorem dX1_init_4 : decode cX1_init 4 = .ok (.aload_n 0, 1) := by decide +kernel
theorem dX1_init_5 : decode cX1_init 5 = .ok (.iload_n 1, 1) := by decide +kernel
theorem dX1_init_6 : decode cX1_init 6 = .ok (.newarray .int, 2) := by decide +kernel
theorem dX1_init_8 : decode cX1_init 8 = .ok (.putfield 9, 3) := by decide +kernel
theorem dX1_init_11 : decode cX1_init 11 = .ok (.return_, 1) := by decide +kernel
theorem dX1_size_0 : decode cX1_size 0 = .ok (.aload_n 0, 1) := by decide +kernel
theorem dX1_size_1 : decode cX1_size 1 = .ok (.getfield 15, 3) := by decide +kernel
theorem dX1_size_4 : decode cX1_size 4 = .ok (.ireturn, 1) := by decide +kernel
theorem dX1_clear_0 : decode cX1_clear 0 = .ok (.aload_n 0, 1) := by decide +kernel
theorem dX1_clear_1 : decode cX1_clear 1 = .ok (.iconst 0, 1) := by decide +kernel
theorem dX1_clear_2 : decode cX1_clear 2 = .ok (.putfield 15, 3) := by decide +kernel
theorem dX1_clear_5 : decode cX1_clear 5 = .ok (.return_, 1) := by decide +kernel
theorem dX1_hasRoomFor_0 : decode cX1_hasRoomFor 0 = .ok (.aload_n 0, 1) := by decide +kernel
theorem dX1_hasRoomFor_1 : decode cX1_hasRoomFor 1 = .ok (.getfield 15, 3) := by decide +kernel
theorem dX1_hasRoomFor_4 : decode cX1_hasRoomFor 4 = .ok (.iload_n 1, 1) := by decide +kernel
theorem dX1_hasRoomFor_5 : decode cX1_hasRoomFor 5 = .ok (.iadd, 1) := by decide +kernel
theorem dX1_hasRoomFor_6 : decode cX1_hasRoomFor 6 = .ok (.aload_n 0, 1) := by decide +kernel
theorem dX1_hasRoomFor_7 : decode cX1_hasRoomFor 7 = .ok (.getfield 9, 3) := by decide +kernel
theorem dX1_hasRoomFor_10 : decode cX1_hasRoomFor 10 = .ok (.arraylength, 1) := by decide +kernel
theorem dX1_hasRoomFor_11 : decode cX1_hasRoomFor 11 = .ok (.if_icmp .gt 7, 3) := by decide +kernel
theorem dX1_hasRoomFor_14 : decode cX1_hasRoomFor 14 = .ok (.iconst 1, 1) := by decide +kernel
theorem dX1_hasRoomFor_15 : decode cX1_hasRoomFor 15 = .ok (.goto 4, 3) := by decide +kernel
theorem dX1_hasRoomFor_18 : decode cX1_hasRoomFor 18 = .ok (.iconst 0, 1) := by decide +kernel
theorem dX1_hasRoomFor_19 : decode cX1_hasRoomFor 19 = .ok (.ireturn, 1) := by decide +kernel
theorem dX1_get_0 : decode cX1_get 0 = .ok (.iload_n 1, 1) := by decide +kernel
theorem dX1_get_1 : decode cX1_get 1 = .ok (.ifCond .lt 11, 3) := by decide +kernel
theorem dX1_get_4 : decode cX1_get 4 = .ok (.iload_n 1, 1) := by decide +kernel
theorem dX1_get_5 : decode cX1_get 5 = .ok (.aload_n 0, 1) := by decide +kernel
theorem dX1_get_6 : decode cX1_get 6 = .ok (.getfield 15, 3) := by decide +kernel
theorem dX1_get_9 : decode cX1_get 9 = .ok (.if_icmp .lt 7, 3) := by decide +kernel
theorem dX1_get_12 : decode cX1_get 12 = .ok (.iconst (-1), 1) := by decide +kernel
theorem dX1_get_13 : decode cX1_get 13 = .ok (.goto 9, 3) := by decide +kernel
theorem dX1_get_16 : decode cX1_get 16 = .ok (.aload_n 0, 1) := by decide +kernel
theorem dX1_get_17 : decode cX1_get 17 = .ok (.getfield 9, 3) := by decide +kernel
theorem dX1_get_20 : decode cX1_get 20 = .ok (.iload_n 1, 1) := by decide +kernel
theorem dX1_get_21 : decode cX1_get 21 = .ok (.iaload, 1) := by decide +kernel
theorem dX1_get_22 : decode cX1_get 22 = .ok (.ireturn, 1) := by decide +kernel
theorem dX1_set_0 : decode cX1_set 0 = .ok (.iload_n 1, 1) := by decide +kernel
theorem dX1_set_1 : decode cX1_set 1 = .ok (.ifCond .lt 22, 3) := by decide +kernel
theorem dX1_set_4 : decode cX1_set 4 = .ok (.iload_n 1, 1) := by decide +kernel
theorem dX1_set_5 : decode cX1_set 5 = .ok (.aload_n 0, 1) := by decide +kernel
theorem dX1_set_6 : decode cX1_set 6 = .ok (.getfield 15, 3) := by decide +kernel
theorem dX1_set_9 : decode cX1_set 9 = .ok (.if_icmp .ge 14, 3) := by decide +kernel
theorem dX1_set_12 : decode cX1_set 12 = .ok (.aload_n 0, 1) := by decide +kernel
theorem dX1_set_13 : decode cX1_set 13 = .ok (.getfield 9, 3) := by decide +kernel
theorem dX1_set_16 : decode cX1_set 16 = .ok (.iload_n 1, 1) := by decide +kernel
theorem dX1_set_17 : decode cX1_set 17 = .ok (.iload_n 2, 1) := by decide +kernel
theorem dX1_set_18 : decode cX1_set 18 = .ok (.sipush 255, 3) := by decide +kernel
theorem dX1_set_21 : decode cX1_set 21 = .ok (.iand, 1) := by decide +kernel
theorem dX1_set_22 : decode cX1_set 22 = .ok (.iastore, 1) := by decide +kernel
theorem dX1_set_23 : decode cX1_set 23 = .ok (.return_, 1) := by decide +kernel
theorem dX1_add_0 : decode cX1_add 0 = .ok (.aload_n 0, 1) := by decide +kernel
theorem dX1_add_1 : decode cX1_add 1 = .ok (.getfield 15, 3) := by decide +kernel
theorem dX1_add_4 : decode cX1_add 4 = .ok (.aload_n 0, 1) := by decide +kernel
theorem dX1_add_5 : decode cX1_add 5 = .ok (.getfield 9, 3) := by decide +kernel
theorem dX1_add_8 : decode cX1_add 8 = .ok (.arraylength, 1) := by decide +kernel
theorem dX1_add_9 : decode cX1_add 9 = .ok (.if_icmp .lt 5, 3) := by decide +kernel
theorem dX1_add_12 : decode cX1_add 12 = .ok (.iconst 0, 1) := by decide +kernel
theorem dX1_add_13 : decode cX1_add 13 = .ok (.ireturn, 1) := by decide +kernel
theorem dX1_add_14 : decode cX1_add 14 = .ok (.aload_n 0, 1) := by decide +kernel
theorem dX1_add_15 : decode cX1_add 15 = .ok (.getfield 9, 3) := by decide +kernel
theorem dX1_add_18 : decode cX1_add 18 = .ok (.aload_n 0, 1) := by decide +kernel
theorem dX1_add_19 : decode cX1_add 19 = .ok (.getfield 15, 3) := by decide +kernel
theorem dX1_add_22 : decode cX1_add 22 = .ok (.iload_n 1, 1) := by decide +kernel
theorem dX1_add_23 : decode cX1_add 23 = .ok (.sipush 255, 3) := by decide +kernel
theorem dX1_add_26 : decode cX1_add 26 = .ok (.iand, 1) := by decide +kernel
theorem dX1_add_27 : decode cX1_add 27 = .ok (.iastore, 1) := by decide +kernel
theorem dX1_add_28 : decode cX1_add 28 = .ok (.aload_n 0, 1) := by decide +kernel
theorem dX1_add_29 : decode cX1_add 29 = .ok (.dup, 1) := by decide +kernel
theorem dX1_add_30 : decode cX1_add 30 = .ok (.getfield 15, 3) := by decide +kernel
theorem dX1_add_33 : decode cX1_add 33 = .ok (.iconst 1, 1) := by decide +kernel
theorem dX1_add_34 : decode cX1_add 34 = .ok (.iadd, 1) := by decide +kernel
theorem dX1_add_35 : decode cX1_add 35 = .ok (.putfield 15, 3) := by decide +kernel
theorem dX1_add_38 : decode cX1_add 38 = .ok (.iconst 1, 1) := by decide +kernel
theorem dX1_add_39 : decode cX1_add 39 = .ok (.ireturn, 1) := by decide +kernel
set_option maxRecDepth 100000 in
theorem ggX1_addNumber_X1_add : GoodIn wsX1_addNumber wsX1_add := goodIn_r _ [5, 6, 7, 8, 9] rfl (by decide +kernel)
set_option maxRecDepth 20000 in
theorem gX1_addNumber_X1_add : GoodIn wsX1_addNumber (wsV RX1 19 RX1 yX1_add wsX1_add) := goodIn_app (goodIn_of _ (by decide +kernel)) ggX1_addNumber_X1_add
theorem dX1_addNumber_0 : decode cX1_addNumber 0 = .ok (.iconst 0, 1) := by decide +kernel
theorem dX1_addNumber_1 : decode cX1_addNumber 1 = .ok (.istore_n 3, 1) := by decide +kernel
theorem dX1_addNumber_2 : decode cX1_addNumber 2 = .ok (.iload_n 3, 1) := by decide +kernel
theorem dX1_addNumber_3 : decode cX1_addNumber 3 = .ok (.iload_n 2, 1) := by decide +kernel
theorem dX1_addNumber_4 : decode cX1_addNumber 4 = .ok (.if_icmp .ge 20, 3) := by decide +kernel
theorem dX1_addNumber_7 : decode cX1_addNumber 7 = .ok (.aload_n 0, 1) := by decide +kernel
theorem dX1_addNumber_8 : decode cX1_addNumber 8 = .ok (.iload_n 1, 1) := by decide +kernel
theorem dX1_addNumber_9 : decode cX1_addNumber 9 = .ok (.bipush 8, 2) := by decide +kernel
theorem dX1_addNumber_11 : decode cX1_addNumber 11 = .ok (.iload_n 3, 1) := by decide +kernel
theorem dX1_addNumber_12 : decode cX1_addNumber 12 = .ok (.imul, 1) := by decide +kernel
theorem dX1_addNumber_13 : decode cX1_addNumber 13 = .ok (.ishr, 1) := by decide +kernel
theorem dX1_addNumber_14 : decode cX1_addNumber 14 = .ok (.invokevirtual 19, 3) := by decide +kernel
theorem dX1_addNumber_17 : decode cX1_addNumber 17 = .ok (.pop, 1) := by decide +kernel
theorem dX1_addNumber_18 : decode cX1_addNumber 18 = .ok (.iinc 3 1, 3) := by decide +kernel
theorem dX1_addNumber_21 : decode cX1_addNumber 21 = .ok (.goto (-19), 3) := by decide +kernel
theorem dX1_addNumber_24 : decode cX1_addNumber 24 = .ok (.return_, 1) := by decide +kernel
set_option maxRecDepth 100000 in
theorem ggX1_number_X1_get : GoodIn wsX1_number wsX1_get := goodIn_r _ [5, 6, 7, 8, 9] rfl (by decide +kernel)
set_option maxRecDepth 20000 in
theorem gX1_number_X1_get : GoodIn wsX1_number (wsV RX1 23 RX1 yX1_get wsX1_get) := goodIn_app (goodIn_of _ (by decide +kernel)) ggX1_number_X1_get
theorem dX1_number_0 : decode cX1_number 0 = .ok (.iconst 0, 1) := by decide +kernel
theorem dX1_number_1 : decode cX1_number 1 = .ok (.istore_n 3, 1) := by decide +kernel
theorem dX1_number_2 : decode cX1_number 2 = .ok (.iconst 0, 1) := by decide +kernel
theorem dX1_number_3 : decode cX1_number 3 = .ok (.istore 4, 2) := by decide +kernel
theorem dX1_number_5 : decode cX1_number 5 = .ok (.iload 4, 2) := by decide +kernel
theorem dX1_number_7 : decode cX1_number 7 = .ok (.iload_n 2, 1) := by decide +kernel
theorem dX1_number_8 : decode cX1_number 8 = .ok (.if_icmp .ge 30, 3) := by decide +kernel
theorem dX1_number_11 : decode cX1_number 11 = .ok (.iload_n 3, 1) := by decide +kernel
theorem dX1_number_12 : decode cX1_number 12 = .ok (.aload_n 0, 1) := by decide +kernel
theorem dX1_number_13 : decode cX1_number 13 = .ok (.iload_n 1, 1) := by decide +kernel
theorem dX1_number_14 : decode cX1_number 14 = .ok (.iload 4, 2) := by decide +kernel
theorem dX1_number_16 : decode cX1_number 16 = .ok (.iadd, 1) := by decide +kernel
theorem dX1_number_17 : decode cX1_number 17 = .ok (.invokevirtual 23, 3) := by decide +kernel
theorem dX1_number_20 : decode cX1_number 20 = .ok (.sipush 255, 3) := by decide +kernel
theorem dX1_number_23 : decode cX1_number 23 = .ok (.iand, 1) := by decide +kernel
theorem dX1_number_24 : decode cX1_number 24 = .ok (.bipush 8, 2) := by decide +kernel
theorem dX1_number_26 : decode cX1_number 26 = .ok (.iload 4, 2) := by decide +kernel
theorem dX1_number_28 : decode cX1_number 28 = .ok (.imul, 1) := by decide +kernel
theorem dX1_number_29 : decode cX1_number 29 = .ok (.ishl, 1) := by decide +kernel
theorem dX1_number_30 : decode cX1_number 30 = .ok (.ior, 1) := by decide +kernel
theorem dX1_number_31 : decode cX1_number 31 = .ok (.istore_n 3, 1) := by decide +kernel
theorem dX1_number_32 : decode cX1_number 32 = .ok (.iinc 4 1, 3) := by decide +kernel
theorem dX1_number_35 : decode cX1_number 35 = .ok (.goto (-30), 3) := by decide +kernel
theorem dX1_number_38 : decode cX1_number 38 = .ok (.iload_n 3, 1) := by decide +kernel
theorem dX1_number_39 : decode cX1_number 39 = .ok (.ireturn, 1) := by decide +kernel
set_option maxRecDepth 100000 in
theorem ggX1_check_X1_get : GoodIn wsX1_check wsX1_get := goodIn_r _ [7, 8, 9, 10, 11] rfl (by decide +kernel)
set_option maxRecDepth 20000 in
theorem gX1_check_X1_get : GoodIn wsX1_check (wsV RX1 23 RX1 yX1_get wsX1_get) := goodIn_app (goodIn_of _ (by decide +kernel)) ggX1_check_X1_get
theorem dX1_check_0 : decode cX1_check 0 = .ok (.iconst 0, 1) := by decide +kernel
theorem dX1_check_1 : decode cX1_check 1 = .ok (.istore_n 3, 1) := by decide +kernel
theorem dX1_check_2 : decode cX1_check 2 = .ok (.iconst 0, 1) := by decide +kernel
theorem dX1_check_3 : decode cX1_check 3 = .ok (.istore 4, 2) := by decide +kernel
theorem dX1_check_5 : decode cX1_check 5 = .ok (.iload 4, 2) := by decide +kernel
theorem dX1_check_7 : decode cX1_check 7 = .ok (.iload_n 2, 1) := by decide +kernel
theorem dX1_check_8 : decode cX1_check 8 = .ok (.if_icmp .ge 59, 3) := by decide +kernel
theorem dX1_check_11 : decode cX1_check 11 = .ok (.iload_n 3, 1) := by decide +kernel
theorem dX1_check_12 : decode cX1_check 12 = .ok (.aload_n 0, 1) := by decide +kernel
theorem dX1_check_13 : decode cX1_check 13 = .ok (.iload_n 1, 1) := by decide +kernel
theorem dX1_check_14 : decode cX1_check 14 = .ok (.iload 4, 2) := by decide +kernel
theorem dX1_check_16 : decode cX1_check 16 = .ok (.iadd, 1) := by decide +kernel
theorem dX1_check_17 : decode cX1_check 17 = .ok (.invokevirtual 23, 3) := by decide +kernel
theorem dX1_check_20 : decode cX1_check 20 = .ok (.sipush 255, 3) := by decide +kernel
theorem dX1_check_23 : decode cX1_check 23 = .ok (.iand, 1) := by decide +kernel
theorem dX1_check_24 : decode cX1_check 24 = .ok (.ixor, 1) := by decide +kernel
theorem dX1_check_25 : decode cX1_check 25 = .ok (.istore_n 3, 1) := by decide +kernel
theorem dX1_check_26 : decode cX1_check 26 = .ok (.iconst 0, 1) := by decide +kernel
theorem dX1_check_27 : decode cX1_check 27 = .ok (.istore 5, 2) := by decide +kernel
theorem dX1_check_29 : decode cX1_check 29 = .ok (.iload 5, 2) := by decide +kernel
theorem dX1_check_31 : decode cX1_check 31 = .ok (.bipush 8, 2) := by decide +kernel
theorem dX1_check_33 : decode cX1_check 33 = .ok (.if_icmp .ge 28, 3) := by decide +kernel
theorem dX1_check_36 : decode cX1_check 36 = .ok (.iload_n 3, 1) := by decide +kernel
theorem dX1_check_37 : decode cX1_check 37 = .ok (.iconst 1, 1) := by decide +kernel
theorem dX1_check_38 : decode cX1_check 38 = .ok (.iand, 1) := by decide +kernel
theorem dX1_check_39 : decode cX1_check 39 = .ok (.ifCond .ne 9, 3) := by decide +kernel
theorem dX1_check_42 : decode cX1_check 42 = .ok (.iload_n 3, 1) := by decide +kernel
theorem dX1_check_43 : decode cX1_check 43 = .ok (.iconst 1, 1) := by decide +kernel
theorem dX1_check_44 : decode cX1_check 44 = .ok (.ishr, 1) := by decide +kernel
theorem dX1_check_45 : decode cX1_check 45 = .ok (.goto 9, 3) := by decide +kernel
theorem dX1_check_48 : decode cX1_check 48 = .ok (.iload_n 3, 1) := by decide +kernel
theorem dX1_check_49 : decode cX1_check 49 = .ok (.iconst 1, 1) := by decide +kernel
theorem dX1_check_50 : decode cX1_check 50 = .ok (.ishr, 1) := by decide +kernel
theorem dX1_check_51 : decode cX1_check 51 = .ok (.ldc 27, 2) := by decide +kernel
theorem dX1_check_53 : decode cX1_check 53 = .ok (.ixor, 1) := by decide +kernel
theorem dX1_check_54 : decode cX1_check 54 = .ok (.istore_n 3, 1) := by decide +kernel
theorem dX1_check_55 : decode cX1_check 55 = .ok (.iinc 5 1, 3) := by decide +kernel
theorem dX1_check_58 : decode cX1_check 58 = .ok (.goto (-29), 3) := by decide +kernel
theorem dX1_check_61 : decode cX1_check 61 = .ok (.iinc 4 1, 3) := by decide +kernel
theorem dX1_check_64 : decode cX1_check 64 = .ok (.goto (-59), 3) := by decide +kernel
theorem dX1_check_67 : decode cX1_check 67 = .ok (.iload_n 3, 1) := by decide +kernel
theorem dX1_check_68 : decode cX1_check 68 = .ok (.iconst (-1), 1) := by decide +kernel
theorem dX1_check_69 : decode cX1_check 69 = .ok (.ixor, 1) := by decide +kernel
theorem dX1_check_70 : decode cX1_check 70 = .ok (.ldc 28, 2) := by decide +kernel
theorem dX1_check_72 : decode cX1_check 72 = .ok (.iand, 1) := by decide +kernel
theorem dX1_check_73 : decode cX1_check 73 = .ok (.ireturn, 1) := by decide +kernel
theorem dX2_init_0 : decode cX2_init 0 = .ok (.aload_n 0, 1) := by decide +kernel
theorem dX2_init_1 : decode cX2_init 1 = .ok (.invokespecial 3, 3) := by decide +kernel
theorem dX2_init_4 : decode cX2_init 4 = .ok (.aload_n 0, 1) := by decide +kernel
theorem dX2_init_5 : decode cX2_init 5 = .ok (.bipush 8, 2) := by decide +kernel
theorem dX2_init_7 : decode cX2_init 7 = .ok (.newarray .int, 2) := by decide +kernel
theorem dX2_init_9 : decode cX2_init 9 = .ok (.putfield 11, 3) := by decide +kernel
theorem dX2_init_12 : decode cX2_init 12 = .ok (.aload_n 0, 1) := by decide +kernel
theorem dX2_init_13 : decode cX2_init 13 = .ok (.bipush 8, 2) := by decide +kernel
theorem dX2_init_15 : decode cX2_init 15 = .ok (.newarray .int, 2) := by decide +kernel
theorem dX2_init_17 : decode cX2_init 17 = .ok (.putfield 15, 3) := by decide +kernel
theorem dX2_init_20 : decode cX2_init 20 = .ok (.aload_n 0, 1) := by decide +kernel
theorem dX2_init_21 : decode cX2_init 21 = .ok (.bipush 8, 2) := by decide +kernel
theorem dX2_init_23 : decode cX2_init 23 = .ok (.newarray .int, 2) := by decide +kernel
theorem dX2_init_25 : decode cX2_init 25 = .ok (.putfield 18, 3) := by decide +kernel
theorem dX2_init_28 : decode cX2_init 28 = .ok (.return_, 1) := by decide +kernel
set_option maxRecDepth 100000 in
theorem ggX2_add_X2_dropOldest : GoodIn wsX2_add wsX2_dropOldest := goodIn_r _ [9, 1, 2, 3, 4, 10, 11, 12, 13, 14, 15, 16, 17, 18, 19] rfl (by decide +kernel)
set_option maxRecDepth 20000 in
theorem gX2_add_X2_dropOldest : GoodIn wsX2_add (wsV RX2 25 RX2 yX2_dropOldest wsX2_dropOldest) := goodIn_app (goodIn_of _ (by decide +kernel)) ggX2_add_X2_dropOldest
theorem dX2_add_0 : decode cX2_add 0 = .ok (.aload_n 0, 1) := by decide +kernel
theorem dX2_add_1 : decode cX2_add 1 = .ok (.getfield 21, 3) := by decide +kernel
theorem dX2_add_4 : decode cX2_add 4 = .ok (.bipush 8, 2) := by decide +kernel
theorem dX2_add_6 : decode cX2_add 6 = .ok (.if_icmp .ne 7, 3) := by decide +kernel
theorem dX2_add_9 : decode cX2_add 9 = .ok (.iconst 1, 1) := by decide +kernel
theorem dX2_add_10 : decode cX2_add 10 = .ok (.goto 4, 3) := by decide +kernel
theorem dX2_add_13 : decode cX2_add 13 = .ok (.iconst 0, 1) := by decide +kernel
theorem dX2_add_14 : decode cX2_add 14 = .ok (.istore 4, 2) := by decide +kernel
theorem dX2_add_16 : decode cX2_add 16 = .ok (.iload 4, 2) := by decide +kernel
theorem dX2_add_18 : decode cX2_add 18 = .ok (.ifCond .eq 8, 3) := by decide +kernel
theorem dX2_add_21 : decode cX2_add 21 = .ok (.aload_n 0, 1) := by decide +kernel
theorem dX2_add_22 : decode cX2_add 22 = .ok (.iconst 1, 1) := by decide +kernel
theorem dX2_add_23 : decode cX2_add 23 = .ok (.invokevirtual 25, 3) := by decide +kernel
theorem dX2_add_26 : decode cX2_add 26 = .ok (.aload_n 0, 1) := by decide +kernel
theorem dX2_add_27 : decode cX2_add 27 = .ok (.getfield 11, 3) := by decide +kernel
theorem dX2_add_30 : decode cX2_add 30 = .ok (.aload_n 0, 1) := by decide +kernel
theorem dX2_add_31 : decode cX2_add 31 = .ok (.getfield 21, 3) := by decide +kernel
theorem dX2_add_34 : decode cX2_add 34 = .ok (.iload_n 1, 1) := by decide +kernel
theorem dX2_add_35 : decode cX2_add 35 = .ok (.iastore, 1) := by decide +kernel
theorem dX2_add_36 : decode cX2_add 36 = .ok (.aload_n 0, 1) := by decide +kernel
theorem dX2_add_37 : decode cX2_add 37 = .ok (.getfield 15, 3) := by decide +kernel
theorem dX2_add_40 : decode cX2_add 40 = .ok (.aload_n 0, 1) := by decide +kernel
theorem dX2_add_41 : decode cX2_add 41 = .ok (.getfield 21, 3) := by decide +kernel
theorem dX2_add_44 : decode cX2_add 44 = .ok (.iload_n 2, 1) := by decide +kernel
theorem dX2_add_45 : decode cX2_add 45 = .ok (.iastore, 1) := by decide +kernel
theorem dX2_add_46 : decode cX2_add 46 = .ok (.aload_n 0, 1) := by decide +kernel
theorem dX2_add_47 : decode cX2_add 47 = .ok (.getfield 18, 3) := by decide +kernel
theorem dX2_add_50 : decode cX2_add 50 = .ok (.aload_n 0, 1) := by decide +kernel
theorem dX2_add_51 : decode cX2_add 51 = .ok (.getfield 21, 3) := by decide +kernel
theorem dX2_add_54 : decode cX2_add 54 = .ok (.iload_n 3, 1) := by decide +kernel
theorem dX2_add_55 : decode cX2_add 55 = .ok (.iastore, 1) := by decide +kernel
theorem dX2_add_56 : decode cX2_add 56 = .ok (.aload_n 0, 1) := by decide +kernel
theorem dX2_add_57 : decode cX2_add 57 = .ok (.dup, 1) := by decide +kernel
theorem dX2_add_58 : decode cX2_add 58 = .ok (.getfield 21, 3) := by decide +kernel
theorem dX2_add_61 : decode cX2_add 61 = .ok (.iconst 1, 1) := by decide +kernel
theorem dX2_add_62 : decode cX2_add 62 = .ok (.iadd, 1) := by decide +kernel
theorem dX2_add_63 : decode cX2_add 63 = .ok (.putfield 21, 3) := by decide +kernel
theorem dX2_add_66 : decode cX2_add 66 = .ok (.iload 4, 2) := by decide +kernel
theorem dX2_add_68 : decode cX2_add 68 = .ok (.ireturn, 1) := by decide +kernel
set_option maxRecDepth 100000 in
theorem ggX2_dropWaiting_X2_dropOldest : GoodIn wsX2_dropWaiting wsX2_dropOldest := goodIn_r _ [6, 7, 8, 9, 10, 1, 11, 12, 13, 14, 15, 16, 17, 18, 19] rfl (by decide +kernel)
set_option maxRecDepth 20000 in
theorem gX2_dropWaiting_X2_dropOldest : GoodIn wsX2_dropWaiting (wsV RX2 25 RX2 yX2_dropOldest wsX2_dropOldest) := goodIn_app (goodIn_of _ (by decide +kernel)) ggX2_dropWaiting_X2_dropOldest
theorem dX2_dropWaiting_0 : decode cX2_dropWaiting 0 = .ok (.aload_n 0, 1) := by decide +kernel
theorem dX2_dropWaiting_1 : decode cX2_dropWaiting 1 = .ok (.aload_n 0, 1) := by decide +kernel
theorem dX2_dropWaiting_2 : decode cX2_dropWaiting 2 = .ok (.getfield 29, 3) := by decide +kernel
theorem dX2_dropWaiting_5 : decode cX2_dropWaiting 5 = .ok (.invokevirtual 25, 3) := by decide +kernel
theorem dX2_dropWaiting_8 : decode cX2_dropWaiting 8 = .ok (.return_, 1) := by decide +kernel
theorem dX2_dropOldest_0 : decode cX2_dropOldest 0 = .ok (.iload_n 1, 1) := by decide +kernel
theorem dX2_dropOldest_1 : decode cX2_dropOldest 1 = .ok (.istore_n 2, 1) := by decide +kernel
theorem dX2_dropOldest_2 : decode cX2_dropOldest 2 = .ok (.iload_n 2, 1) := by decide +kernel
theorem dX2_dropOldest_3 : decode cX2_dropOldest 3 = .ok (.aload_n 0, 1) := by decide +kernel
theorem dX2_dropOldest_4 : decode cX2_dropOldest 4 = .ok (.getfield 21, 3) := by decide +kernel
theorem dX2_dropOldest_7 : decode cX2_dropOldest 7 = .ok (.if_icmp .ge 51, 3) := by decide +kernel
theorem dX2_dropOldest_10 : decode cX2_dropOldest 10 = .ok (.aload_n 0, 1) := by decide +kernel
theorem dX2_dropOldest_11 : decode cX2_dropOldest 11 = .ok (.getfield 11, 3) := by decide +kernel
theorem dX2_dropOldest_14 : decode cX2_dropOldest 14 = .ok (.iload_n 2, 1) := by decide +kernel
theorem dX2_dropOldest_15 : decode cX2_dropOldest 15 = .ok (.iload_n 1, 1) := by decide +kernel
theorem dX2_dropOldest_16 : decode cX2_dropOldest 16 = .ok (.isub, 1) := by decide +kernel
theorem dX2_dropOldest_17 : decode cX2_dropOldest 17 = .ok (.aload_n 0, 1) := by decide +kernel
theorem dX2_dropOldest_18 : decode cX2_dropOldest 18 = .ok (.getfield 11, 3) := by decide +kernel
theorem dX2_dropOldest_21 : decode cX2_dropOldest 21 = .ok (.iload_n 2, 1) := by decide +kernel
theorem dX2_dropOldest_22 : decode cX2_dropOldest 22 = .ok (.iaload, 1) := by decide +kernel
theorem dX2_dropOldest_23 : decode cX2_dropOldest 23 = .ok (.iastore, 1) := by decide +kernel
theorem dX2_dropOldest_24 : decode cX2_dropOldest 24 = .ok (.aload_n 0, 1) := by decide +kernel
theorem dX2_dropOldest_25 : decode cX2_dropOldest 25 = .ok (.getfield 15, 3) := by decide +kernel
theorem dX2_dropOldest_28 : decode cX2_dropOldest 28 = .ok (.iload_n 2, 1) := by decide +kernel
theorem dX2_dropOldest_29 : decode cX2_dropOldest 29 = .ok (.iload_n 1, 1) := by decide +kernel
theorem dX2_dropOldest_30 : decode cX2_dropOldest 30 = .ok (.isub, 1) := by decide +kernel
theorem dX2_dropOldest_31 : decode cX2_dropOldest 31 = .ok (.aload_n 0, 1) := by decide +kernel
theorem dX2_dropOldest_32 : decode cX2_dropOldest 32 = .ok (.getfield 15, 3) := by decide +kernel
theorem dX2_dropOldest_35 : decode cX2_dropOldest 35 = .ok (.iload_n 2, 1) := by decide +kernel
theorem dX2_dropOldest_36 : decode cX2_dropOldest 36 = .ok (.iaload, 1) := by decide +kernel
theorem dX2_dropOldest_37 : decode cX2_dropOldest 37 = .ok (.iastore, 1) := by decide +kernel
theorem dX2_dropOldest_38 : decode cX2_dropOldest 38 = .ok (.aload_n 0, 1) := by decide +kernel
theorem dX2_dropOldest_39 : decode cX2_dropOldest 39 = .ok (.getfield 18, 3) := by decide +kernel
theorem dX2_dropOldest_42 : decode cX2_dropOldest 42 = .ok (.iload_n 2, 1) := by decide +kernel
theorem dX2_dropOldest_43 : decode cX2_dropOldest 43 = .ok (.iload_n 1, 1) := by decide +kernel
theorem dX2_dropOldest_44 : decode cX2_dropOldest 44 = .ok (.isub, 1) := by decide +kernel
theorem dX2_dropOldest_45 : decode cX2_dropOldest 45 = .ok (.aload_n 0, 1) := by decide +kernel
theorem dX2_dropOldest_46 : decode cX2_dropOldest 46 = .ok (.getfield 18, 3) := by decide +kernel
theorem dX2_dropOldest_49 : decode cX2_dropOldest 49 = .ok (.iload_n 2, 1) := by decide +kernel
theorem dX2_dropOldest_50 : decode cX2_dropOldest 50 = .ok (.iaload, 1) := by decide +kernel
theorem dX2_dropOldest_51 : decode cX2_dropOldest 51 = .ok (.iastore, 1) := by decide +kernel
theorem dX2_dropOldest_52 : decode cX2_dropOldest 52 = .ok (.iinc 2 1, 3) := by decide +kernel
theorem dX2_dropOldest_55 : decode cX2_dropOldest 55 = .ok (.goto (-53), 3) := by decide +kernel
theorem dX2_dropOldest_58 : decode cX2_dropOldest 58 = .ok (.aload_n 0, 1) := by decide +kernel
theorem dX2_dropOldest_59 : decode cX2_dropOldest 59 = .ok (.dup, 1) := by decide +kernel
theorem dX2_dropOldest_60 : decode cX2_dropOldest 60 = .ok (.getfield 21, 3) := by decide +kernel
theorem dX2_dropOldest_63 : decode cX2_dropOldest 63 = .ok (.iload_n 1, 1) := by decide +kernel
theorem dX2_dropOldest_64 : decode cX2_dropOldest 64 = .ok (.isub, 1) := by decide +kernel
theorem dX2_dropOldest_65 : decode cX2_dropOldest 65 = .ok (.putfield 21, 3) := by decide +kernel
theorem dX2_dropOldest_68 : decode cX2_dropOldest 68 = .ok (.aload_n 0, 1) := by decide +kernel
theorem dX2_dropOldest_69 : decode cX2_dropOldest 69 = .ok (.iconst 0, 1) := by decide +kernel
theorem dX2_dropOldest_70 : decode cX2_dropOldest 70 = .ok (.aload_n 0, 1) := by decide +kernel
theorem dX2_dropOldest_71 : decode cX2_dropOldest 71 = .ok (.getfield 29, 3) := by decide +kernel
theorem dX2_dropOldest_74 : decode cX2_dropOldest 74 = .ok (.iload_n 1, 1) := by decide +kernel
theorem dX2_dropOldest_75 : decode cX2_dropOldest 75 = .ok (.isub, 1) := by decide +kernel
theorem dX2_dropOldest_76 : decode cX2_dropOldest 76 = .ok (.invokestatic 32, 3) := by decide +kernel
theorem dX2_dropOldest_79 : decode cX2_dropOldest 79 = .ok (.putfield 29, 3) := by decide +kernel
theorem dX2_dropOldest_82 : decode cX2_dropOldest 82 = .ok (.return_, 1) := by decide +kernel
theorem dX2_waitNoMore_0 : decode cX2_waitNoMore 0 = .ok (.aload_n 0, 1) := by decide +kernel
theorem dX2_waitNoMore_1 : decode cX2_waitNoMore 1 = .ok (.iconst 0, 1) := by decide +kernel
theorem dX2_waitNoMore_2 : decode cX2_waitNoMore 2 = .ok (.putfield 29, 3) := by decide +kernel
theorem dX2_waitNoMore_5 : decode cX2_waitNoMore 5 = .ok (.return_, 1) := by decide +kernel
theorem dX2_isEmpty_0 : decode cX2_isEmpty 0 = .ok (.aload_n 0, 1) := by decide +kernel
theorem dX2_isEmpty_1 : decode cX2_isEmpty 1 = .ok (.getfield 21, 3) := by decide +kernel
theorem dX2_isEmpty_4 : decode cX2_isEmpty 4 = .ok (.ifCond .ne 7, 3) := by decide +kernel
theorem dX2_isEmpty_7 : decode cX2_isEmpty 7 = .ok (.iconst 1, 1) := by decide +kernel
theorem dX2_isEmpty_8 : decode cX2_isEmpty 8 = .ok (.goto 4, 3) := by decide +kernel
theorem dX2_isEmpty_11 : decode cX2_isEmpty 11 = .ok (.iconst 0, 1) := by decide +kernel
theorem dX2_isEmpty_12 : decode cX2_isEmpty 12 = .ok (.ireturn, 1) := by decide +kernel
theorem dX2_hasOthers_0 : decode cX2_hasOthers 0 = .ok (.aload_n 0, 1) := by decide +kernel
theorem dX2_hasOthers_1 : decode cX2_hasOthers 1 = .ok (.getfield 21, 3) := by decide +kernel
theorem dX2_hasOthers_4 : decode cX2_hasOthers 4 = .ok (.aload_n 0, 1) := by decide +kernel
theorem dX2_hasOthers_5 : decode cX2_hasOthers 5 = .ok (.getfield 29, 3) := by decide +kernel
theorem dX2_hasOthers_8 : decode cX2_hasOthers 8 = .ok (.if_icmp .le 7, 3) := by decide +kernel
theorem dX2_hasOthers_11 : decode cX2_hasOthers 11 = .ok (.iconst 1, 1) := by decide +kernel
theorem dX2_hasOthers_12 : decode cX2_hasOthers 12 = .ok (.goto 4, 3) := by decide +kernel
theorem dX2_hasOthers_15 : decode cX2_hasOthers 15 = .ok (.iconst 0, 1) := by decide +kernel
theorem dX2_hasOthers_16 : decode cX2_hasOthers 16 = .ok (.ireturn, 1) := by decide +kernel
set_option maxRecDepth 100000 in
theorem ggX2_putGroup_X1_add : GoodIn wsX2_putGroup wsX1_add := goodIn_r _ [14, 15, 16, 27, 28] rfl (by decide +kernel)
set_option maxRecDepth 20000 in
theorem gX2_putGroup_X1_add : GoodIn wsX2_putGroup (wsV RX2 43 RX1 yX1_add wsX1_add) := goodIn_app (goodIn_of _ (by decide +kernel)) ggX2_putGroup_X1_add
set_option maxRecDepth 100000 in
theorem ggX2_putGroup_X1_addNumber : GoodIn wsX2_putGroup wsX1_addNumber := goodIn_r _ [20, 21, 11, 12, 13, 14, 15, 16, 27, 28] rfl (by decide +kernel)
set_option maxRecDepth 20000 in
theorem gX2_putGroup_X1_addNumber : GoodIn wsX2_putGroup (wsV RX2 49 RX1 yX1_addNumber wsX1_addNumber) := goodIn_app (goodIn_of _ (by decide +kernel)) ggX2_putGroup_X1_addNumber
theorem dX2_putGroup_0 : decode cX2_putGroup 0 = .ok (.aload_n 0, 1) := by decide +kernel
theorem dX2_putGroup_1 : decode cX2_putGroup 1 = .ok (.getfield 21, 3) := by decide +kernel
theorem dX2_putGroup_4 : decode cX2_putGroup 4 = .ok (.iload_n 3, 1) := by decide +kernel
theorem dX2_putGroup_5 : decode cX2_putGroup 5 = .ok (.invokestatic 38, 3) := by decide +kernel
theorem dX2_putGroup_8 : decode cX2_putGroup 8 = .ok (.istore 4, 2) := by decide +kernel
theorem dX2_putGroup_10 : decode cX2_putGroup 10 = .ok (.iload 4, 2) := by decide +kernel
theorem dX2_putGroup_12 : decode cX2_putGroup 12 = .ok (.ifCond .gt 5, 3) := by decide +kernel
theorem dX2_putGroup_15 : decode cX2_putGroup 15 = .ok (.iconst 0, 1) := by decide +kernel
theorem dX2_putGroup_16 : decode cX2_putGroup 16 = .ok (.ireturn, 1) := by decide +kernel
theorem dX2_putGroup_17 : decode cX2_putGroup 17 = .ok (.aload_n 1, 1) := by decide +kernel
theorem dX2_putGroup_18 : decode cX2_putGroup 18 = .ok (.bipush 32, 2) := by decide +kernel
theorem dX2_putGroup_20 : decode cX2_putGroup 20 = .ok (.invokevirtual 43, 3) := by decide +kernel
theorem dX2_putGroup_23 : decode cX2_putGroup 23 = .ok (.pop, 1) := by decide +kernel
theorem dX2_putGroup_24 : decode cX2_putGroup 24 = .ok (.aload_n 1, 1) := by decide +kernel
theorem dX2_putGroup_25 : decode cX2_putGroup 25 = .ok (.iload_n 2, 1) := by decide +kernel
theorem dX2_putGroup_26 : decode cX2_putGroup 26 = .ok (.invokevirtual 43, 3) := by decide +kernel
theorem dX2_putGroup_29 : decode cX2_putGroup 29 = .ok (.pop, 1) := by decide +kernel
theorem dX2_putGroup_30 : decode cX2_putGroup 30 = .ok (.aload_n 1, 1) := by decide +kernel
theorem dX2_putGroup_31 : decode cX2_putGroup 31 = .ok (.iload 4, 2) := by decide +kernel
theorem dX2_putGroup_33 : decode cX2_putGroup 33 = .ok (.invokevirtual 43, 3) := by decide +kernel
theorem dX2_putGroup_36 : decode cX2_putGroup 36 = .ok (.pop, 1) := by decide +kernel
theorem dX2_putGroup_37 : decode cX2_putGroup 37 = .ok (.iconst 0, 1) := by decide +kernel
theorem dX2_putGroup_38 : decode cX2_putGroup 38 = .ok (.istore 5, 2) := by decide +kernel
theorem dX2_putGroup_40 : decode cX2_putGroup 40 = .ok (.iload 5, 2) := by decide +kernel
theorem dX2_putGroup_42 : decode cX2_putGroup 42 = .ok (.iload 4, 2) := by decide +kernel
theorem dX2_putGroup_44 : decode cX2_putGroup 44 = .ok (.if_icmp .ge 45, 3) := by decide +kernel
theorem dX2_putGroup_47 : decode cX2_putGroup 47 = .ok (.aload_n 1, 1) := by decide +kernel
theorem dX2_putGroup_48 : decode cX2_putGroup 48 = .ok (.aload_n 0, 1) := by decide +kernel
theorem dX2_putGroup_49 : decode cX2_putGroup 49 = .ok (.getfield 11, 3) := by decide +kernel
theorem dX2_putGroup_52 : decode cX2_putGroup 52 = .ok (.iload 5, 2) := by decide +kernel
theorem dX2_putGroup_54 : decode cX2_putGroup 54 = .ok (.iaload, 1) := by decide +kernel
theorem dX2_putGroup_55 : decode cX2_putGroup 55 = .ok (.invokevirtual 43, 3) := by decide +kernel
theorem dX2_putGroup_58 : decode cX2_putGroup 58 = .ok (.pop, 1) := by decide +kernel
theorem dX2_putGroup_59 : decode cX2_putGroup 59 = .ok (.aload_n 1, 1) := by decide +kernel
theorem dX2_putGroup_60 : decode cX2_putGroup 60 = .ok (.aload_n 0, 1) := by decide +kernel
theorem dX2_putGroup_61 : decode cX2_putGroup 61 = .ok (.getfield 15, 3) := by decide +kernel
theorem dX2_putGroup_64 : decode cX2_putGroup 64 = .ok (.iload 5, 2) := by decide +kernel
theorem dX2_putGroup_66 : decode cX2_putGroup 66 = .ok (.iaload, 1) := by decide +kernel
theorem dX2_putGroup_67 : decode cX2_putGroup 67 = .ok (.iconst 2, 1) := by decide +kernel
theorem dX2_putGroup_68 : decode cX2_putGroup 68 = .ok (.invokevirtual 49, 3) := by decide +kernel
theorem dX2_putGroup_71 : decode cX2_putGroup 71 = .ok (.aload_n 1, 1) := by decide +kernel
theorem dX2_putGroup_72 : decode cX2_putGroup 72 = .ok (.aload_n 0, 1) := by decide +kernel
theorem dX2_putGroup_73 : decode cX2_putGroup 73 = .ok (.getfield 18, 3) := by decide +kernel
theorem dX2_putGroup_76 : decode cX2_putGroup 76 = .ok (.iload 5, 2) := by decide +kernel
theorem dX2_putGroup_78 : decode cX2_putGroup 78 = .ok (.iaload, 1) := by decide +kernel
theorem dX2_putGroup_79 : decode cX2_putGroup 79 = .ok (.iconst 4, 1) := by decide +kernel
theorem dX2_putGroup_80 : decode cX2_putGroup 80 = .ok (.invokevirtual 49, 3) := by decide +kernel
theorem dX2_putGroup_83 : decode cX2_putGroup 83 = .ok (.iinc 5 1, 3) := by decide +kernel
theorem dX2_putGroup_86 : decode cX2_putGroup 86 = .ok (.goto (-46), 3) := by decide +kernel
theorem dX2_putGroup_89 : decode cX2_putGroup 89 = .ok (.aload_n 0, 1) := by decide +kernel
theorem dX2_putGroup_90 : decode cX2_putGroup 90 = .ok (.iload 4, 2) := by decide +kernel
theorem dX2_putGroup_92 : decode cX2_putGroup 92 = .ok (.putfield 29, 3) := by decide +kernel
theorem dX2_putGroup_95 : decode cX2_putGroup 95 = .ok (.iload 4, 2) := by decide +kernel
theorem dX2_putGroup_97 : decode cX2_putGroup 97 = .ok (.ireturn, 1) := by decide +kernel
theorem dX2_get_0 : decode cX2_get 0 = .ok (.iload_n 1, 1) := by decide +kernel
theorem dX2_get_1 : decode cX2_get 1 = .ok (.ifCond .lt 11, 3) := by decide +kernel
theorem dX2_get_4 : decode cX2_get 4 = .ok (.iload_n 1, 1) := by decide +kernel
theorem dX2_get_5 : decode cX2_get 5 = .ok (.aload_n 0, 1) := by decide +kernel
theorem dX2_get_6 : decode cX2_get 6 = .ok (.getfield 21, 3) := by decide +kernel
theorem dX2_get_9 : decode cX2_get 9 = .ok (.if_icmp .lt 5, 3) := by decide +kernel
theorem dX2_get_12 : decode cX2_get 12 = .ok (.iconst (-1), 1) := by decide +kernel
theorem dX2_get_13 : decode cX2_get 13 = .ok (.ireturn, 1) := by decide +kernel
theorem dX2_get_14 : decode cX2_get 14 = .ok (.iload_n 2, 1) := by decide +kernel
theorem dX2_get_15 : decode cX2_get 15 = .ok (.tableswitch 64 0 3 #[29, 36, 43, 50], 29) := by decide +kernel
theorem dX2_get_44 : decode cX2_get 44 = .ok (.aload_n 0, 1) := by decide +kernel
theorem dX2_get_45 : decode cX2_get 45 = .ok (.getfield 11, 3) := by decide +kernel
theorem dX2_get_48 : decode cX2_get 48 = .ok (.iload_n 1, 1) := by decide +kernel
theorem dX2_get_49 : decode cX2_get 49 = .ok (.iaload, 1) := by decide +kernel
theorem dX2_get_50 : decode cX2_get 50 = .ok (.ireturn, 1) := by decide +kernel
theorem dX2_get_51 : decode cX2_get 51 = .ok (.aload_n 0, 1) := by decide +kernel
theorem dX2_get_52 : decode cX2_get 52 = .ok (.getfield 15, 3) := by decide +kernel
theorem dX2_get_55 : decode cX2_get 55 = .ok (.iload_n 1, 1) := by decide +kernel
theorem dX2_get_56 : decode cX2_get 56 = .ok (.iaload, 1) := by decide +kernel
theorem dX2_get_57 : decode cX2_get 57 = .ok (.ireturn, 1) := by decide +kernel
theorem dX2_get_58 : decode cX2_get 58 = .ok (.aload_n 0, 1) := by decide +kernel
theorem dX2_get_59 : decode cX2_get 59 = .ok (.getfield 18, 3) := by decide +kernel
theorem dX2_get_62 : decode cX2_get 62 = .ok (.iload_n 1, 1) := by decide +kernel
theorem dX2_get_63 : decode cX2_get 63 = .ok (.iaload, 1) := by decide +kernel
theorem dX2_get_64 : decode cX2_get 64 = .ok (.ireturn, 1) := by decide +kernel
theorem dX2_get_65 : decode cX2_get 65 = .ok (.iload_n 1, 1) := by decide +kernel
theorem dX2_get_66 : decode cX2_get 66 = .ok (.aload_n 0, 1) := by decide +kernel
theorem dX2_get_67 : decode cX2_get 67 = .ok (.getfield 29, 3) := by decide +kernel
theorem dX2_get_70 : decode cX2_get 70 = .ok (.if_icmp .ge 7, 3) := by decide +kernel
theorem dX2_get_73 : decode cX2_get 73 = .ok (.iconst 1, 1) := by decide +kernel
theorem dX2_get_74 : decode cX2_get 74 = .ok (.goto 4, 3) := by decide +kernel
theorem dX2_get_77 : decode cX2_get 77 = .ok (.iconst 0, 1) := by decide +kernel
theorem dX2_get_78 : decode cX2_get 78 = .ok (.ireturn, 1) := by decide +kernel
theorem dX2_get_79 : decode cX2_get 79 = .ok (.iconst (-1), 1) := by decide +kernel
theorem dX2_get_80 : decode cX2_get 80 = .ok (.ireturn, 1) := by decide +kernel
set_option maxRecDepth 100000 in
theorem ggX3_init_X1_init : GoodIn wsX3_init wsX1_init := goodIn_r _ [11, 12, 2, 3, 13, 14, 15, 16] rfl (by decide +kernel)
set_option maxRecDepth 20000 in
theorem gX3_init_X1_init : GoodIn wsX3_init (wsX1_init) := ggX3_init_X1_init
theorem dX3_init_0 : decode cX3_init 0 = .ok (.aload_n 0, 1) := by decide +kernel
theorem dX3_init_1 : decode cX3_init 1 = .ok (.invokespecial 5, 3) := by decide +kernel
theorem dX3_init_4 : decode cX3_init 4 = .ok (.aload_n 0, 1) := by decide +kernel
theorem dX3_init_5 : decode cX3_init 5 = .ok (.new 11, 3) := by decide +kernel
theorem dX3_init_8 : decode cX3_init 8 = .ok (.dup, 1) := by decide +kernel
theorem dX3_init_9 : decode cX3_init 9 = .ok (.bipush 35, 2) := by decide +kernel
theorem dX3_init_11 : decode cX3_init 11 = .ok (.invokespecial 13, 3) := by decide +kernel
theorem dX3_init_14 : decode cX3_init 14 = .ok (.putfield 16, 3) := by decide +kernel
theorem dX3_init_17 : decode cX3_init 17 = .ok (.aload_n 0, 1) := by decide +kernel
theorem dX3_init_18 : decode cX3_init 18 = .ok (.iconst 2, 1) := by decide +kernel
theorem dX3_init_19 : decode cX3_init 19 = .ok (.putfield 20, 3) := by decide +kernel
theorem dX3_init_22 : decode cX3_init 22 = .ok (.return_, 1) := by decide +kernel
set_option maxRecDepth 100000 in
theorem ggX3_get_X1_get : GoodIn wsX3_get wsX1_get := goodIn_r _ [6, 7, 8, 11, 12] rfl (by decide +kernel)
set_option maxRecDepth 20000 in
theorem gX3_get_X1_get : GoodIn wsX3_get (wsV RX3 24 RX1 yX1_get wsX1_get) := goodIn_app (goodIn_of _ (by decide +kernel)) ggX3_get_X1_get
theorem dX3_get_0 : decode cX3_get 0 = .ok (.aload_n 0, 1) := by decide +kernel
theorem dX3_get_1 : decode cX3_get 1 = .ok (.getfield 16, 3) := by decide +kernel
theorem dX3_get_4 : decode cX3_get 4 = .ok (.iload_n 1, 1) := by decide +kernel
theorem dX3_get_5 : decode cX3_get 5 = .ok (.invokevirtual 24, 3) := by decide +kernel
theorem dX3_get_8 : decode cX3_get 8 = .ok (.ireturn, 1) := by decide +kernel
set_option maxRecDepth 100000 in
theorem ggX3_spoil_X1_size : GoodIn wsX3_spoil wsX1_size := goodIn_r _ [6, 7, 19, 20] rfl (by decide +kernel)
set_option maxRecDepth 20000 in
theorem gX3_spoil_X1_size : GoodIn wsX3_spoil (wsV RX3 28 RX1 yX1_size wsX1_size) := goodIn_app (goodIn_of _ (by decide +kernel)) ggX3_spoil_X1_size
set_option maxRecDepth 100000 in
theorem ggX3_spoil_X1_get : GoodIn wsX3_spoil wsX1_get := goodIn_r _ [11, 7, 12, 19, 20] rfl (by decide +kernel)
set_option maxRecDepth 20000 in
theorem gX3_spoil_X1_get : GoodIn wsX3_spoil (wsV RX3 24 RX1 yX1_get wsX1_get) := goodIn_app (goodIn_of _ (by decide +kernel)) ggX3_spoil_X1_get
set_option maxRecDepth 100000 in
theorem ggX3_spoil_X1_set : GoodIn wsX3_spoil wsX1_set := goodIn_r _ [16, 7, 12, 19, 20] rfl (by decide +kernel)
set_option maxRecDepth 20000 in
theorem gX3_spoil_X1_set : GoodIn wsX3_spoil (wsV RX3 32 RX1 yX1_set wsX1_set) := goodIn_app (goodIn_of _ (by decide +kernel)) ggX3_spoil_X1_set
theorem dX3_spoil_0 : decode cX3_spoil 0 = .ok (.iload_n 1, 1) := by decide +kernel
theorem dX3_spoil_1 : decode cX3_spoil 1 = .ok (.ifCond .lt 14, 3) := by decide +kernel
theorem dX3_spoil_4 : decode cX3_spoil 4 = .ok (.iload_n 1, 1) := by decide +kernel
theorem dX3_spoil_5 : decode cX3_spoil 5 = .ok (.aload_n 0, 1) := by decide +kernel
theorem dX3_spoil_6 : decode cX3_spoil 6 = .ok (.getfield 16, 3) := by decide +kernel
theorem dX3_spoil_9 : decode cX3_spoil 9 = .ok (.invokevirtual 28, 3) := by decide +kernel
theorem dX3_spoil_12 : decode cX3_spoil 12 = .ok (.if_icmp .lt 5, 3) := by decide +kernel
theorem dX3_spoil_15 : decode cX3_spoil 15 = .ok (.iconst 0, 1) := by decide +kernel
theorem dX3_spoil_16 : decode cX3_spoil 16 = .ok (.ireturn, 1) := by decide +kernel
theorem dX3_spoil_17 : decode cX3_spoil 17 = .ok (.aload_n 0, 1) := by decide +kernel
