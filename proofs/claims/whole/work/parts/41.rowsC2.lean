theorem dX3_spoil_18 : decode cX3_spoil 18 = .ok (.getfield 16, 3) := by decide +kernel
theorem dX3_spoil_21 : decode cX3_spoil 21 = .ok (.iload_n 1, 1) := by decide +kernel
theorem dX3_spoil_22 : decode cX3_spoil 22 = .ok (.aload_n 0, 1) := by decide +kernel
theorem dX3_spoil_23 : decode cX3_spoil 23 = .ok (.getfield 16, 3) := by decide +kernel
theorem dX3_spoil_26 : decode cX3_spoil 26 = .ok (.iload_n 1, 1) := by decide +kernel
theorem dX3_spoil_27 : decode cX3_spoil 27 = .ok (.invokevirtual 24, 3) := by decide +kernel
theorem dX3_spoil_30 : decode cX3_spoil 30 = .ok (.iload_n 2, 1) := by decide +kernel
theorem dX3_spoil_31 : decode cX3_spoil 31 = .ok (.ixor, 1) := by decide +kernel
theorem dX3_spoil_32 : decode cX3_spoil 32 = .ok (.invokevirtual 32, 3) := by decide +kernel
theorem dX3_spoil_35 : decode cX3_spoil 35 = .ok (.iconst 1, 1) := by decide +kernel
theorem dX3_spoil_36 : decode cX3_spoil 36 = .ok (.ireturn, 1) := by decide +kernel
set_option maxRecDepth 100000 in
theorem ggX3_pack_X1_clear : GoodIn wsX3_pack wsX1_clear := goodIn_r _ [7, 8, 45, 46] rfl (by decide +kernel)
set_option maxRecDepth 20000 in
theorem gX3_pack_X1_clear : GoodIn wsX3_pack (wsV RX3 36 RX1 yX1_clear wsX1_clear) := goodIn_app (goodIn_of _ (by decide +kernel)) ggX3_pack_X1_clear
set_option maxRecDepth 100000 in
theorem ggX3_pack_X1_add : GoodIn wsX3_pack wsX1_add := goodIn_r _ [12, 8, 13, 45, 46] rfl (by decide +kernel)
set_option maxRecDepth 20000 in
theorem gX3_pack_X1_add : GoodIn wsX3_pack (wsV RX3 39 RX1 yX1_add wsX1_add) := goodIn_app (goodIn_of _ (by decide +kernel)) ggX3_pack_X1_add
set_option maxRecDepth 100000 in
theorem ggX3_pack_X3_control : GoodIn wsX3_pack wsX3_control := goodIn_r _ [18, 1, 43, 44] rfl (by decide +kernel)
set_option maxRecDepth 20000 in
theorem gX3_pack_X3_control : GoodIn wsX3_pack (wsV RX3 43 RX3 yX3_control wsX3_control) := goodIn_app (goodIn_of _ (by decide +kernel)) ggX3_pack_X3_control
set_option maxRecDepth 100000 in
theorem ggX3_pack_X1_addNumber : GoodIn wsX3_pack wsX1_addNumber := goodIn_r _ [22, 23, 10, 11, 6, 12, 8, 13, 45, 46] rfl (by decide +kernel)
set_option maxRecDepth 20000 in
theorem gX3_pack_X1_addNumber : GoodIn wsX3_pack (wsV RX3 46 RX1 yX1_addNumber wsX1_addNumber) := goodIn_app (goodIn_of _ (by decide +kernel)) ggX3_pack_X1_addNumber
set_option maxRecDepth 100000 in
theorem ggX3_pack_X3_comesFrom : GoodIn wsX3_pack wsX3_comesFrom := goodIn_r _ [27, 1, 43, 44] rfl (by decide +kernel)
set_option maxRecDepth 20000 in
theorem gX3_pack_X3_comesFrom : GoodIn wsX3_pack (wsV RX3 49 RX3 yX3_comesFrom wsX3_comesFrom) := goodIn_app (goodIn_of _ (by decide +kernel)) ggX3_pack_X3_comesFrom
set_option maxRecDepth 100000 in
theorem ggX3_pack_X1_check : GoodIn wsX3_pack wsX1_check := goodIn_r _ [31, 32, 33, 34, 35, 36, 6, 37, 8, 13, 45, 46] rfl (by decide +kernel)
set_option maxRecDepth 20000 in
theorem gX3_pack_X1_check : GoodIn wsX3_pack (wsV RX3 52 RX1 yX1_check wsX1_check) := goodIn_app (goodIn_of _ (by decide +kernel)) ggX3_pack_X1_check
set_option maxRecDepth 100000 in
theorem ggX3_pack_X1_size : GoodIn wsX3_pack wsX1_size := goodIn_r _ [41, 8, 45, 46] rfl (by decide +kernel)
set_option maxRecDepth 20000 in
theorem gX3_pack_X1_size : GoodIn wsX3_pack (wsV RX3 28 RX1 yX1_size wsX1_size) := goodIn_app (goodIn_of _ (by decide +kernel)) ggX3_pack_X1_size
set_option maxRecDepth 100000 in
theorem ggX3_pack_X1_get : GoodIn wsX3_pack wsX1_get := goodIn_r _ [37, 8, 13, 45, 46] rfl (by decide +kernel)
set_option maxRecDepth 20000 in
theorem gX3_pack_X1_get : GoodIn wsX3_pack (wsV RX3 24 RX1 yX1_get wsX1_get) := goodIn_app (goodIn_of _ (by decide +kernel)) ggX3_pack_X1_get
theorem dX3_pack_0 : decode cX3_pack 0 = .ok (.aload_n 0, 1) := by decide +kernel
theorem dX3_pack_1 : decode cX3_pack 1 = .ok (.iload_n 1, 1) := by decide +kernel
theorem dX3_pack_2 : decode cX3_pack 2 = .ok (.putfield 20, 3) := by decide +kernel
theorem dX3_pack_5 : decode cX3_pack 5 = .ok (.aload_n 0, 1) := by decide +kernel
theorem dX3_pack_6 : decode cX3_pack 6 = .ok (.getfield 16, 3) := by decide +kernel
theorem dX3_pack_9 : decode cX3_pack 9 = .ok (.invokevirtual 36, 3) := by decide +kernel
theorem dX3_pack_12 : decode cX3_pack 12 = .ok (.aload_n 0, 1) := by decide +kernel
theorem dX3_pack_13 : decode cX3_pack 13 = .ok (.getfield 16, 3) := by decide +kernel
theorem dX3_pack_16 : decode cX3_pack 16 = .ok (.iconst 5, 1) := by decide +kernel
theorem dX3_pack_17 : decode cX3_pack 17 = .ok (.invokevirtual 39, 3) := by decide +kernel
theorem dX3_pack_20 : decode cX3_pack 20 = .ok (.pop, 1) := by decide +kernel
theorem dX3_pack_21 : decode cX3_pack 21 = .ok (.aload_n 0, 1) := by decide +kernel
theorem dX3_pack_22 : decode cX3_pack 22 = .ok (.getfield 16, 3) := by decide +kernel
theorem dX3_pack_25 : decode cX3_pack 25 = .ok (.bipush 100, 2) := by decide +kernel
theorem dX3_pack_27 : decode cX3_pack 27 = .ok (.invokevirtual 39, 3) := by decide +kernel
theorem dX3_pack_30 : decode cX3_pack 30 = .ok (.pop, 1) := by decide +kernel
theorem dX3_pack_31 : decode cX3_pack 31 = .ok (.aload_n 0, 1) := by decide +kernel
theorem dX3_pack_32 : decode cX3_pack 32 = .ok (.getfield 16, 3) := by decide +kernel
theorem dX3_pack_35 : decode cX3_pack 35 = .ok (.bipush 6, 2) := by decide +kernel
theorem dX3_pack_37 : decode cX3_pack 37 = .ok (.iload 5, 2) := by decide +kernel
theorem dX3_pack_39 : decode cX3_pack 39 = .ok (.iadd, 1) := by decide +kernel
theorem dX3_pack_40 : decode cX3_pack 40 = .ok (.invokevirtual 39, 3) := by decide +kernel
theorem dX3_pack_43 : decode cX3_pack 43 = .ok (.pop, 1) := by decide +kernel
theorem dX3_pack_44 : decode cX3_pack 44 = .ok (.aload_n 0, 1) := by decide +kernel
theorem dX3_pack_45 : decode cX3_pack 45 = .ok (.getfield 16, 3) := by decide +kernel
theorem dX3_pack_48 : decode cX3_pack 48 = .ok (.aload_n 0, 1) := by decide +kernel
theorem dX3_pack_49 : decode cX3_pack 49 = .ok (.invokevirtual 43, 3) := by decide +kernel
theorem dX3_pack_52 : decode cX3_pack 52 = .ok (.invokevirtual 39, 3) := by decide +kernel
theorem dX3_pack_55 : decode cX3_pack 55 = .ok (.pop, 1) := by decide +kernel
theorem dX3_pack_56 : decode cX3_pack 56 = .ok (.aload_n 0, 1) := by decide +kernel
theorem dX3_pack_57 : decode cX3_pack 57 = .ok (.getfield 16, 3) := by decide +kernel
theorem dX3_pack_60 : decode cX3_pack 60 = .ok (.aload_n 0, 1) := by decide +kernel
theorem dX3_pack_61 : decode cX3_pack 61 = .ok (.getfield 20, 3) := by decide +kernel
theorem dX3_pack_64 : decode cX3_pack 64 = .ok (.iconst 2, 1) := by decide +kernel
theorem dX3_pack_65 : decode cX3_pack 65 = .ok (.invokevirtual 46, 3) := by decide +kernel
theorem dX3_pack_68 : decode cX3_pack 68 = .ok (.aload_n 0, 1) := by decide +kernel
theorem dX3_pack_69 : decode cX3_pack 69 = .ok (.getfield 16, 3) := by decide +kernel
theorem dX3_pack_72 : decode cX3_pack 72 = .ok (.aload_n 0, 1) := by decide +kernel
theorem dX3_pack_73 : decode cX3_pack 73 = .ok (.invokevirtual 49, 3) := by decide +kernel
theorem dX3_pack_76 : decode cX3_pack 76 = .ok (.iconst 2, 1) := by decide +kernel
theorem dX3_pack_77 : decode cX3_pack 77 = .ok (.invokevirtual 46, 3) := by decide +kernel
theorem dX3_pack_80 : decode cX3_pack 80 = .ok (.aload_n 0, 1) := by decide +kernel
theorem dX3_pack_81 : decode cX3_pack 81 = .ok (.getfield 16, 3) := by decide +kernel
theorem dX3_pack_84 : decode cX3_pack 84 = .ok (.aload_n 0, 1) := by decide +kernel
theorem dX3_pack_85 : decode cX3_pack 85 = .ok (.getfield 16, 3) := by decide +kernel
theorem dX3_pack_88 : decode cX3_pack 88 = .ok (.iconst 0, 1) := by decide +kernel
theorem dX3_pack_89 : decode cX3_pack 89 = .ok (.bipush 8, 2) := by decide +kernel
theorem dX3_pack_91 : decode cX3_pack 91 = .ok (.invokevirtual 52, 3) := by decide +kernel
theorem dX3_pack_94 : decode cX3_pack 94 = .ok (.iconst 2, 1) := by decide +kernel
theorem dX3_pack_95 : decode cX3_pack 95 = .ok (.invokevirtual 46, 3) := by decide +kernel
theorem dX3_pack_98 : decode cX3_pack 98 = .ok (.aload_n 0, 1) := by decide +kernel
theorem dX3_pack_99 : decode cX3_pack 99 = .ok (.getfield 16, 3) := by decide +kernel
theorem dX3_pack_102 : decode cX3_pack 102 = .ok (.invokevirtual 28, 3) := by decide +kernel
theorem dX3_pack_105 : decode cX3_pack 105 = .ok (.istore 6, 2) := by decide +kernel
theorem dX3_pack_107 : decode cX3_pack 107 = .ok (.aload_n 0, 1) := by decide +kernel
theorem dX3_pack_108 : decode cX3_pack 108 = .ok (.getfield 16, 3) := by decide +kernel
theorem dX3_pack_111 : decode cX3_pack 111 = .ok (.iload_n 2, 1) := by decide +kernel
theorem dX3_pack_112 : decode cX3_pack 112 = .ok (.invokevirtual 39, 3) := by decide +kernel
theorem dX3_pack_115 : decode cX3_pack 115 = .ok (.pop, 1) := by decide +kernel
theorem dX3_pack_116 : decode cX3_pack 116 = .ok (.iconst 0, 1) := by decide +kernel
theorem dX3_pack_117 : decode cX3_pack 117 = .ok (.istore 7, 2) := by decide +kernel
theorem dX3_pack_119 : decode cX3_pack 119 = .ok (.iload 7, 2) := by decide +kernel
theorem dX3_pack_121 : decode cX3_pack 121 = .ok (.iload 5, 2) := by decide +kernel
theorem dX3_pack_123 : decode cX3_pack 123 = .ok (.if_icmp .ge 69, 3) := by decide +kernel
theorem dX3_pack_126 : decode cX3_pack 126 = .ok (.aload_n 0, 1) := by decide +kernel
theorem dX3_pack_127 : decode cX3_pack 127 = .ok (.getfield 16, 3) := by decide +kernel
theorem dX3_pack_130 : decode cX3_pack 130 = .ok (.invokevirtual 28, 3) := by decide +kernel
theorem dX3_pack_133 : decode cX3_pack 133 = .ok (.iload 6, 2) := by decide +kernel
theorem dX3_pack_135 : decode cX3_pack 135 = .ok (.isub, 1) := by decide +kernel
theorem dX3_pack_136 : decode cX3_pack 136 = .ok (.bipush 16, 2) := by decide +kernel
theorem dX3_pack_138 : decode cX3_pack 138 = .ok (.if_icmp .ne 31, 3) := by decide +kernel
theorem dX3_pack_141 : decode cX3_pack 141 = .ok (.aload_n 0, 1) := by decide +kernel
theorem dX3_pack_142 : decode cX3_pack 142 = .ok (.getfield 16, 3) := by decide +kernel
theorem dX3_pack_145 : decode cX3_pack 145 = .ok (.aload_n 0, 1) := by decide +kernel
theorem dX3_pack_146 : decode cX3_pack 146 = .ok (.getfield 16, 3) := by decide +kernel
theorem dX3_pack_149 : decode cX3_pack 149 = .ok (.iload 6, 2) := by decide +kernel
theorem dX3_pack_151 : decode cX3_pack 151 = .ok (.bipush 16, 2) := by decide +kernel
theorem dX3_pack_153 : decode cX3_pack 153 = .ok (.invokevirtual 52, 3) := by decide +kernel
theorem dX3_pack_156 : decode cX3_pack 156 = .ok (.iconst 2, 1) := by decide +kernel
theorem dX3_pack_157 : decode cX3_pack 157 = .ok (.invokevirtual 46, 3) := by decide +kernel
theorem dX3_pack_160 : decode cX3_pack 160 = .ok (.aload_n 0, 1) := by decide +kernel
theorem dX3_pack_161 : decode cX3_pack 161 = .ok (.getfield 16, 3) := by decide +kernel
theorem dX3_pack_164 : decode cX3_pack 164 = .ok (.invokevirtual 28, 3) := by decide +kernel
theorem dX3_pack_167 : decode cX3_pack 167 = .ok (.istore 6, 2) := by decide +kernel
theorem dX3_pack_169 : decode cX3_pack 169 = .ok (.aload_n 0, 1) := by decide +kernel
theorem dX3_pack_170 : decode cX3_pack 170 = .ok (.getfield 16, 3) := by decide +kernel
theorem dX3_pack_173 : decode cX3_pack 173 = .ok (.aload_n 3, 1) := by decide +kernel
theorem dX3_pack_174 : decode cX3_pack 174 = .ok (.iload 4, 2) := by decide +kernel
theorem dX3_pack_176 : decode cX3_pack 176 = .ok (.iload 7, 2) := by decide +kernel
theorem dX3_pack_178 : decode cX3_pack 178 = .ok (.iadd, 1) := by decide +kernel
theorem dX3_pack_179 : decode cX3_pack 179 = .ok (.invokevirtual 24, 3) := by decide +kernel
theorem dX3_pack_182 : decode cX3_pack 182 = .ok (.invokevirtual 39, 3) := by decide +kernel
theorem dX3_pack_185 : decode cX3_pack 185 = .ok (.pop, 1) := by decide +kernel
theorem dX3_pack_186 : decode cX3_pack 186 = .ok (.iinc 7 1, 3) := by decide +kernel
theorem dX3_pack_189 : decode cX3_pack 189 = .ok (.goto (-70), 3) := by decide +kernel
theorem dX3_pack_192 : decode cX3_pack 192 = .ok (.aload_n 0, 1) := by decide +kernel
theorem dX3_pack_193 : decode cX3_pack 193 = .ok (.getfield 16, 3) := by decide +kernel
theorem dX3_pack_196 : decode cX3_pack 196 = .ok (.aload_n 0, 1) := by decide +kernel
theorem dX3_pack_197 : decode cX3_pack 197 = .ok (.getfield 16, 3) := by decide +kernel
theorem dX3_pack_200 : decode cX3_pack 200 = .ok (.iload 6, 2) := by decide +kernel
theorem dX3_pack_202 : decode cX3_pack 202 = .ok (.aload_n 0, 1) := by decide +kernel
theorem dX3_pack_203 : decode cX3_pack 203 = .ok (.getfield 16, 3) := by decide +kernel
theorem dX3_pack_206 : decode cX3_pack 206 = .ok (.invokevirtual 28, 3) := by decide +kernel
theorem dX3_pack_209 : decode cX3_pack 209 = .ok (.iload 6, 2) := by decide +kernel
theorem dX3_pack_211 : decode cX3_pack 211 = .ok (.isub, 1) := by decide +kernel
theorem dX3_pack_212 : decode cX3_pack 212 = .ok (.invokevirtual 52, 3) := by decide +kernel
theorem dX3_pack_215 : decode cX3_pack 215 = .ok (.iconst 2, 1) := by decide +kernel
theorem dX3_pack_216 : decode cX3_pack 216 = .ok (.invokevirtual 46, 3) := by decide +kernel
theorem dX3_pack_219 : decode cX3_pack 219 = .ok (.return_, 1) := by decide +kernel
set_option maxRecDepth 100000 in
theorem ggX3_carries_X1_get : GoodIn wsX3_carries wsX1_get := goodIn_r _ [6, 7, 8, 11, 12] rfl (by decide +kernel)
set_option maxRecDepth 20000 in
theorem gX3_carries_X1_get : GoodIn wsX3_carries (wsV RX3 24 RX1 yX1_get wsX1_get) := goodIn_app (goodIn_of _ (by decide +kernel)) ggX3_carries_X1_get
theorem dX3_carries_0 : decode cX3_carries 0 = .ok (.aload_n 0, 1) := by decide +kernel
theorem dX3_carries_1 : decode cX3_carries 1 = .ok (.getfield 16, 3) := by decide +kernel
theorem dX3_carries_4 : decode cX3_carries 4 = .ok (.iconst 2, 1) := by decide +kernel
theorem dX3_carries_5 : decode cX3_carries 5 = .ok (.invokevirtual 24, 3) := by decide +kernel
theorem dX3_carries_8 : decode cX3_carries 8 = .ok (.iconst 5, 1) := by decide +kernel
theorem dX3_carries_9 : decode cX3_carries 9 = .ok (.isub, 1) := by decide +kernel
theorem dX3_carries_10 : decode cX3_carries 10 = .ok (.ireturn, 1) := by decide +kernel
set_option maxRecDepth 100000 in
theorem ggX3_carried_X1_get : GoodIn wsX3_carried wsX1_get := goodIn_r _ [6, 7, 8, 11, 12] rfl (by decide +kernel)
set_option maxRecDepth 20000 in
theorem gX3_carried_X1_get : GoodIn wsX3_carried (wsV RX3 24 RX1 yX1_get wsX1_get) := goodIn_app (goodIn_of _ (by decide +kernel)) ggX3_carried_X1_get
theorem dX3_carried_0 : decode cX3_carried 0 = .ok (.aload_n 0, 1) := by decide +kernel
theorem dX3_carried_1 : decode cX3_carried 1 = .ok (.getfield 16, 3) := by decide +kernel
theorem dX3_carried_4 : decode cX3_carried 4 = .ok (.bipush 10, 2) := by decide +kernel
theorem dX3_carried_6 : decode cX3_carried 6 = .ok (.iload_n 1, 1) := by decide +kernel
theorem dX3_carried_7 : decode cX3_carried 7 = .ok (.iadd, 1) := by decide +kernel
theorem dX3_carried_8 : decode cX3_carried 8 = .ok (.iload_n 1, 1) := by decide +kernel
theorem dX3_carried_9 : decode cX3_carried 9 = .ok (.bipush 16, 2) := by decide +kernel
theorem dX3_carried_11 : decode cX3_carried 11 = .ok (.idiv, 1) := by decide +kernel
theorem dX3_carried_12 : decode cX3_carried 12 = .ok (.iconst 2, 1) := by decide +kernel
theorem dX3_carried_13 : decode cX3_carried 13 = .ok (.imul, 1) := by decide +kernel
theorem dX3_carried_14 : decode cX3_carried 14 = .ok (.iadd, 1) := by decide +kernel
theorem dX3_carried_15 : decode cX3_carried 15 = .ok (.invokevirtual 24, 3) := by decide +kernel
theorem dX3_carried_18 : decode cX3_carried 18 = .ok (.ireturn, 1) := by decide +kernel
set_option maxRecDepth 100000 in
theorem ggX3_isSound_X3_carries : GoodIn wsX3_isSound wsX3_carries := goodIn_r _ [6, 1, 7, 8, 9, 10, 11, 12, 13, 50, 51, 52, 53] rfl (by decide +kernel)
set_option maxRecDepth 20000 in
theorem gX3_isSound_X3_carries : GoodIn wsX3_isSound (wsV RX3 56 RX3 yX3_carries wsX3_carries) := goodIn_app (goodIn_of _ (by decide +kernel)) ggX3_isSound_X3_carries
set_option maxRecDepth 100000 in
theorem ggX3_isSound_X1_size : GoodIn wsX3_isSound wsX1_size := goodIn_r _ [17, 12, 52, 53] rfl (by decide +kernel)
set_option maxRecDepth 20000 in
theorem gX3_isSound_X1_size : GoodIn wsX3_isSound (wsV RX3 28 RX1 yX1_size wsX1_size) := goodIn_app (goodIn_of _ (by decide +kernel)) ggX3_isSound_X1_size
set_option maxRecDepth 100000 in
theorem ggX3_isSound_X3_headIsSound : GoodIn wsX3_isSound wsX3_headIsSound := goodIn_r _ [21, 1, 22, 7, 8, 9, 10, 11, 12, 13, 23, 24, 25, 5, 26, 27, 28, 29, 30, 31, 32, 33, 34, 35, 36, 37, 38, 39, 40, 41, 50, 51, 52, 53] rfl (by decide +kernel)
set_option maxRecDepth 20000 in
theorem gX3_isSound_X3_headIsSound : GoodIn wsX3_isSound (wsV RX3 59 RX3 yX3_headIsSound wsX3_headIsSound) := goodIn_app (goodIn_of _ (by decide +kernel)) ggX3_isSound_X3_headIsSound
set_option maxRecDepth 100000 in
theorem ggX3_isSound_X3_bodyIsSound : GoodIn wsX3_isSound wsX3_bodyIsSound := goodIn_r _ [45, 1, 46, 47, 48, 49, 14, 15, 16, 10, 17, 12, 27, 28, 29, 30, 31, 8, 9, 11, 13, 36, 37, 38, 39, 40, 41, 50, 51, 52, 53] rfl (by decide +kernel)
set_option maxRecDepth 20000 in
theorem gX3_isSound_X3_bodyIsSound : GoodIn wsX3_isSound (wsV RX3 63 RX3 yX3_bodyIsSound wsX3_bodyIsSound) := goodIn_app (goodIn_of _ (by decide +kernel)) ggX3_isSound_X3_bodyIsSound
theorem dX3_isSound_0 : decode cX3_isSound 0 = .ok (.aload_n 0, 1) := by decide +kernel
theorem dX3_isSound_1 : decode cX3_isSound 1 = .ok (.invokevirtual 56, 3) := by decide +kernel
theorem dX3_isSound_4 : decode cX3_isSound 4 = .ok (.istore_n 1, 1) := by decide +kernel
theorem dX3_isSound_5 : decode cX3_isSound 5 = .ok (.iload_n 1, 1) := by decide +kernel
theorem dX3_isSound_6 : decode cX3_isSound 6 = .ok (.iconst 2, 1) := by decide +kernel
theorem dX3_isSound_7 : decode cX3_isSound 7 = .ok (.if_icmp .lt 53, 3) := by decide +kernel
theorem dX3_isSound_10 : decode cX3_isSound 10 = .ok (.iload_n 1, 1) := by decide +kernel
theorem dX3_isSound_11 : decode cX3_isSound 11 = .ok (.bipush 21, 2) := by decide +kernel
theorem dX3_isSound_13 : decode cX3_isSound 13 = .ok (.if_icmp .gt 47, 3) := by decide +kernel
theorem dX3_isSound_16 : decode cX3_isSound 16 = .ok (.aload_n 0, 1) := by decide +kernel
theorem dX3_isSound_17 : decode cX3_isSound 17 = .ok (.getfield 16, 3) := by decide +kernel
theorem dX3_isSound_20 : decode cX3_isSound 20 = .ok (.invokevirtual 28, 3) := by decide +kernel
theorem dX3_isSound_23 : decode cX3_isSound 23 = .ok (.bipush 10, 2) := by decide +kernel
theorem dX3_isSound_25 : decode cX3_isSound 25 = .ok (.iload_n 1, 1) := by decide +kernel
theorem dX3_isSound_26 : decode cX3_isSound 26 = .ok (.iadd, 1) := by decide +kernel
theorem dX3_isSound_27 : decode cX3_isSound 27 = .ok (.iload_n 1, 1) := by decide +kernel
theorem dX3_isSound_28 : decode cX3_isSound 28 = .ok (.bipush 16, 2) := by decide +kernel
theorem dX3_isSound_30 : decode cX3_isSound 30 = .ok (.iadd, 1) := by decide +kernel
theorem dX3_isSound_31 : decode cX3_isSound 31 = .ok (.iconst 1, 1) := by decide +kernel
theorem dX3_isSound_32 : decode cX3_isSound 32 = .ok (.isub, 1) := by decide +kernel
theorem dX3_isSound_33 : decode cX3_isSound 33 = .ok (.bipush 16, 2) := by decide +kernel
theorem dX3_isSound_35 : decode cX3_isSound 35 = .ok (.idiv, 1) := by decide +kernel
theorem dX3_isSound_36 : decode cX3_isSound 36 = .ok (.iconst 2, 1) := by decide +kernel
theorem dX3_isSound_37 : decode cX3_isSound 37 = .ok (.imul, 1) := by decide +kernel
theorem dX3_isSound_38 : decode cX3_isSound 38 = .ok (.iadd, 1) := by decide +kernel
theorem dX3_isSound_39 : decode cX3_isSound 39 = .ok (.if_icmp .ne 21, 3) := by decide +kernel
theorem dX3_isSound_42 : decode cX3_isSound 42 = .ok (.aload_n 0, 1) := by decide +kernel
theorem dX3_isSound_43 : decode cX3_isSound 43 = .ok (.invokevirtual 59, 3) := by decide +kernel
theorem dX3_isSound_46 : decode cX3_isSound 46 = .ok (.ifCond .eq 14, 3) := by decide +kernel
theorem dX3_isSound_49 : decode cX3_isSound 49 = .ok (.aload_n 0, 1) := by decide +kernel
theorem dX3_isSound_50 : decode cX3_isSound 50 = .ok (.invokevirtual 63, 3) := by decide +kernel
theorem dX3_isSound_53 : decode cX3_isSound 53 = .ok (.ifCond .eq 7, 3) := by decide +kernel
theorem dX3_isSound_56 : decode cX3_isSound 56 = .ok (.iconst 1, 1) := by decide +kernel
theorem dX3_isSound_57 : decode cX3_isSound 57 = .ok (.goto 4, 3) := by decide +kernel
theorem dX3_isSound_60 : decode cX3_isSound 60 = .ok (.iconst 0, 1) := by decide +kernel
theorem dX3_isSound_61 : decode cX3_isSound 61 = .ok (.ireturn, 1) := by decide +kernel
set_option maxRecDepth 100000 in
theorem ggX3_headIsSound_X1_get : GoodIn wsX3_headIsSound wsX1_get := goodIn_r _ [7, 8, 9, 32, 33] rfl (by decide +kernel)
set_option maxRecDepth 20000 in
theorem gX3_headIsSound_X1_get : GoodIn wsX3_headIsSound (wsV RX3 24 RX1 yX1_get wsX1_get) := goodIn_app (goodIn_of _ (by decide +kernel)) ggX3_headIsSound_X1_get
set_option maxRecDepth 100000 in
theorem ggX3_headIsSound_X3_control : GoodIn wsX3_headIsSound wsX3_control := goodIn_r _ [14, 2, 30, 31] rfl (by decide +kernel)
set_option maxRecDepth 20000 in
theorem gX3_headIsSound_X3_control : GoodIn wsX3_headIsSound (wsV RX3 43 RX3 yX3_control wsX3_control) := goodIn_app (goodIn_of _ (by decide +kernel)) ggX3_headIsSound_X3_control
set_option maxRecDepth 100000 in
theorem ggX3_headIsSound_X1_number : GoodIn wsX3_headIsSound wsX1_number := goodIn_r _ [18, 19, 4, 5, 6, 7, 8, 9, 32, 33] rfl (by decide +kernel)
set_option maxRecDepth 20000 in
theorem gX3_headIsSound_X1_number : GoodIn wsX3_headIsSound (wsV RX3 66 RX1 yX1_number wsX1_number) := goodIn_app (goodIn_of _ (by decide +kernel)) ggX3_headIsSound_X1_number
set_option maxRecDepth 100000 in
theorem ggX3_headIsSound_X3_comesFrom : GoodIn wsX3_headIsSound wsX3_comesFrom := goodIn_r _ [23, 2, 30, 31] rfl (by decide +kernel)
set_option maxRecDepth 20000 in
theorem gX3_headIsSound_X3_comesFrom : GoodIn wsX3_headIsSound (wsV RX3 49 RX3 yX3_comesFrom wsX3_comesFrom) := goodIn_app (goodIn_of _ (by decide +kernel)) ggX3_headIsSound_X3_comesFrom
set_option maxRecDepth 100000 in
theorem ggX3_headIsSound_X1_check : GoodIn wsX3_headIsSound wsX1_check := goodIn_r _ [27, 28, 29, 19, 4, 5, 6, 7, 8, 9, 32, 33] rfl (by decide +kernel)
set_option maxRecDepth 20000 in
theorem gX3_headIsSound_X1_check : GoodIn wsX3_headIsSound (wsV RX3 52 RX1 yX1_check wsX1_check) := goodIn_app (goodIn_of _ (by decide +kernel)) ggX3_headIsSound_X1_check
theorem dX3_headIsSound_0 : decode cX3_headIsSound 0 = .ok (.aload_n 0, 1) := by decide +kernel
theorem dX3_headIsSound_1 : decode cX3_headIsSound 1 = .ok (.getfield 16, 3) := by decide +kernel
theorem dX3_headIsSound_4 : decode cX3_headIsSound 4 = .ok (.iconst 0, 1) := by decide +kernel
theorem dX3_headIsSound_5 : decode cX3_headIsSound 5 = .ok (.invokevirtual 24, 3) := by decide +kernel
theorem dX3_headIsSound_8 : decode cX3_headIsSound 8 = .ok (.iconst 5, 1) := by decide +kernel
theorem dX3_headIsSound_9 : decode cX3_headIsSound 9 = .ok (.if_icmp .ne 91, 3) := by decide +kernel
theorem dX3_headIsSound_12 : decode cX3_headIsSound 12 = .ok (.aload_n 0, 1) := by decide +kernel
theorem dX3_headIsSound_13 : decode cX3_headIsSound 13 = .ok (.getfield 16, 3) := by decide +kernel
theorem dX3_headIsSound_16 : decode cX3_headIsSound 16 = .ok (.iconst 1, 1) := by decide +kernel
theorem dX3_headIsSound_17 : decode cX3_headIsSound 17 = .ok (.invokevirtual 24, 3) := by decide +kernel
theorem dX3_headIsSound_20 : decode cX3_headIsSound 20 = .ok (.bipush 100, 2) := by decide +kernel
theorem dX3_headIsSound_22 : decode cX3_headIsSound 22 = .ok (.if_icmp .ne 78, 3) := by decide +kernel
theorem dX3_headIsSound_25 : decode cX3_headIsSound 25 = .ok (.aload_n 0, 1) := by decide +kernel
theorem dX3_headIsSound_26 : decode cX3_headIsSound 26 = .ok (.getfield 16, 3) := by decide +kernel
theorem dX3_headIsSound_29 : decode cX3_headIsSound 29 = .ok (.iconst 3, 1) := by decide +kernel
theorem dX3_headIsSound_30 : decode cX3_headIsSound 30 = .ok (.invokevirtual 24, 3) := by decide +kernel
theorem dX3_headIsSound_33 : decode cX3_headIsSound 33 = .ok (.aload_n 0, 1) := by decide +kernel
theorem dX3_headIsSound_34 : decode cX3_headIsSound 34 = .ok (.invokevirtual 43, 3) := by decide +kernel
theorem dX3_headIsSound_37 : decode cX3_headIsSound 37 = .ok (.if_icmp .ne 63, 3) := by decide +kernel
theorem dX3_headIsSound_40 : decode cX3_headIsSound 40 = .ok (.aload_n 0, 1) := by decide +kernel
theorem dX3_headIsSound_41 : decode cX3_headIsSound 41 = .ok (.getfield 16, 3) := by decide +kernel
theorem dX3_headIsSound_44 : decode cX3_headIsSound 44 = .ok (.iconst 4, 1) := by decide +kernel
theorem dX3_headIsSound_45 : decode cX3_headIsSound 45 = .ok (.iconst 2, 1) := by decide +kernel
theorem dX3_headIsSound_46 : decode cX3_headIsSound 46 = .ok (.invokevirtual 66, 3) := by decide +kernel
theorem dX3_headIsSound_49 : decode cX3_headIsSound 49 = .ok (.aload_n 0, 1) := by decide +kernel
theorem dX3_headIsSound_50 : decode cX3_headIsSound 50 = .ok (.getfield 20, 3) := by decide +kernel
theorem dX3_headIsSound_53 : decode cX3_headIsSound 53 = .ok (.if_icmp .ne 47, 3) := by decide +kernel
theorem dX3_headIsSound_56 : decode cX3_headIsSound 56 = .ok (.aload_n 0, 1) := by decide +kernel
theorem dX3_headIsSound_57 : decode cX3_headIsSound 57 = .ok (.getfield 16, 3) := by decide +kernel
theorem dX3_headIsSound_60 : decode cX3_headIsSound 60 = .ok (.bipush 6, 2) := by decide +kernel
theorem dX3_headIsSound_62 : decode cX3_headIsSound 62 = .ok (.iconst 2, 1) := by decide +kernel
theorem dX3_headIsSound_63 : decode cX3_headIsSound 63 = .ok (.invokevirtual 66, 3) := by decide +kernel
theorem dX3_headIsSound_66 : decode cX3_headIsSound 66 = .ok (.aload_n 0, 1) := by decide +kernel
theorem dX3_headIsSound_67 : decode cX3_headIsSound 67 = .ok (.invokevirtual 49, 3) := by decide +kernel
theorem dX3_headIsSound_70 : decode cX3_headIsSound 70 = .ok (.if_icmp .ne 30, 3) := by decide +kernel
theorem dX3_headIsSound_73 : decode cX3_headIsSound 73 = .ok (.aload_n 0, 1) := by decide +kernel
theorem dX3_headIsSound_74 : decode cX3_headIsSound 74 = .ok (.getfield 16, 3) := by decide +kernel
theorem dX3_headIsSound_77 : decode cX3_headIsSound 77 = .ok (.bipush 8, 2) := by decide +kernel
theorem dX3_headIsSound_79 : decode cX3_headIsSound 79 = .ok (.iconst 2, 1) := by decide +kernel
theorem dX3_headIsSound_80 : decode cX3_headIsSound 80 = .ok (.invokevirtual 66, 3) := by decide +kernel
theorem dX3_headIsSound_83 : decode cX3_headIsSound 83 = .ok (.aload_n 0, 1) := by decide +kernel
theorem dX3_headIsSound_84 : decode cX3_headIsSound 84 = .ok (.getfield 16, 3) := by decide +kernel
theorem dX3_headIsSound_87 : decode cX3_headIsSound 87 = .ok (.iconst 0, 1) := by decide +kernel
theorem dX3_headIsSound_88 : decode cX3_headIsSound 88 = .ok (.bipush 8, 2) := by decide +kernel
theorem dX3_headIsSound_90 : decode cX3_headIsSound 90 = .ok (.invokevirtual 52, 3) := by decide +kernel
theorem dX3_headIsSound_93 : decode cX3_headIsSound 93 = .ok (.if_icmp .ne 7, 3) := by decide +kernel
theorem dX3_headIsSound_96 : decode cX3_headIsSound 96 = .ok (.iconst 1, 1) := by decide +kernel
theorem dX3_headIsSound_97 : decode cX3_headIsSound 97 = .ok (.goto 4, 3) := by decide +kernel
theorem dX3_headIsSound_100 : decode cX3_headIsSound 100 = .ok (.iconst 0, 1) := by decide +kernel
theorem dX3_headIsSound_101 : decode cX3_headIsSound 101 = .ok (.ireturn, 1) := by decide +kernel
set_option maxRecDepth 100000 in
theorem ggX3_bodyIsSound_X1_size : GoodIn wsX3_bodyIsSound wsX1_size := goodIn_r _ [10, 11, 29, 30] rfl (by decide +kernel)
set_option maxRecDepth 20000 in
theorem gX3_bodyIsSound_X1_size : GoodIn wsX3_bodyIsSound (wsV RX3 28 RX1 yX1_size wsX1_size) := goodIn_app (goodIn_of _ (by decide +kernel)) ggX3_bodyIsSound_X1_size
set_option maxRecDepth 100000 in
theorem ggX3_bodyIsSound_X1_number : GoodIn wsX3_bodyIsSound wsX1_number := goodIn_r _ [15, 16, 17, 18, 9, 19, 11, 20, 29, 30] rfl (by decide +kernel)
set_option maxRecDepth 20000 in
theorem gX3_bodyIsSound_X1_number : GoodIn wsX3_bodyIsSound (wsV RX3 66 RX1 yX1_number wsX1_number) := goodIn_app (goodIn_of _ (by decide +kernel)) ggX3_bodyIsSound_X1_number
set_option maxRecDepth 100000 in
theorem ggX3_bodyIsSound_X1_check : GoodIn wsX3_bodyIsSound wsX1_check := goodIn_r _ [24, 25, 26, 16, 17, 18, 9, 19, 11, 20, 29, 30] rfl (by decide +kernel)
set_option maxRecDepth 20000 in
theorem gX3_bodyIsSound_X1_check : GoodIn wsX3_bodyIsSound (wsV RX3 52 RX1 yX1_check wsX1_check) := goodIn_app (goodIn_of _ (by decide +kernel)) ggX3_bodyIsSound_X1_check
theorem dX3_bodyIsSound_0 : decode cX3_bodyIsSound 0 = .ok (.bipush 10, 2) := by decide +kernel
theorem dX3_bodyIsSound_2 : decode cX3_bodyIsSound 2 = .ok (.istore_n 1, 1) := by decide +kernel
theorem dX3_bodyIsSound_3 : decode cX3_bodyIsSound 3 = .ok (.iload_n 1, 1) := by decide +kernel
theorem dX3_bodyIsSound_4 : decode cX3_bodyIsSound 4 = .ok (.aload_n 0, 1) := by decide +kernel
theorem dX3_bodyIsSound_5 : decode cX3_bodyIsSound 5 = .ok (.getfield 16, 3) := by decide +kernel
theorem dX3_bodyIsSound_8 : decode cX3_bodyIsSound 8 = .ok (.invokevirtual 28, 3) := by decide +kernel
theorem dX3_bodyIsSound_11 : decode cX3_bodyIsSound 11 = .ok (.if_icmp .ge 51, 3) := by decide +kernel
theorem dX3_bodyIsSound_14 : decode cX3_bodyIsSound 14 = .ok (.bipush 16, 2) := by decide +kernel
theorem dX3_bodyIsSound_16 : decode cX3_bodyIsSound 16 = .ok (.aload_n 0, 1) := by decide +kernel
theorem dX3_bodyIsSound_17 : decode cX3_bodyIsSound 17 = .ok (.getfield 16, 3) := by decide +kernel
theorem dX3_bodyIsSound_20 : decode cX3_bodyIsSound 20 = .ok (.invokevirtual 28, 3) := by decide +kernel
theorem dX3_bodyIsSound_23 : decode cX3_bodyIsSound 23 = .ok (.iconst 2, 1) := by decide +kernel
theorem dX3_bodyIsSound_24 : decode cX3_bodyIsSound 24 = .ok (.isub, 1) := by decide +kernel
theorem dX3_bodyIsSound_25 : decode cX3_bodyIsSound 25 = .ok (.iload_n 1, 1) := by decide +kernel
theorem dX3_bodyIsSound_26 : decode cX3_bodyIsSound 26 = .ok (.isub, 1) := by decide +kernel
theorem dX3_bodyIsSound_27 : decode cX3_bodyIsSound 27 = .ok (.invokestatic 69, 3) := by decide +kernel
theorem dX3_bodyIsSound_30 : decode cX3_bodyIsSound 30 = .ok (.istore_n 2, 1) := by decide +kernel
theorem dX3_bodyIsSound_31 : decode cX3_bodyIsSound 31 = .ok (.aload_n 0, 1) := by decide +kernel
theorem dX3_bodyIsSound_32 : decode cX3_bodyIsSound 32 = .ok (.getfield 16, 3) := by decide +kernel
theorem dX3_bodyIsSound_35 : decode cX3_bodyIsSound 35 = .ok (.iload_n 1, 1) := by decide +kernel
theorem dX3_bodyIsSound_36 : decode cX3_bodyIsSound 36 = .ok (.iload_n 2, 1) := by decide +kernel
theorem dX3_bodyIsSound_37 : decode cX3_bodyIsSound 37 = .ok (.iadd, 1) := by decide +kernel
theorem dX3_bodyIsSound_38 : decode cX3_bodyIsSound 38 = .ok (.iconst 2, 1) := by decide +kernel
theorem dX3_bodyIsSound_39 : decode cX3_bodyIsSound 39 = .ok (.invokevirtual 66, 3) := by decide +kernel
theorem dX3_bodyIsSound_42 : decode cX3_bodyIsSound 42 = .ok (.aload_n 0, 1) := by decide +kernel
theorem dX3_bodyIsSound_43 : decode cX3_bodyIsSound 43 = .ok (.getfield 16, 3) := by decide +kernel
theorem dX3_bodyIsSound_46 : decode cX3_bodyIsSound 46 = .ok (.iload_n 1, 1) := by decide +kernel
theorem dX3_bodyIsSound_47 : decode cX3_bodyIsSound 47 = .ok (.iload_n 2, 1) := by decide +kernel
theorem dX3_bodyIsSound_48 : decode cX3_bodyIsSound 48 = .ok (.invokevirtual 52, 3) := by decide +kernel
theorem dX3_bodyIsSound_51 : decode cX3_bodyIsSound 51 = .ok (.if_icmp .eq 5, 3) := by decide +kernel
theorem dX3_bodyIsSound_54 : decode cX3_bodyIsSound 54 = .ok (.iconst 0, 1) := by decide +kernel
theorem dX3_bodyIsSound_55 : decode cX3_bodyIsSound 55 = .ok (.ireturn, 1) := by decide +kernel
theorem dX3_bodyIsSound_56 : decode cX3_bodyIsSound 56 = .ok (.iinc 1 18, 3) := by decide +kernel
theorem dX3_bodyIsSound_59 : decode cX3_bodyIsSound 59 = .ok (.goto (-56), 3) := by decide +kernel
theorem dX3_bodyIsSound_62 : decode cX3_bodyIsSound 62 = .ok (.iconst 1, 1) := by decide +kernel
theorem dX3_bodyIsSound_63 : decode cX3_bodyIsSound 63 = .ok (.ireturn, 1) := by decide +kernel
theorem dX3_control_0 : decode cX3_control 0 = .ok (.aload_n 0, 1) := by decide +kernel
theorem dX3_control_1 : decode cX3_control 1 = .ok (.getfield 20, 3) := by decide +kernel
theorem dX3_control_4 : decode cX3_control 4 = .ok (.iconst 2, 1) := by decide +kernel
theorem dX3_control_5 : decode cX3_control 5 = .ok (.if_icmp .ne 9, 3) := by decide +kernel
theorem dX3_control_8 : decode cX3_control 8 = .ok (.sipush 196, 3) := by decide +kernel
theorem dX3_control_11 : decode cX3_control 11 = .ok (.goto 5, 3) := by decide +kernel
theorem dX3_control_14 : decode cX3_control 14 = .ok (.bipush 68, 2) := by decide +kernel
theorem dX3_control_16 : decode cX3_control 16 = .ok (.ireturn, 1) := by decide +kernel
theorem dX3_comesFrom_0 : decode cX3_comesFrom 0 = .ok (.aload_n 0, 1) := by decide +kernel
theorem dX3_comesFrom_1 : decode cX3_comesFrom 1 = .ok (.getfield 20, 3) := by decide +kernel
theorem dX3_comesFrom_4 : decode cX3_comesFrom 4 = .ok (.iconst 2, 1) := by decide +kernel
theorem dX3_comesFrom_5 : decode cX3_comesFrom 5 = .ok (.if_icmp .ne 7, 3) := by decide +kernel
theorem dX3_comesFrom_8 : decode cX3_comesFrom 8 = .ok (.iconst 1, 1) := by decide +kernel
theorem dX3_comesFrom_9 : decode cX3_comesFrom 9 = .ok (.goto 4, 3) := by decide +kernel
theorem dX3_comesFrom_12 : decode cX3_comesFrom 12 = .ok (.iconst 2, 1) := by decide +kernel
theorem dX3_comesFrom_13 : decode cX3_comesFrom 13 = .ok (.ireturn, 1) := by decide +kernel
set_option maxRecDepth 100000 in
theorem ggX4_end_X1_size : GoodIn wsX4_end wsX1_size := goodIn_r _ [5, 6, 19, 20] rfl (by decide +kernel)
set_option maxRecDepth 20000 in
theorem gX4_end_X1_size : GoodIn wsX4_end (wsV RX4 11 RX1 yX1_size wsX1_size) := goodIn_app (goodIn_of _ (by decide +kernel)) ggX4_end_X1_size
set_option maxRecDepth 100000 in
theorem ggX4_end_X1_get : GoodIn wsX4_end wsX1_get := goodIn_r _ [10, 6, 11, 19, 20] rfl (by decide +kernel)
set_option maxRecDepth 20000 in
theorem gX4_end_X1_get : GoodIn wsX4_end (wsV RX4 17 RX1 yX1_get wsX1_get) := goodIn_app (goodIn_of _ (by decide +kernel)) ggX4_end_X1_get
set_option maxRecDepth 100000 in
theorem ggX4_end_X4_isClass : GoodIn wsX4_end wsX4_isClass := goodIn_r _ [15] rfl (by decide +kernel)
set_option maxRecDepth 20000 in
theorem gX4_end_X4_isClass : GoodIn wsX4_end (va_wsS RX4 21 yX4_isClass wsX4_isClass) := goodIn_app (goodIn_of _ (by decide +kernel)) ggX4_end_X4_isClass
set_option maxRecDepth 100000 in
theorem ggX4_end_X4_isStates : GoodIn wsX4_end wsX4_isStates := goodIn_r _ [18, 7, 8, 9, 4, 10, 6, 11, 19, 20] rfl (by decide +kernel)
set_option maxRecDepth 20000 in
theorem gX4_end_X4_isStates : GoodIn wsX4_end (va_wsS RX4 25 yX4_isStates wsX4_isStates) := goodIn_app (goodIn_of _ (by decide +kernel)) ggX4_end_X4_isStates
theorem dX4_end_0 : decode cX4_end 0 = .ok (.iload_n 1, 1) := by decide +kernel
theorem dX4_end_1 : decode cX4_end 1 = .ok (.iconst 3, 1) := by decide +kernel
theorem dX4_end_2 : decode cX4_end 2 = .ok (.iadd, 1) := by decide +kernel
theorem dX4_end_3 : decode cX4_end 3 = .ok (.aload_n 0, 1) := by decide +kernel
theorem dX4_end_4 : decode cX4_end 4 = .ok (.invokevirtual 11, 3) := by decide +kernel
theorem dX4_end_7 : decode cX4_end 7 = .ok (.if_icmp .le 5, 3) := by decide +kernel
theorem dX4_end_10 : decode cX4_end 10 = .ok (.iconst (-1), 1) := by decide +kernel
theorem dX4_end_11 : decode cX4_end 11 = .ok (.ireturn, 1) := by decide +kernel
theorem dX4_end_12 : decode cX4_end 12 = .ok (.aload_n 0, 1) := by decide +kernel
theorem dX4_end_13 : decode cX4_end 13 = .ok (.iload_n 1, 1) := by decide +kernel
theorem dX4_end_14 : decode cX4_end 14 = .ok (.invokevirtual 17, 3) := by decide +kernel
theorem dX4_end_17 : decode cX4_end 17 = .ok (.bipush 32, 2) := by decide +kernel
theorem dX4_end_19 : decode cX4_end 19 = .ok (.if_icmp .ne 7, 3) := by decide +kernel
theorem dX4_end_22 : decode cX4_end 22 = .ok (.iconst 1, 1) := by decide +kernel
theorem dX4_end_23 : decode cX4_end 23 = .ok (.goto 4, 3) := by decide +kernel
theorem dX4_end_26 : decode cX4_end 26 = .ok (.iconst 0, 1) := by decide +kernel
theorem dX4_end_27 : decode cX4_end 27 = .ok (.istore_n 2, 1) := by decide +kernel
theorem dX4_end_28 : decode cX4_end 28 = .ok (.iload_n 2, 1) := by decide +kernel
theorem dX4_end_29 : decode cX4_end 29 = .ok (.ifCond .eq 19, 3) := by decide +kernel
theorem dX4_end_32 : decode cX4_end 32 = .ok (.aload_n 0, 1) := by decide +kernel
theorem dX4_end_33 : decode cX4_end 33 = .ok (.iload_n 1, 1) := by decide +kernel
theorem dX4_end_34 : decode cX4_end 34 = .ok (.iconst 1, 1) := by decide +kernel
theorem dX4_end_35 : decode cX4_end 35 = .ok (.iadd, 1) := by decide +kernel
theorem dX4_end_36 : decode cX4_end 36 = .ok (.invokevirtual 17, 3) := by decide +kernel
theorem dX4_end_39 : decode cX4_end 39 = .ok (.invokestatic 21, 3) := by decide +kernel
theorem dX4_end_42 : decode cX4_end 42 = .ok (.ifCond .eq 14, 3) := by decide +kernel
theorem dX4_end_45 : decode cX4_end 45 = .ok (.goto 13, 3) := by decide +kernel
theorem dX4_end_48 : decode cX4_end 48 = .ok (.aload_n 0, 1) := by decide +kernel
theorem dX4_end_49 : decode cX4_end 49 = .ok (.iload_n 1, 1) := by decide +kernel
theorem dX4_end_50 : decode cX4_end 50 = .ok (.invokestatic 25, 3) := by decide +kernel
theorem dX4_end_53 : decode cX4_end 53 = .ok (.ifCond .ne 5, 3) := by decide +kernel
theorem dX4_end_56 : decode cX4_end 56 = .ok (.iconst (-1), 1) := by decide +kernel
theorem dX4_end_57 : decode cX4_end 57 = .ok (.ireturn, 1) := by decide +kernel
theorem dX4_end_58 : decode cX4_end 58 = .ok (.iload_n 2, 1) := by decide +kernel
theorem dX4_end_59 : decode cX4_end 59 = .ok (.ifCond .eq 8, 3) := by decide +kernel
theorem dX4_end_62 : decode cX4_end 62 = .ok (.bipush 7, 2) := by decide +kernel
theorem dX4_end_64 : decode cX4_end 64 = .ok (.goto 4, 3) := by decide +kernel
theorem dX4_end_67 : decode cX4_end 67 = .ok (.iconst 3, 1) := by decide +kernel
theorem dX4_end_68 : decode cX4_end 68 = .ok (.istore_n 3, 1) := by decide +kernel
theorem dX4_end_69 : decode cX4_end 69 = .ok (.iload_n 1, 1) := by decide +kernel
theorem dX4_end_70 : decode cX4_end 70 = .ok (.iconst 3, 1) := by decide +kernel
theorem dX4_end_71 : decode cX4_end 71 = .ok (.iadd, 1) := by decide +kernel
theorem dX4_end_72 : decode cX4_end 72 = .ok (.aload_n 0, 1) := by decide +kernel
theorem dX4_end_73 : decode cX4_end 73 = .ok (.iload_n 1, 1) := by decide +kernel
theorem dX4_end_74 : decode cX4_end 74 = .ok (.iconst 2, 1) := by decide +kernel
theorem dX4_end_75 : decode cX4_end 75 = .ok (.iadd, 1) := by decide +kernel
theorem dX4_end_76 : decode cX4_end 76 = .ok (.invokevirtual 17, 3) := by decide +kernel
theorem dX4_end_79 : decode cX4_end 79 = .ok (.iload_n 3, 1) := by decide +kernel
theorem dX4_end_80 : decode cX4_end 80 = .ok (.imul, 1) := by decide +kernel
theorem dX4_end_81 : decode cX4_end 81 = .ok (.iadd, 1) := by decide +kernel
theorem dX4_end_82 : decode cX4_end 82 = .ok (.istore 4, 2) := by decide +kernel
theorem dX4_end_84 : decode cX4_end 84 = .ok (.iload 4, 2) := by decide +kernel
theorem dX4_end_86 : decode cX4_end 86 = .ok (.aload_n 0, 1) := by decide +kernel
theorem dX4_end_87 : decode cX4_end 87 = .ok (.invokevirtual 11, 3) := by decide +kernel
theorem dX4_end_90 : decode cX4_end 90 = .ok (.if_icmp .le 5, 3) := by decide +kernel
theorem dX4_end_93 : decode cX4_end 93 = .ok (.iconst (-1), 1) := by decide +kernel
theorem dX4_end_94 : decode cX4_end 94 = .ok (.ireturn, 1) := by decide +kernel
theorem dX4_end_95 : decode cX4_end 95 = .ok (.iload_n 1, 1) := by decide +kernel
theorem dX4_end_96 : decode cX4_end 96 = .ok (.iconst 3, 1) := by decide +kernel
theorem dX4_end_97 : decode cX4_end 97 = .ok (.iadd, 1) := by decide +kernel
theorem dX4_end_98 : decode cX4_end 98 = .ok (.istore 5, 2) := by decide +kernel
theorem dX4_end_100 : decode cX4_end 100 = .ok (.iload 5, 2) := by decide +kernel
theorem dX4_end_102 : decode cX4_end 102 = .ok (.iload 4, 2) := by decide +kernel
theorem dX4_end_104 : decode cX4_end 104 = .ok (.if_icmp .ge 44, 3) := by decide +kernel
theorem dX4_end_107 : decode cX4_end 107 = .ok (.aload_n 0, 1) := by decide +kernel
theorem dX4_end_108 : decode cX4_end 108 = .ok (.iload 5, 2) := by decide +kernel
theorem dX4_end_110 : decode cX4_end 110 = .ok (.invokevirtual 17, 3) := by decide +kernel
theorem dX4_end_113 : decode cX4_end 113 = .ok (.bipush 10, 2) := by decide +kernel
theorem dX4_end_115 : decode cX4_end 115 = .ok (.if_icmp .ge 22, 3) := by decide +kernel
theorem dX4_end_118 : decode cX4_end 118 = .ok (.iload_n 2, 1) := by decide +kernel
theorem dX4_end_119 : decode cX4_end 119 = .ok (.ifCond .eq 20, 3) := by decide +kernel
theorem dX4_end_122 : decode cX4_end 122 = .ok (.aload_n 0, 1) := by decide +kernel
theorem dX4_end_123 : decode cX4_end 123 = .ok (.iload 5, 2) := by decide +kernel
theorem dX4_end_125 : decode cX4_end 125 = .ok (.bipush 6, 2) := by decide +kernel
theorem dX4_end_127 : decode cX4_end 127 = .ok (.iadd, 1) := by decide +kernel
theorem dX4_end_128 : decode cX4_end 128 = .ok (.invokevirtual 17, 3) := by decide +kernel
theorem dX4_end_131 : decode cX4_end 131 = .ok (.sipush 128, 3) := by decide +kernel
theorem dX4_end_134 : decode cX4_end 134 = .ok (.if_icmp .lt 5, 3) := by decide +kernel
theorem dX4_end_137 : decode cX4_end 137 = .ok (.iconst (-1), 1) := by decide +kernel
theorem dX4_end_138 : decode cX4_end 138 = .ok (.ireturn, 1) := by decide +kernel
theorem dX4_end_139 : decode cX4_end 139 = .ok (.iload 5, 2) := by decide +kernel
theorem dX4_end_141 : decode cX4_end 141 = .ok (.iload_n 3, 1) := by decide +kernel
theorem dX4_end_142 : decode cX4_end 142 = .ok (.iadd, 1) := by decide +kernel
theorem dX4_end_143 : decode cX4_end 143 = .ok (.istore 5, 2) := by decide +kernel
theorem dX4_end_145 : decode cX4_end 145 = .ok (.goto (-45), 3) := by decide +kernel
theorem dX4_end_148 : decode cX4_end 148 = .ok (.iload 4, 2) := by decide +kernel
theorem dX4_end_150 : decode cX4_end 150 = .ok (.ireturn, 1) := by decide +kernel
theorem dX4_isClass_0 : decode cX4_isClass 0 = .ok (.iload_n 0, 1) := by decide +kernel
theorem dX4_isClass_1 : decode cX4_isClass 1 = .ok (.iconst 1, 1) := by decide +kernel
theorem dX4_isClass_2 : decode cX4_isClass 2 = .ok (.if_icmp .lt 12, 3) := by decide +kernel
theorem dX4_isClass_5 : decode cX4_isClass 5 = .ok (.iload_n 0, 1) := by decide +kernel
theorem dX4_isClass_6 : decode cX4_isClass 6 = .ok (.iconst 3, 1) := by decide +kernel
theorem dX4_isClass_7 : decode cX4_isClass 7 = .ok (.if_icmp .gt 7, 3) := by decide +kernel
theorem dX4_isClass_10 : decode cX4_isClass 10 = .ok (.iconst 1, 1) := by decide +kernel
theorem dX4_isClass_11 : decode cX4_isClass 11 = .ok (.goto 4, 3) := by decide +kernel
theorem dX4_isClass_14 : decode cX4_isClass 14 = .ok (.iconst 0, 1) := by decide +kernel
theorem dX4_isClass_15 : decode cX4_isClass 15 = .ok (.ireturn, 1) := by decide +kernel
set_option maxRecDepth 100000 in
theorem ggX4_isStates_X1_get : GoodIn wsX4_isStates wsX1_get := goodIn_r _ [5, 6, 7, 8, 9] rfl (by decide +kernel)
set_option maxRecDepth 20000 in
theorem gX4_isStates_X1_get : GoodIn wsX4_isStates (wsV RX4 17 RX1 yX1_get wsX1_get) := goodIn_app (goodIn_of _ (by decide +kernel)) ggX4_isStates_X1_get
theorem dX4_isStates_0 : decode cX4_isStates 0 = .ok (.aload_n 0, 1) := by decide +kernel
theorem dX4_isStates_1 : decode cX4_isStates 1 = .ok (.iload_n 1, 1) := by decide +kernel
theorem dX4_isStates_2 : decode cX4_isStates 2 = .ok (.invokevirtual 17, 3) := by decide +kernel
theorem dX4_isStates_5 : decode cX4_isStates 5 = .ok (.bipush 30, 2) := by decide +kernel
theorem dX4_isStates_7 : decode cX4_isStates 7 = .ok (.if_icmp .ne 18, 3) := by decide +kernel
theorem dX4_isStates_10 : decode cX4_isStates 10 = .ok (.aload_n 0, 1) := by decide +kernel
theorem dX4_isStates_11 : decode cX4_isStates 11 = .ok (.iload_n 1, 1) := by decide +kernel
theorem dX4_isStates_12 : decode cX4_isStates 12 = .ok (.iconst 1, 1) := by decide +kernel
theorem dX4_isStates_13 : decode cX4_isStates 13 = .ok (.iadd, 1) := by decide +kernel
theorem dX4_isStates_14 : decode cX4_isStates 14 = .ok (.invokevirtual 17, 3) := by decide +kernel
theorem dX4_isStates_17 : decode cX4_isStates 17 = .ok (.iconst 2, 1) := by decide +kernel
theorem dX4_isStates_18 : decode cX4_isStates 18 = .ok (.if_icmp .ne 7, 3) := by decide +kernel
theorem dX4_isStates_21 : decode cX4_isStates 21 = .ok (.iconst 1, 1) := by decide +kernel
theorem dX4_isStates_22 : decode cX4_isStates 22 = .ok (.goto 4, 3) := by decide +kernel
theorem dX4_isStates_25 : decode cX4_isStates 25 = .ok (.iconst 0, 1) := by decide +kernel
theorem dX4_isStates_26 : decode cX4_isStates 26 = .ok (.ireturn, 1) := by decide +kernel
set_option maxRecDepth 100000 in
theorem ggX5_init_X3_init : GoodIn wsX5_init wsX3_init := goodIn_r _ [9, 10, 2, 3, 11, 12, 13, 14, 15, 16, 17, 18, 19, 20, 21, 26, 27, 24, 25] rfl (by decide +kernel)
set_option maxRecDepth 20000 in
theorem gX5_init_X3_init_n15 : GoodIn wsX5_init (wsX3_init) := ggX5_init_X3_init
theorem dX5_init_0 : decode cX5_init 0 = .ok (.aload_n 0, 1) := by decide +kernel
theorem dX5_init_1 : decode cX5_init 1 = .ok (.invokespecial 1, 3) := by decide +kernel
theorem dX5_init_4 : decode cX5_init 4 = .ok (.aload_n 0, 1) := by decide +kernel
theorem dX5_init_5 : decode cX5_init 5 = .ok (.bipush 40, 2) := by decide +kernel
theorem dX5_init_7 : decode cX5_init 7 = .ok (.anewarray 9, 3) := by decide +kernel
theorem dX5_init_10 : decode cX5_init 10 = .ok (.putfield 11, 3) := by decide +kernel
theorem dX5_init_13 : decode cX5_init 13 = .ok (.iconst 0, 1) := by decide +kernel
theorem dX5_init_14 : decode cX5_init 14 = .ok (.istore_n 1, 1) := by decide +kernel
theorem dX5_init_15 : decode cX5_init 15 = .ok (.iload_n 1, 1) := by decide +kernel
theorem dX5_init_16 : decode cX5_init 16 = .ok (.bipush 40, 2) := by decide +kernel
theorem dX5_init_18 : decode cX5_init 18 = .ok (.if_icmp .ge 22, 3) := by decide +kernel
theorem dX5_init_21 : decode cX5_init 21 = .ok (.aload_n 0, 1) := by decide +kernel
theorem dX5_init_22 : decode cX5_init 22 = .ok (.getfield 11, 3) := by decide +kernel
theorem dX5_init_25 : decode cX5_init 25 = .ok (.iload_n 1, 1) := by decide +kernel
theorem dX5_init_26 : decode cX5_init 26 = .ok (.new 9, 3) := by decide +kernel
theorem dX5_init_29 : decode cX5_init 29 = .ok (.dup, 1) := by decide +kernel
theorem dX5_init_30 : decode cX5_init 30 = .ok (.invokespecial 15, 3) := by decide +kernel
theorem dX5_init_33 : decode cX5_init 33 = .ok (.aastore, 1) := by decide +kernel
theorem dX5_init_34 : decode cX5_init 34 = .ok (.iinc 1 1, 3) := by decide +kernel
theorem dX5_init_37 : decode cX5_init 37 = .ok (.goto (-22), 3) := by decide +kernel
theorem dX5_init_40 : decode cX5_init 40 = .ok (.return_, 1) := by decide +kernel
theorem dX5_size_0 : decode cX5_size 0 = .ok (.aload_n 0, 1) := by decide +kernel
theorem dX5_size_1 : decode cX5_size 1 = .ok (.getfield 16, 3) := by decide +kernel
theorem dX5_size_4 : decode cX5_size 4 = .ok (.ireturn, 1) := by decide +kernel
theorem dX5_frame_0 : decode cX5_frame 0 = .ok (.iload_n 1, 1) := by decide +kernel
theorem dX5_frame_1 : decode cX5_frame 1 = .ok (.ifCond .lt 11, 3) := by decide +kernel
theorem dX5_frame_4 : decode cX5_frame 4 = .ok (.iload_n 1, 1) := by decide +kernel
theorem dX5_frame_5 : decode cX5_frame 5 = .ok (.aload_n 0, 1) := by decide +kernel
theorem dX5_frame_6 : decode cX5_frame 6 = .ok (.getfield 16, 3) := by decide +kernel
theorem dX5_frame_9 : decode cX5_frame 9 = .ok (.if_icmp .lt 7, 3) := by decide +kernel
theorem dX5_frame_12 : decode cX5_frame 12 = .ok (.aconst_null, 1) := by decide +kernel
theorem dX5_frame_13 : decode cX5_frame 13 = .ok (.goto 9, 3) := by decide +kernel
theorem dX5_frame_16 : decode cX5_frame 16 = .ok (.aload_n 0, 1) := by decide +kernel
theorem dX5_frame_17 : decode cX5_frame 17 = .ok (.getfield 11, 3) := by decide +kernel
theorem dX5_frame_20 : decode cX5_frame 20 = .ok (.iload_n 1, 1) := by decide +kernel
