theorem dX12_poll_80 : decode cX12_poll 80 = .ok (.goto (-36), 3) := by decide +kernel
theorem dX12_poll_83 : decode cX12_poll 83 = .ok (.aload_n 0, 1) := by decide +kernel
theorem dX12_poll_84 : decode cX12_poll 84 = .ok (.iconst 1, 1) := by decide +kernel
theorem dX12_poll_85 : decode cX12_poll 85 = .ok (.invokevirtual 178, 3) := by decide +kernel
theorem dX12_poll_88 : decode cX12_poll 88 = .ok (.iload_n 2, 1) := by decide +kernel
theorem dX12_poll_89 : decode cX12_poll 89 = .ok (.ireturn, 1) := by decide +kernel
theorem dX12_numberAt_0 : decode cX12_numberAt 0 = .ok (.lconst 0, 1) := by decide +kernel
theorem dX12_numberAt_1 : decode cX12_numberAt 1 = .ok (.lstore_n 3, 1) := by decide +kernel
theorem dX12_numberAt_2 : decode cX12_numberAt 2 = .ok (.iload_n 2, 1) := by decide +kernel
theorem dX12_numberAt_3 : decode cX12_numberAt 3 = .ok (.iconst 1, 1) := by decide +kernel
theorem dX12_numberAt_4 : decode cX12_numberAt 4 = .ok (.isub, 1) := by decide +kernel
theorem dX12_numberAt_5 : decode cX12_numberAt 5 = .ok (.istore 5, 2) := by decide +kernel
theorem dX12_numberAt_7 : decode cX12_numberAt 7 = .ok (.iload 5, 2) := by decide +kernel
theorem dX12_numberAt_9 : decode cX12_numberAt 9 = .ok (.ifCond .lt 26, 3) := by decide +kernel
theorem dX12_numberAt_12 : decode cX12_numberAt 12 = .ok (.ldc2_w 229, 3) := by decide +kernel
theorem dX12_numberAt_15 : decode cX12_numberAt 15 = .ok (.lload_n 3, 1) := by decide +kernel
theorem dX12_numberAt_16 : decode cX12_numberAt 16 = .ok (.lmul, 1) := by decide +kernel
theorem dX12_numberAt_17 : decode cX12_numberAt 17 = .ok (.aload_n 0, 1) := by decide +kernel
theorem dX12_numberAt_18 : decode cX12_numberAt 18 = .ok (.getfield 78, 3) := by decide +kernel
theorem dX12_numberAt_21 : decode cX12_numberAt 21 = .ok (.iload_n 1, 1) := by decide +kernel
theorem dX12_numberAt_22 : decode cX12_numberAt 22 = .ok (.iload 5, 2) := by decide +kernel
theorem dX12_numberAt_24 : decode cX12_numberAt 24 = .ok (.iadd, 1) := by decide +kernel
theorem dX12_numberAt_25 : decode cX12_numberAt 25 = .ok (.iaload, 1) := by decide +kernel
theorem dX12_numberAt_26 : decode cX12_numberAt 26 = .ok (.i2l, 1) := by decide +kernel
theorem dX12_numberAt_27 : decode cX12_numberAt 27 = .ok (.ladd, 1) := by decide +kernel
theorem dX12_numberAt_28 : decode cX12_numberAt 28 = .ok (.lstore_n 3, 1) := by decide +kernel
theorem dX12_numberAt_29 : decode cX12_numberAt 29 = .ok (.iinc 5 (-1), 3) := by decide +kernel
theorem dX12_numberAt_32 : decode cX12_numberAt 32 = .ok (.goto (-25), 3) := by decide +kernel
theorem dX12_numberAt_35 : decode cX12_numberAt 35 = .ok (.lload_n 3, 1) := by decide +kernel
theorem dX12_numberAt_36 : decode cX12_numberAt 36 = .ok (.lreturn, 1) := by decide +kernel
theorem dX12_groupAt_0 : decode cX12_groupAt 0 = .ok (.iload_n 1, 1) := by decide +kernel
theorem dX12_groupAt_1 : decode cX12_groupAt 1 = .ok (.iconst 3, 1) := by decide +kernel
theorem dX12_groupAt_2 : decode cX12_groupAt 2 = .ok (.iadd, 1) := by decide +kernel
theorem dX12_groupAt_3 : decode cX12_groupAt 3 = .ok (.aload_n 0, 1) := by decide +kernel
theorem dX12_groupAt_4 : decode cX12_groupAt 4 = .ok (.getfield 127, 3) := by decide +kernel
theorem dX12_groupAt_7 : decode cX12_groupAt 7 = .ok (.if_icmp .le 5, 3) := by decide +kernel
theorem dX12_groupAt_10 : decode cX12_groupAt 10 = .ok (.iconst 0, 1) := by decide +kernel
theorem dX12_groupAt_11 : decode cX12_groupAt 11 = .ok (.ireturn, 1) := by decide +kernel
theorem dX12_groupAt_12 : decode cX12_groupAt 12 = .ok (.aload_n 0, 1) := by decide +kernel
theorem dX12_groupAt_13 : decode cX12_groupAt 13 = .ok (.getfield 78, 3) := by decide +kernel
theorem dX12_groupAt_16 : decode cX12_groupAt 16 = .ok (.iload_n 1, 1) := by decide +kernel
theorem dX12_groupAt_17 : decode cX12_groupAt 17 = .ok (.iaload, 1) := by decide +kernel
theorem dX12_groupAt_18 : decode cX12_groupAt 18 = .ok (.bipush 30, 2) := by decide +kernel
theorem dX12_groupAt_20 : decode cX12_groupAt 20 = .ok (.if_icmp .ne 19, 3) := by decide +kernel
theorem dX12_groupAt_23 : decode cX12_groupAt 23 = .ok (.aload_n 0, 1) := by decide +kernel
theorem dX12_groupAt_24 : decode cX12_groupAt 24 = .ok (.getfield 78, 3) := by decide +kernel
theorem dX12_groupAt_27 : decode cX12_groupAt 27 = .ok (.iload_n 1, 1) := by decide +kernel
theorem dX12_groupAt_28 : decode cX12_groupAt 28 = .ok (.iconst 1, 1) := by decide +kernel
theorem dX12_groupAt_29 : decode cX12_groupAt 29 = .ok (.iadd, 1) := by decide +kernel
theorem dX12_groupAt_30 : decode cX12_groupAt 30 = .ok (.iaload, 1) := by decide +kernel
theorem dX12_groupAt_31 : decode cX12_groupAt 31 = .ok (.iconst 2, 1) := by decide +kernel
theorem dX12_groupAt_32 : decode cX12_groupAt 32 = .ok (.if_icmp .ne 7, 3) := by decide +kernel
theorem dX12_groupAt_35 : decode cX12_groupAt 35 = .ok (.iconst 1, 1) := by decide +kernel
theorem dX12_groupAt_36 : decode cX12_groupAt 36 = .ok (.goto 4, 3) := by decide +kernel
theorem dX12_groupAt_39 : decode cX12_groupAt 39 = .ok (.iconst 0, 1) := by decide +kernel
theorem dX12_groupAt_40 : decode cX12_groupAt 40 = .ok (.istore_n 2, 1) := by decide +kernel
theorem dX12_groupAt_41 : decode cX12_groupAt 41 = .ok (.aload_n 0, 1) := by decide +kernel
theorem dX12_groupAt_42 : decode cX12_groupAt 42 = .ok (.getfield 78, 3) := by decide +kernel
theorem dX12_groupAt_45 : decode cX12_groupAt 45 = .ok (.iload_n 1, 1) := by decide +kernel
theorem dX12_groupAt_46 : decode cX12_groupAt 46 = .ok (.iaload, 1) := by decide +kernel
theorem dX12_groupAt_47 : decode cX12_groupAt 47 = .ok (.bipush 32, 2) := by decide +kernel
theorem dX12_groupAt_49 : decode cX12_groupAt 49 = .ok (.if_icmp .ne 31, 3) := by decide +kernel
theorem dX12_groupAt_52 : decode cX12_groupAt 52 = .ok (.aload_n 0, 1) := by decide +kernel
theorem dX12_groupAt_53 : decode cX12_groupAt 53 = .ok (.getfield 78, 3) := by decide +kernel
theorem dX12_groupAt_56 : decode cX12_groupAt 56 = .ok (.iload_n 1, 1) := by decide +kernel
theorem dX12_groupAt_57 : decode cX12_groupAt 57 = .ok (.iconst 1, 1) := by decide +kernel
theorem dX12_groupAt_58 : decode cX12_groupAt 58 = .ok (.iadd, 1) := by decide +kernel
theorem dX12_groupAt_59 : decode cX12_groupAt 59 = .ok (.iaload, 1) := by decide +kernel
theorem dX12_groupAt_60 : decode cX12_groupAt 60 = .ok (.iconst 1, 1) := by decide +kernel
theorem dX12_groupAt_61 : decode cX12_groupAt 61 = .ok (.if_icmp .lt 19, 3) := by decide +kernel
theorem dX12_groupAt_64 : decode cX12_groupAt 64 = .ok (.aload_n 0, 1) := by decide +kernel
theorem dX12_groupAt_65 : decode cX12_groupAt 65 = .ok (.getfield 78, 3) := by decide +kernel
theorem dX12_groupAt_68 : decode cX12_groupAt 68 = .ok (.iload_n 1, 1) := by decide +kernel
theorem dX12_groupAt_69 : decode cX12_groupAt 69 = .ok (.iconst 1, 1) := by decide +kernel
theorem dX12_groupAt_70 : decode cX12_groupAt 70 = .ok (.iadd, 1) := by decide +kernel
theorem dX12_groupAt_71 : decode cX12_groupAt 71 = .ok (.iaload, 1) := by decide +kernel
theorem dX12_groupAt_72 : decode cX12_groupAt 72 = .ok (.iconst 3, 1) := by decide +kernel
theorem dX12_groupAt_73 : decode cX12_groupAt 73 = .ok (.if_icmp .gt 7, 3) := by decide +kernel
theorem dX12_groupAt_76 : decode cX12_groupAt 76 = .ok (.iconst 1, 1) := by decide +kernel
theorem dX12_groupAt_77 : decode cX12_groupAt 77 = .ok (.goto 4, 3) := by decide +kernel
theorem dX12_groupAt_80 : decode cX12_groupAt 80 = .ok (.iconst 0, 1) := by decide +kernel
theorem dX12_groupAt_81 : decode cX12_groupAt 81 = .ok (.istore_n 3, 1) := by decide +kernel
theorem dX12_groupAt_82 : decode cX12_groupAt 82 = .ok (.iload_n 2, 1) := by decide +kernel
theorem dX12_groupAt_83 : decode cX12_groupAt 83 = .ok (.ifCond .eq 7, 3) := by decide +kernel
theorem dX12_groupAt_86 : decode cX12_groupAt 86 = .ok (.iconst 3, 1) := by decide +kernel
theorem dX12_groupAt_87 : decode cX12_groupAt 87 = .ok (.goto 5, 3) := by decide +kernel
theorem dX12_groupAt_90 : decode cX12_groupAt 90 = .ok (.bipush 7, 2) := by decide +kernel
theorem dX12_groupAt_92 : decode cX12_groupAt 92 = .ok (.istore 4, 2) := by decide +kernel
theorem dX12_groupAt_94 : decode cX12_groupAt 94 = .ok (.iconst 3, 1) := by decide +kernel
theorem dX12_groupAt_95 : decode cX12_groupAt 95 = .ok (.iload 4, 2) := by decide +kernel
theorem dX12_groupAt_97 : decode cX12_groupAt 97 = .ok (.aload_n 0, 1) := by decide +kernel
theorem dX12_groupAt_98 : decode cX12_groupAt 98 = .ok (.getfield 78, 3) := by decide +kernel
theorem dX12_groupAt_101 : decode cX12_groupAt 101 = .ok (.iload_n 1, 1) := by decide +kernel
theorem dX12_groupAt_102 : decode cX12_groupAt 102 = .ok (.iconst 2, 1) := by decide +kernel
theorem dX12_groupAt_103 : decode cX12_groupAt 103 = .ok (.iadd, 1) := by decide +kernel
theorem dX12_groupAt_104 : decode cX12_groupAt 104 = .ok (.iaload, 1) := by decide +kernel
theorem dX12_groupAt_105 : decode cX12_groupAt 105 = .ok (.imul, 1) := by decide +kernel
theorem dX12_groupAt_106 : decode cX12_groupAt 106 = .ok (.iadd, 1) := by decide +kernel
theorem dX12_groupAt_107 : decode cX12_groupAt 107 = .ok (.istore 5, 2) := by decide +kernel
theorem dX12_groupAt_109 : decode cX12_groupAt 109 = .ok (.iload_n 2, 1) := by decide +kernel
theorem dX12_groupAt_110 : decode cX12_groupAt 110 = .ok (.ifCond .ne 7, 3) := by decide +kernel
theorem dX12_groupAt_113 : decode cX12_groupAt 113 = .ok (.iload_n 3, 1) := by decide +kernel
theorem dX12_groupAt_114 : decode cX12_groupAt 114 = .ok (.ifCond .eq 18, 3) := by decide +kernel
theorem dX12_groupAt_117 : decode cX12_groupAt 117 = .ok (.iload_n 1, 1) := by decide +kernel
theorem dX12_groupAt_118 : decode cX12_groupAt 118 = .ok (.iload 5, 2) := by decide +kernel
theorem dX12_groupAt_120 : decode cX12_groupAt 120 = .ok (.iadd, 1) := by decide +kernel
theorem dX12_groupAt_121 : decode cX12_groupAt 121 = .ok (.aload_n 0, 1) := by decide +kernel
theorem dX12_groupAt_122 : decode cX12_groupAt 122 = .ok (.getfield 127, 3) := by decide +kernel
theorem dX12_groupAt_125 : decode cX12_groupAt 125 = .ok (.if_icmp .gt 7, 3) := by decide +kernel
theorem dX12_groupAt_128 : decode cX12_groupAt 128 = .ok (.iconst 1, 1) := by decide +kernel
theorem dX12_groupAt_129 : decode cX12_groupAt 129 = .ok (.goto 4, 3) := by decide +kernel
theorem dX12_groupAt_132 : decode cX12_groupAt 132 = .ok (.iconst 0, 1) := by decide +kernel
theorem dX12_groupAt_133 : decode cX12_groupAt 133 = .ok (.istore 6, 2) := by decide +kernel
theorem dX12_groupAt_135 : decode cX12_groupAt 135 = .ok (.iload_n 1, 1) := by decide +kernel
theorem dX12_groupAt_136 : decode cX12_groupAt 136 = .ok (.iconst 3, 1) := by decide +kernel
theorem dX12_groupAt_137 : decode cX12_groupAt 137 = .ok (.iadd, 1) := by decide +kernel
theorem dX12_groupAt_138 : decode cX12_groupAt 138 = .ok (.istore 7, 2) := by decide +kernel
theorem dX12_groupAt_140 : decode cX12_groupAt 140 = .ok (.iload 7, 2) := by decide +kernel
theorem dX12_groupAt_142 : decode cX12_groupAt 142 = .ok (.iload_n 1, 1) := by decide +kernel
theorem dX12_groupAt_143 : decode cX12_groupAt 143 = .ok (.iload 5, 2) := by decide +kernel
theorem dX12_groupAt_145 : decode cX12_groupAt 145 = .ok (.iadd, 1) := by decide +kernel
theorem dX12_groupAt_146 : decode cX12_groupAt 146 = .ok (.if_icmp .ge 57, 3) := by decide +kernel
theorem dX12_groupAt_149 : decode cX12_groupAt 149 = .ok (.iload 6, 2) := by decide +kernel
theorem dX12_groupAt_151 : decode cX12_groupAt 151 = .ok (.ifCond .eq 52, 3) := by decide +kernel
theorem dX12_groupAt_154 : decode cX12_groupAt 154 = .ok (.aload_n 0, 1) := by decide +kernel
theorem dX12_groupAt_155 : decode cX12_groupAt 155 = .ok (.getfield 78, 3) := by decide +kernel
theorem dX12_groupAt_158 : decode cX12_groupAt 158 = .ok (.iload 7, 2) := by decide +kernel
theorem dX12_groupAt_160 : decode cX12_groupAt 160 = .ok (.iaload, 1) := by decide +kernel
theorem dX12_groupAt_161 : decode cX12_groupAt 161 = .ok (.bipush 10, 2) := by decide +kernel
theorem dX12_groupAt_163 : decode cX12_groupAt 163 = .ok (.if_icmp .ge 27, 3) := by decide +kernel
theorem dX12_groupAt_166 : decode cX12_groupAt 166 = .ok (.iload_n 2, 1) := by decide +kernel
theorem dX12_groupAt_167 : decode cX12_groupAt 167 = .ok (.ifCond .ne 19, 3) := by decide +kernel
theorem dX12_groupAt_170 : decode cX12_groupAt 170 = .ok (.aload_n 0, 1) := by decide +kernel
theorem dX12_groupAt_171 : decode cX12_groupAt 171 = .ok (.getfield 78, 3) := by decide +kernel
theorem dX12_groupAt_174 : decode cX12_groupAt 174 = .ok (.iload 7, 2) := by decide +kernel
theorem dX12_groupAt_176 : decode cX12_groupAt 176 = .ok (.bipush 6, 2) := by decide +kernel
theorem dX12_groupAt_178 : decode cX12_groupAt 178 = .ok (.iadd, 1) := by decide +kernel
theorem dX12_groupAt_179 : decode cX12_groupAt 179 = .ok (.iaload, 1) := by decide +kernel
theorem dX12_groupAt_180 : decode cX12_groupAt 180 = .ok (.sipush 128, 3) := by decide +kernel
theorem dX12_groupAt_183 : decode cX12_groupAt 183 = .ok (.if_icmp .ge 7, 3) := by decide +kernel
theorem dX12_groupAt_186 : decode cX12_groupAt 186 = .ok (.iconst 1, 1) := by decide +kernel
theorem dX12_groupAt_187 : decode cX12_groupAt 187 = .ok (.goto 4, 3) := by decide +kernel
theorem dX12_groupAt_190 : decode cX12_groupAt 190 = .ok (.iconst 0, 1) := by decide +kernel
theorem dX12_groupAt_191 : decode cX12_groupAt 191 = .ok (.istore 6, 2) := by decide +kernel
theorem dX12_groupAt_193 : decode cX12_groupAt 193 = .ok (.iload 7, 2) := by decide +kernel
theorem dX12_groupAt_195 : decode cX12_groupAt 195 = .ok (.iload 4, 2) := by decide +kernel
theorem dX12_groupAt_197 : decode cX12_groupAt 197 = .ok (.iadd, 1) := by decide +kernel
theorem dX12_groupAt_198 : decode cX12_groupAt 198 = .ok (.istore 7, 2) := by decide +kernel
theorem dX12_groupAt_200 : decode cX12_groupAt 200 = .ok (.goto (-60), 3) := by decide +kernel
theorem dX12_groupAt_203 : decode cX12_groupAt 203 = .ok (.iload 6, 2) := by decide +kernel
theorem dX12_groupAt_205 : decode cX12_groupAt 205 = .ok (.ifCond .eq 8, 3) := by decide +kernel
theorem dX12_groupAt_208 : decode cX12_groupAt 208 = .ok (.iload 5, 2) := by decide +kernel
theorem dX12_groupAt_210 : decode cX12_groupAt 210 = .ok (.goto 4, 3) := by decide +kernel
theorem dX12_groupAt_213 : decode cX12_groupAt 213 = .ok (.iconst 0, 1) := by decide +kernel
theorem dX12_groupAt_214 : decode cX12_groupAt 214 = .ok (.ireturn, 1) := by decide +kernel
set_option maxRecDepth 20000 in
theorem ggX12_areGroups_X12_groupAt : GoodIn wsX12_areGroups wsX12_groupAt := goodIn_r _ [6, 1, 7, 8, 9, 10, 11, 12, 13, 14, 15, 16, 17, 18, 19, 20, 21, 22, 23, 24, 25, 26, 27, 28, 29, 30, 31, 32, 33, 34, 35, 36, 37, 38, 39, 40, 41, 42, 43, 44, 45, 46, 47, 48, 49, 50, 51, 52, 53, 54] (by decide +kernel) (by decide +kernel)
set_option maxRecDepth 20000 in
theorem gX12_areGroups_X12_groupAt : GoodIn wsX12_areGroups (wsV RX12 231 RX12 yX12_groupAt wsX12_groupAt) := goodIn_app (goodIn_of _ (by decide +kernel)) ggX12_areGroups_X12_groupAt
theorem dX12_areGroups_0 : decode cX12_areGroups 0 = .ok (.iconst 4, 1) := by decide +kernel
theorem dX12_areGroups_1 : decode cX12_areGroups 1 = .ok (.istore_n 1, 1) := by decide +kernel
theorem dX12_areGroups_2 : decode cX12_areGroups 2 = .ok (.iconst 1, 1) := by decide +kernel
theorem dX12_areGroups_3 : decode cX12_areGroups 3 = .ok (.istore_n 2, 1) := by decide +kernel
theorem dX12_areGroups_4 : decode cX12_areGroups 4 = .ok (.iload_n 2, 1) := by decide +kernel
theorem dX12_areGroups_5 : decode cX12_areGroups 5 = .ok (.ifCond .le 24, 3) := by decide +kernel
theorem dX12_areGroups_8 : decode cX12_areGroups 8 = .ok (.iload_n 1, 1) := by decide +kernel
theorem dX12_areGroups_9 : decode cX12_areGroups 9 = .ok (.aload_n 0, 1) := by decide +kernel
theorem dX12_areGroups_10 : decode cX12_areGroups 10 = .ok (.getfield 127, 3) := by decide +kernel
theorem dX12_areGroups_13 : decode cX12_areGroups 13 = .ok (.if_icmp .ge 16, 3) := by decide +kernel
theorem dX12_areGroups_16 : decode cX12_areGroups 16 = .ok (.aload_n 0, 1) := by decide +kernel
theorem dX12_areGroups_17 : decode cX12_areGroups 17 = .ok (.iload_n 1, 1) := by decide +kernel
theorem dX12_areGroups_18 : decode cX12_areGroups 18 = .ok (.invokevirtual 231, 3) := by decide +kernel
theorem dX12_areGroups_21 : decode cX12_areGroups 21 = .ok (.istore_n 2, 1) := by decide +kernel
theorem dX12_areGroups_22 : decode cX12_areGroups 22 = .ok (.iload_n 1, 1) := by decide +kernel
theorem dX12_areGroups_23 : decode cX12_areGroups 23 = .ok (.iload_n 2, 1) := by decide +kernel
theorem dX12_areGroups_24 : decode cX12_areGroups 24 = .ok (.iadd, 1) := by decide +kernel
theorem dX12_areGroups_25 : decode cX12_areGroups 25 = .ok (.istore_n 1, 1) := by decide +kernel
theorem dX12_areGroups_26 : decode cX12_areGroups 26 = .ok (.goto (-22), 3) := by decide +kernel
theorem dX12_areGroups_29 : decode cX12_areGroups 29 = .ok (.aload_n 0, 1) := by decide +kernel
theorem dX12_areGroups_30 : decode cX12_areGroups 30 = .ok (.getfield 127, 3) := by decide +kernel
theorem dX12_areGroups_33 : decode cX12_areGroups 33 = .ok (.iconst 4, 1) := by decide +kernel
theorem dX12_areGroups_34 : decode cX12_areGroups 34 = .ok (.if_icmp .lt 15, 3) := by decide +kernel
theorem dX12_areGroups_37 : decode cX12_areGroups 37 = .ok (.iload_n 1, 1) := by decide +kernel
theorem dX12_areGroups_38 : decode cX12_areGroups 38 = .ok (.aload_n 0, 1) := by decide +kernel
theorem dX12_areGroups_39 : decode cX12_areGroups 39 = .ok (.getfield 127, 3) := by decide +kernel
theorem dX12_areGroups_42 : decode cX12_areGroups 42 = .ok (.if_icmp .ne 7, 3) := by decide +kernel
theorem dX12_areGroups_45 : decode cX12_areGroups 45 = .ok (.iconst 1, 1) := by decide +kernel
theorem dX12_areGroups_46 : decode cX12_areGroups 46 = .ok (.goto 4, 3) := by decide +kernel
theorem dX12_areGroups_49 : decode cX12_areGroups 49 = .ok (.iconst 0, 1) := by decide +kernel
theorem dX12_areGroups_50 : decode cX12_areGroups 50 = .ok (.ireturn, 1) := by decide +kernel
set_option maxRecDepth 20000 in
theorem ggX12_takeEvent_X12_numberAt : GoodIn wsX12_takeEvent wsX12_numberAt := goodIn_r _ [11, 12, 1, 13, 14, 15, 16, 17, 18, 19, 20, 21, 22, 23, 24, 25, 26, 27, 28, 29, 30, 31, 32, 33, 34, 35, 36, 37, 38, 39, 40, 41, 42, 43, 44, 45, 46, 47, 48, 49, 50, 51, 52, 53, 54, 55, 56, 57, 58, 59] (by decide +kernel) (by decide +kernel)
set_option maxRecDepth 20000 in
theorem gX12_takeEvent_X12_numberAt : GoodIn wsX12_takeEvent (wsV RX12 235 RX12 yX12_numberAt wsX12_numberAt) := goodIn_app (goodIn_of _ (by decide +kernel)) ggX12_takeEvent_X12_numberAt
theorem dX12_takeEvent_0 : decode cX12_takeEvent 0 = .ok (.aload_n 0, 1) := by decide +kernel
theorem dX12_takeEvent_1 : decode cX12_takeEvent 1 = .ok (.getfield 78, 3) := by decide +kernel
theorem dX12_takeEvent_4 : decode cX12_takeEvent 4 = .ok (.iload_n 1, 1) := by decide +kernel
theorem dX12_takeEvent_5 : decode cX12_takeEvent 5 = .ok (.iaload, 1) := by decide +kernel
theorem dX12_takeEvent_6 : decode cX12_takeEvent 6 = .ok (.istore_n 3, 1) := by decide +kernel
theorem dX12_takeEvent_7 : decode cX12_takeEvent 7 = .ok (.aload_n 0, 1) := by decide +kernel
theorem dX12_takeEvent_8 : decode cX12_takeEvent 8 = .ok (.iload_n 1, 1) := by decide +kernel
theorem dX12_takeEvent_9 : decode cX12_takeEvent 9 = .ok (.iconst 3, 1) := by decide +kernel
theorem dX12_takeEvent_10 : decode cX12_takeEvent 10 = .ok (.iadd, 1) := by decide +kernel
theorem dX12_takeEvent_11 : decode cX12_takeEvent 11 = .ok (.iconst 4, 1) := by decide +kernel
theorem dX12_takeEvent_12 : decode cX12_takeEvent 12 = .ok (.invokevirtual 235, 3) := by decide +kernel
theorem dX12_takeEvent_15 : decode cX12_takeEvent 15 = .ok (.l2i, 1) := by decide +kernel
theorem dX12_takeEvent_16 : decode cX12_takeEvent 16 = .ok (.istore 4, 2) := by decide +kernel
theorem dX12_takeEvent_18 : decode cX12_takeEvent 18 = .ok (.iload 4, 2) := by decide +kernel
theorem dX12_takeEvent_20 : decode cX12_takeEvent 20 = .ok (.aload_n 0, 1) := by decide +kernel
theorem dX12_takeEvent_21 : decode cX12_takeEvent 21 = .ok (.getfield 45, 3) := by decide +kernel
theorem dX12_takeEvent_24 : decode cX12_takeEvent 24 = .ok (.iload_n 3, 1) := by decide +kernel
theorem dX12_takeEvent_25 : decode cX12_takeEvent 25 = .ok (.iaload, 1) := by decide +kernel
theorem dX12_takeEvent_26 : decode cX12_takeEvent 26 = .ok (.if_icmp .gt 14, 3) := by decide +kernel
theorem dX12_takeEvent_29 : decode cX12_takeEvent 29 = .ok (.aload_n 0, 1) := by decide +kernel
theorem dX12_takeEvent_30 : decode cX12_takeEvent 30 = .ok (.dup, 1) := by decide +kernel
theorem dX12_takeEvent_31 : decode cX12_takeEvent 31 = .ok (.getfield 239, 3) := by decide +kernel
theorem dX12_takeEvent_34 : decode cX12_takeEvent 34 = .ok (.iconst 1, 1) := by decide +kernel
theorem dX12_takeEvent_35 : decode cX12_takeEvent 35 = .ok (.iadd, 1) := by decide +kernel
theorem dX12_takeEvent_36 : decode cX12_takeEvent 36 = .ok (.putfield 239, 3) := by decide +kernel
theorem dX12_takeEvent_39 : decode cX12_takeEvent 39 = .ok (.return_, 1) := by decide +kernel
theorem dX12_takeEvent_40 : decode cX12_takeEvent 40 = .ok (.aload_n 0, 1) := by decide +kernel
theorem dX12_takeEvent_41 : decode cX12_takeEvent 41 = .ok (.getfield 45, 3) := by decide +kernel
theorem dX12_takeEvent_44 : decode cX12_takeEvent 44 = .ok (.iload_n 3, 1) := by decide +kernel
theorem dX12_takeEvent_45 : decode cX12_takeEvent 45 = .ok (.iload 4, 2) := by decide +kernel
theorem dX12_takeEvent_47 : decode cX12_takeEvent 47 = .ok (.iastore, 1) := by decide +kernel
theorem dX12_takeEvent_48 : decode cX12_takeEvent 48 = .ok (.aload_n 0, 1) := by decide +kernel
theorem dX12_takeEvent_49 : decode cX12_takeEvent 49 = .ok (.getfield 42, 3) := by decide +kernel
theorem dX12_takeEvent_52 : decode cX12_takeEvent 52 = .ok (.iload_n 3, 1) := by decide +kernel
theorem dX12_takeEvent_53 : decode cX12_takeEvent 53 = .ok (.aload_n 0, 1) := by decide +kernel
theorem dX12_takeEvent_54 : decode cX12_takeEvent 54 = .ok (.iload_n 1, 1) := by decide +kernel
theorem dX12_takeEvent_55 : decode cX12_takeEvent 55 = .ok (.iconst 1, 1) := by decide +kernel
theorem dX12_takeEvent_56 : decode cX12_takeEvent 56 = .ok (.iadd, 1) := by decide +kernel
theorem dX12_takeEvent_57 : decode cX12_takeEvent 57 = .ok (.iconst 2, 1) := by decide +kernel
theorem dX12_takeEvent_58 : decode cX12_takeEvent 58 = .ok (.invokevirtual 235, 3) := by decide +kernel
theorem dX12_takeEvent_61 : decode cX12_takeEvent 61 = .ok (.l2i, 1) := by decide +kernel
theorem dX12_takeEvent_62 : decode cX12_takeEvent 62 = .ok (.iastore, 1) := by decide +kernel
theorem dX12_takeEvent_63 : decode cX12_takeEvent 63 = .ok (.aload_n 0, 1) := by decide +kernel
theorem dX12_takeEvent_64 : decode cX12_takeEvent 64 = .ok (.getfield 242, 3) := by decide +kernel
theorem dX12_takeEvent_67 : decode cX12_takeEvent 67 = .ok (.sipush 200, 3) := by decide +kernel
theorem dX12_takeEvent_70 : decode cX12_takeEvent 70 = .ok (.if_icmp .ge 63, 3) := by decide +kernel
theorem dX12_takeEvent_73 : decode cX12_takeEvent 73 = .ok (.aload_n 0, 1) := by decide +kernel
theorem dX12_takeEvent_74 : decode cX12_takeEvent 74 = .ok (.getfield 48, 3) := by decide +kernel
theorem dX12_takeEvent_77 : decode cX12_takeEvent 77 = .ok (.iconst 4, 1) := by decide +kernel
theorem dX12_takeEvent_78 : decode cX12_takeEvent 78 = .ok (.aload_n 0, 1) := by decide +kernel
theorem dX12_takeEvent_79 : decode cX12_takeEvent 79 = .ok (.getfield 242, 3) := by decide +kernel
theorem dX12_takeEvent_82 : decode cX12_takeEvent 82 = .ok (.imul, 1) := by decide +kernel
theorem dX12_takeEvent_83 : decode cX12_takeEvent 83 = .ok (.iload_n 3, 1) := by decide +kernel
theorem dX12_takeEvent_84 : decode cX12_takeEvent 84 = .ok (.iastore, 1) := by decide +kernel
theorem dX12_takeEvent_85 : decode cX12_takeEvent 85 = .ok (.aload_n 0, 1) := by decide +kernel
theorem dX12_takeEvent_86 : decode cX12_takeEvent 86 = .ok (.getfield 48, 3) := by decide +kernel
theorem dX12_takeEvent_89 : decode cX12_takeEvent 89 = .ok (.iconst 4, 1) := by decide +kernel
theorem dX12_takeEvent_90 : decode cX12_takeEvent 90 = .ok (.aload_n 0, 1) := by decide +kernel
theorem dX12_takeEvent_91 : decode cX12_takeEvent 91 = .ok (.getfield 242, 3) := by decide +kernel
theorem dX12_takeEvent_94 : decode cX12_takeEvent 94 = .ok (.imul, 1) := by decide +kernel
theorem dX12_takeEvent_95 : decode cX12_takeEvent 95 = .ok (.iconst 1, 1) := by decide +kernel
theorem dX12_takeEvent_96 : decode cX12_takeEvent 96 = .ok (.iadd, 1) := by decide +kernel
theorem dX12_takeEvent_97 : decode cX12_takeEvent 97 = .ok (.aload_n 0, 1) := by decide +kernel
theorem dX12_takeEvent_98 : decode cX12_takeEvent 98 = .ok (.getfield 42, 3) := by decide +kernel
theorem dX12_takeEvent_101 : decode cX12_takeEvent 101 = .ok (.iload_n 3, 1) := by decide +kernel
theorem dX12_takeEvent_102 : decode cX12_takeEvent 102 = .ok (.iaload, 1) := by decide +kernel
theorem dX12_takeEvent_103 : decode cX12_takeEvent 103 = .ok (.iastore, 1) := by decide +kernel
theorem dX12_takeEvent_104 : decode cX12_takeEvent 104 = .ok (.aload_n 0, 1) := by decide +kernel
theorem dX12_takeEvent_105 : decode cX12_takeEvent 105 = .ok (.getfield 48, 3) := by decide +kernel
theorem dX12_takeEvent_108 : decode cX12_takeEvent 108 = .ok (.iconst 4, 1) := by decide +kernel
theorem dX12_takeEvent_109 : decode cX12_takeEvent 109 = .ok (.aload_n 0, 1) := by decide +kernel
theorem dX12_takeEvent_110 : decode cX12_takeEvent 110 = .ok (.getfield 242, 3) := by decide +kernel
theorem dX12_takeEvent_113 : decode cX12_takeEvent 113 = .ok (.imul, 1) := by decide +kernel
theorem dX12_takeEvent_114 : decode cX12_takeEvent 114 = .ok (.iconst 2, 1) := by decide +kernel
theorem dX12_takeEvent_115 : decode cX12_takeEvent 115 = .ok (.iadd, 1) := by decide +kernel
theorem dX12_takeEvent_116 : decode cX12_takeEvent 116 = .ok (.iload 4, 2) := by decide +kernel
theorem dX12_takeEvent_118 : decode cX12_takeEvent 118 = .ok (.iastore, 1) := by decide +kernel
theorem dX12_takeEvent_119 : decode cX12_takeEvent 119 = .ok (.aload_n 0, 1) := by decide +kernel
theorem dX12_takeEvent_120 : decode cX12_takeEvent 120 = .ok (.getfield 48, 3) := by decide +kernel
theorem dX12_takeEvent_123 : decode cX12_takeEvent 123 = .ok (.iconst 4, 1) := by decide +kernel
theorem dX12_takeEvent_124 : decode cX12_takeEvent 124 = .ok (.aload_n 0, 1) := by decide +kernel
theorem dX12_takeEvent_125 : decode cX12_takeEvent 125 = .ok (.getfield 242, 3) := by decide +kernel
theorem dX12_takeEvent_128 : decode cX12_takeEvent 128 = .ok (.imul, 1) := by decide +kernel
theorem dX12_takeEvent_129 : decode cX12_takeEvent 129 = .ok (.iconst 3, 1) := by decide +kernel
theorem dX12_takeEvent_130 : decode cX12_takeEvent 130 = .ok (.iadd, 1) := by decide +kernel
theorem dX12_takeEvent_131 : decode cX12_takeEvent 131 = .ok (.iload_n 2, 1) := by decide +kernel
theorem dX12_takeEvent_132 : decode cX12_takeEvent 132 = .ok (.iastore, 1) := by decide +kernel
theorem dX12_takeEvent_133 : decode cX12_takeEvent 133 = .ok (.aload_n 0, 1) := by decide +kernel
theorem dX12_takeEvent_134 : decode cX12_takeEvent 134 = .ok (.dup, 1) := by decide +kernel
theorem dX12_takeEvent_135 : decode cX12_takeEvent 135 = .ok (.getfield 242, 3) := by decide +kernel
theorem dX12_takeEvent_138 : decode cX12_takeEvent 138 = .ok (.iconst 1, 1) := by decide +kernel
