theorem dX12_init_0 : decode cX12_init 0 = .ok (.aload_n 0, 1) := by decide +kernel
theorem dX12_init_1 : decode cX12_init 1 = .ok (.invokespecial 1, 3) := by decide +kernel
theorem dX12_init_4 : decode cX12_init 4 = .ok (.aload_n 0, 1) := by decide +kernel
theorem dX12_init_5 : decode cX12_init 5 = .ok (.bipush 10, 2) := by decide +kernel
theorem dX12_init_7 : decode cX12_init 7 = .ok (.newarray .int, 2) := by decide +kernel
theorem dX12_init_9 : decode cX12_init 9 = .ok (.putfield 7, 3) := by decide +kernel
theorem dX12_init_12 : decode cX12_init 12 = .ok (.aload_n 0, 1) := by decide +kernel
theorem dX12_init_13 : decode cX12_init 13 = .ok (.bipush 10, 2) := by decide +kernel
theorem dX12_init_15 : decode cX12_init 15 = .ok (.newarray .int, 2) := by decide +kernel
theorem dX12_init_17 : decode cX12_init 17 = .ok (.putfield 13, 3) := by decide +kernel
theorem dX12_init_20 : decode cX12_init 20 = .ok (.aload_n 0, 1) := by decide +kernel
theorem dX12_init_21 : decode cX12_init 21 = .ok (.bipush 10, 2) := by decide +kernel
theorem dX12_init_23 : decode cX12_init 23 = .ok (.newarray .int, 2) := by decide +kernel
theorem dX12_init_25 : decode cX12_init 25 = .ok (.putfield 16, 3) := by decide +kernel
theorem dX12_init_28 : decode cX12_init 28 = .ok (.aload_n 0, 1) := by decide +kernel
theorem dX12_init_29 : decode cX12_init 29 = .ok (.iconst 4, 1) := by decide +kernel
theorem dX12_init_30 : decode cX12_init 30 = .ok (.newarray .int, 2) := by decide +kernel
theorem dX12_init_32 : decode cX12_init 32 = .ok (.putfield 19, 3) := by decide +kernel
theorem dX12_init_35 : decode cX12_init 35 = .ok (.aload_n 0, 1) := by decide +kernel
theorem dX12_init_36 : decode cX12_init 36 = .ok (.bipush 32, 2) := by decide +kernel
theorem dX12_init_38 : decode cX12_init 38 = .ok (.newarray .int, 2) := by decide +kernel
theorem dX12_init_40 : decode cX12_init 40 = .ok (.putfield 22, 3) := by decide +kernel
theorem dX12_init_43 : decode cX12_init 43 = .ok (.aload_n 0, 1) := by decide +kernel
theorem dX12_init_44 : decode cX12_init 44 = .ok (.bipush 32, 2) := by decide +kernel
theorem dX12_init_46 : decode cX12_init 46 = .ok (.newarray .int, 2) := by decide +kernel
theorem dX12_init_48 : decode cX12_init 48 = .ok (.putfield 25, 3) := by decide +kernel
theorem dX12_init_51 : decode cX12_init 51 = .ok (.aload_n 0, 1) := by decide +kernel
theorem dX12_init_52 : decode cX12_init 52 = .ok (.bipush 32, 2) := by decide +kernel
theorem dX12_init_54 : decode cX12_init 54 = .ok (.newarray .int, 2) := by decide +kernel
theorem dX12_init_56 : decode cX12_init 56 = .ok (.putfield 28, 3) := by decide +kernel
theorem dX12_init_59 : decode cX12_init 59 = .ok (.aload_n 0, 1) := by decide +kernel
theorem dX12_init_60 : decode cX12_init 60 = .ok (.bipush 32, 2) := by decide +kernel
theorem dX12_init_62 : decode cX12_init 62 = .ok (.newarray .boolean, 2) := by decide +kernel
theorem dX12_init_64 : decode cX12_init 64 = .ok (.putfield 31, 3) := by decide +kernel
theorem dX12_init_67 : decode cX12_init 67 = .ok (.aload_n 0, 1) := by decide +kernel
theorem dX12_init_68 : decode cX12_init 68 = .ok (.sipush 200, 3) := by decide +kernel
theorem dX12_init_71 : decode cX12_init 71 = .ok (.newarray .int, 2) := by decide +kernel
theorem dX12_init_73 : decode cX12_init 73 = .ok (.putfield 35, 3) := by decide +kernel
theorem dX12_init_76 : decode cX12_init 76 = .ok (.aload_n 0, 1) := by decide +kernel
theorem dX12_init_77 : decode cX12_init 77 = .ok (.iconst 1, 1) := by decide +kernel
theorem dX12_init_78 : decode cX12_init 78 = .ok (.putfield 38, 3) := by decide +kernel
theorem dX12_init_81 : decode cX12_init 81 = .ok (.aload_n 0, 1) := by decide +kernel
theorem dX12_init_82 : decode cX12_init 82 = .ok (.bipush 10, 2) := by decide +kernel
theorem dX12_init_84 : decode cX12_init 84 = .ok (.newarray .int, 2) := by decide +kernel
theorem dX12_init_86 : decode cX12_init 86 = .ok (.putfield 42, 3) := by decide +kernel
theorem dX12_init_89 : decode cX12_init 89 = .ok (.aload_n 0, 1) := by decide +kernel
theorem dX12_init_90 : decode cX12_init 90 = .ok (.bipush 10, 2) := by decide +kernel
theorem dX12_init_92 : decode cX12_init 92 = .ok (.newarray .int, 2) := by decide +kernel
theorem dX12_init_94 : decode cX12_init 94 = .ok (.putfield 45, 3) := by decide +kernel
theorem dX12_init_97 : decode cX12_init 97 = .ok (.aload_n 0, 1) := by decide +kernel
theorem dX12_init_98 : decode cX12_init 98 = .ok (.sipush 800, 3) := by decide +kernel
theorem dX12_init_101 : decode cX12_init 101 = .ok (.newarray .int, 2) := by decide +kernel
theorem dX12_init_103 : decode cX12_init 103 = .ok (.putfield 48, 3) := by decide +kernel
theorem dX12_init_106 : decode cX12_init 106 = .ok (.aload_n 0, 1) := by decide +kernel
theorem dX12_init_107 : decode cX12_init 107 = .ok (.sipush 1640, 3) := by decide +kernel
theorem dX12_init_110 : decode cX12_init 110 = .ok (.newarray .int, 2) := by decide +kernel
theorem dX12_init_112 : decode cX12_init 112 = .ok (.putfield 51, 3) := by decide +kernel
theorem dX12_init_115 : decode cX12_init 115 = .ok (.aload_n 0, 1) := by decide +kernel
theorem dX12_init_116 : decode cX12_init 116 = .ok (.bipush 41, 2) := by decide +kernel
theorem dX12_init_118 : decode cX12_init 118 = .ok (.newarray .int, 2) := by decide +kernel
theorem dX12_init_120 : decode cX12_init 120 = .ok (.putfield 54, 3) := by decide +kernel
theorem dX12_init_123 : decode cX12_init 123 = .ok (.aload_n 0, 1) := by decide +kernel
theorem dX12_init_124 : decode cX12_init 124 = .ok (.bipush 41, 2) := by decide +kernel
theorem dX12_init_126 : decode cX12_init 126 = .ok (.newarray .int, 2) := by decide +kernel
theorem dX12_init_128 : decode cX12_init 128 = .ok (.putfield 57, 3) := by decide +kernel
theorem dX12_init_131 : decode cX12_init 131 = .ok (.aload_n 0, 1) := by decide +kernel
theorem dX12_init_132 : decode cX12_init 132 = .ok (.iconst 2, 1) := by decide +kernel
theorem dX12_init_133 : decode cX12_init 133 = .ok (.newarray .int, 2) := by decide +kernel
theorem dX12_init_135 : decode cX12_init 135 = .ok (.putfield 60, 3) := by decide +kernel
theorem dX12_init_138 : decode cX12_init 138 = .ok (.aload_n 0, 1) := by decide +kernel
theorem dX12_init_139 : decode cX12_init 139 = .ok (.sipush 800, 3) := by decide +kernel
theorem dX12_init_142 : decode cX12_init 142 = .ok (.newarray .int, 2) := by decide +kernel
theorem dX12_init_144 : decode cX12_init 144 = .ok (.putfield 63, 3) := by decide +kernel
theorem dX12_init_147 : decode cX12_init 147 = .ok (.aload_n 0, 1) := by decide +kernel
theorem dX12_init_148 : decode cX12_init 148 = .ok (.iconst 2, 1) := by decide +kernel
theorem dX12_init_149 : decode cX12_init 149 = .ok (.newarray .int, 2) := by decide +kernel
theorem dX12_init_151 : decode cX12_init 151 = .ok (.putfield 66, 3) := by decide +kernel
theorem dX12_init_154 : decode cX12_init 154 = .ok (.aload_n 0, 1) := by decide +kernel
theorem dX12_init_155 : decode cX12_init 155 = .ok (.iconst 2, 1) := by decide +kernel
theorem dX12_init_156 : decode cX12_init 156 = .ok (.newarray .int, 2) := by decide +kernel
theorem dX12_init_158 : decode cX12_init 158 = .ok (.putfield 69, 3) := by decide +kernel
theorem dX12_init_161 : decode cX12_init 161 = .ok (.aload_n 0, 1) := by decide +kernel
theorem dX12_init_162 : decode cX12_init 162 = .ok (.iconst 2, 1) := by decide +kernel
theorem dX12_init_163 : decode cX12_init 163 = .ok (.newarray .boolean, 2) := by decide +kernel
theorem dX12_init_165 : decode cX12_init 165 = .ok (.putfield 72, 3) := by decide +kernel
theorem dX12_init_168 : decode cX12_init 168 = .ok (.aload_n 0, 1) := by decide +kernel
theorem dX12_init_169 : decode cX12_init 169 = .ok (.sipush 400, 3) := by decide +kernel
theorem dX12_init_172 : decode cX12_init 172 = .ok (.newarray .int, 2) := by decide +kernel
theorem dX12_init_174 : decode cX12_init 174 = .ok (.putfield 75, 3) := by decide +kernel
theorem dX12_init_177 : decode cX12_init 177 = .ok (.aload_n 0, 1) := by decide +kernel
theorem dX12_init_178 : decode cX12_init 178 = .ok (.sipush 400, 3) := by decide +kernel
theorem dX12_init_181 : decode cX12_init 181 = .ok (.newarray .int, 2) := by decide +kernel
theorem dX12_init_183 : decode cX12_init 183 = .ok (.putfield 78, 3) := by decide +kernel
theorem dX12_init_186 : decode cX12_init 186 = .ok (.aload_n 0, 1) := by decide +kernel
theorem dX12_init_187 : decode cX12_init 187 = .ok (.bipush 60, 2) := by decide +kernel
theorem dX12_init_189 : decode cX12_init 189 = .ok (.newarray .int, 2) := by decide +kernel
theorem dX12_init_191 : decode cX12_init 191 = .ok (.putfield 81, 3) := by decide +kernel
theorem dX12_init_194 : decode cX12_init 194 = .ok (.aload_n 0, 1) := by decide +kernel
theorem dX12_init_195 : decode cX12_init 195 = .ok (.bipush 40, 2) := by decide +kernel
theorem dX12_init_197 : decode cX12_init 197 = .ok (.newarray .int, 2) := by decide +kernel
theorem dX12_init_199 : decode cX12_init 199 = .ok (.putfield 84, 3) := by decide +kernel
theorem dX12_init_202 : decode cX12_init 202 = .ok (.iconst 0, 1) := by decide +kernel
theorem dX12_init_203 : decode cX12_init 203 = .ok (.istore_n 1, 1) := by decide +kernel
theorem dX12_init_204 : decode cX12_init 204 = .ok (.iload_n 1, 1) := by decide +kernel
theorem dX12_init_205 : decode cX12_init 205 = .ok (.bipush 10, 2) := by decide +kernel
theorem dX12_init_207 : decode cX12_init 207 = .ok (.if_icmp .ge 23, 3) := by decide +kernel
theorem dX12_init_210 : decode cX12_init 210 = .ok (.aload_n 0, 1) := by decide +kernel
theorem dX12_init_211 : decode cX12_init 211 = .ok (.getfield 16, 3) := by decide +kernel
theorem dX12_init_214 : decode cX12_init 214 = .ok (.iload_n 1, 1) := by decide +kernel
theorem dX12_init_215 : decode cX12_init 215 = .ok (.iconst (-1), 1) := by decide +kernel
theorem dX12_init_216 : decode cX12_init 216 = .ok (.iastore, 1) := by decide +kernel
theorem dX12_init_217 : decode cX12_init 217 = .ok (.aload_n 0, 1) := by decide +kernel
theorem dX12_init_218 : decode cX12_init 218 = .ok (.getfield 45, 3) := by decide +kernel
theorem dX12_init_221 : decode cX12_init 221 = .ok (.iload_n 1, 1) := by decide +kernel
theorem dX12_init_222 : decode cX12_init 222 = .ok (.iconst (-1), 1) := by decide +kernel
theorem dX12_init_223 : decode cX12_init 223 = .ok (.iastore, 1) := by decide +kernel
theorem dX12_init_224 : decode cX12_init 224 = .ok (.iinc 1 1, 3) := by decide +kernel
theorem dX12_init_227 : decode cX12_init 227 = .ok (.goto (-23), 3) := by decide +kernel
theorem dX12_init_230 : decode cX12_init 230 = .ok (.return_, 1) := by decide +kernel
theorem dX12_isPoint_0 : decode cX12_isPoint 0 = .ok (.iload_n 0, 1) := by decide +kernel
theorem dX12_isPoint_1 : decode cX12_isPoint 1 = .ok (.ifCond .lt 13, 3) := by decide +kernel
theorem dX12_isPoint_4 : decode cX12_isPoint 4 = .ok (.iload_n 0, 1) := by decide +kernel
theorem dX12_isPoint_5 : decode cX12_isPoint 5 = .ok (.bipush 10, 2) := by decide +kernel
theorem dX12_isPoint_7 : decode cX12_isPoint 7 = .ok (.if_icmp .ge 7, 3) := by decide +kernel
theorem dX12_isPoint_10 : decode cX12_isPoint 10 = .ok (.iconst 1, 1) := by decide +kernel
theorem dX12_isPoint_11 : decode cX12_isPoint 11 = .ok (.goto 4, 3) := by decide +kernel
theorem dX12_isPoint_14 : decode cX12_isPoint 14 = .ok (.iconst 0, 1) := by decide +kernel
theorem dX12_isPoint_15 : decode cX12_isPoint 15 = .ok (.ireturn, 1) := by decide +kernel
theorem dX12_checkOf_0 : decode cX12_checkOf 0 = .ok (.iconst 0, 1) := by decide +kernel
theorem dX12_checkOf_1 : decode cX12_checkOf 1 = .ok (.istore_n 3, 1) := by decide +kernel
theorem dX12_checkOf_2 : decode cX12_checkOf 2 = .ok (.iload_n 1, 1) := by decide +kernel
theorem dX12_checkOf_3 : decode cX12_checkOf 3 = .ok (.istore 4, 2) := by decide +kernel
theorem dX12_checkOf_5 : decode cX12_checkOf 5 = .ok (.iload 4, 2) := by decide +kernel
theorem dX12_checkOf_7 : decode cX12_checkOf 7 = .ok (.iload_n 1, 1) := by decide +kernel
theorem dX12_checkOf_8 : decode cX12_checkOf 8 = .ok (.iload_n 2, 1) := by decide +kernel
theorem dX12_checkOf_9 : decode cX12_checkOf 9 = .ok (.iadd, 1) := by decide +kernel
theorem dX12_checkOf_10 : decode cX12_checkOf 10 = .ok (.if_icmp .ge 55, 3) := by decide +kernel
theorem dX12_checkOf_13 : decode cX12_checkOf 13 = .ok (.iload_n 3, 1) := by decide +kernel
theorem dX12_checkOf_14 : decode cX12_checkOf 14 = .ok (.aload_n 0, 1) := by decide +kernel
theorem dX12_checkOf_15 : decode cX12_checkOf 15 = .ok (.getfield 51, 3) := by decide +kernel
theorem dX12_checkOf_18 : decode cX12_checkOf 18 = .ok (.iload 4, 2) := by decide +kernel
theorem dX12_checkOf_20 : decode cX12_checkOf 20 = .ok (.iaload, 1) := by decide +kernel
theorem dX12_checkOf_21 : decode cX12_checkOf 21 = .ok (.ixor, 1) := by decide +kernel
theorem dX12_checkOf_22 : decode cX12_checkOf 22 = .ok (.istore_n 3, 1) := by decide +kernel
theorem dX12_checkOf_23 : decode cX12_checkOf 23 = .ok (.iconst 0, 1) := by decide +kernel
theorem dX12_checkOf_24 : decode cX12_checkOf 24 = .ok (.istore 5, 2) := by decide +kernel
theorem dX12_checkOf_26 : decode cX12_checkOf 26 = .ok (.iload 5, 2) := by decide +kernel
theorem dX12_checkOf_28 : decode cX12_checkOf 28 = .ok (.bipush 8, 2) := by decide +kernel
theorem dX12_checkOf_30 : decode cX12_checkOf 30 = .ok (.if_icmp .ge 29, 3) := by decide +kernel
theorem dX12_checkOf_33 : decode cX12_checkOf 33 = .ok (.iload_n 3, 1) := by decide +kernel
theorem dX12_checkOf_34 : decode cX12_checkOf 34 = .ok (.iconst 1, 1) := by decide +kernel
theorem dX12_checkOf_35 : decode cX12_checkOf 35 = .ok (.iand, 1) := by decide +kernel
theorem dX12_checkOf_36 : decode cX12_checkOf 36 = .ok (.iconst 1, 1) := by decide +kernel
theorem dX12_checkOf_37 : decode cX12_checkOf 37 = .ok (.if_icmp .ne 12, 3) := by decide +kernel
theorem dX12_checkOf_40 : decode cX12_checkOf 40 = .ok (.iload_n 3, 1) := by decide +kernel
theorem dX12_checkOf_41 : decode cX12_checkOf 41 = .ok (.iconst 1, 1) := by decide +kernel
theorem dX12_checkOf_42 : decode cX12_checkOf 42 = .ok (.ishr, 1) := by decide +kernel
theorem dX12_checkOf_43 : decode cX12_checkOf 43 = .ok (.ldc 87, 2) := by decide +kernel
theorem dX12_checkOf_45 : decode cX12_checkOf 45 = .ok (.ixor, 1) := by decide +kernel
theorem dX12_checkOf_46 : decode cX12_checkOf 46 = .ok (.goto 6, 3) := by decide +kernel
theorem dX12_checkOf_49 : decode cX12_checkOf 49 = .ok (.iload_n 3, 1) := by decide +kernel
theorem dX12_checkOf_50 : decode cX12_checkOf 50 = .ok (.iconst 1, 1) := by decide +kernel
theorem dX12_checkOf_51 : decode cX12_checkOf 51 = .ok (.ishr, 1) := by decide +kernel
theorem dX12_checkOf_52 : decode cX12_checkOf 52 = .ok (.istore_n 3, 1) := by decide +kernel
theorem dX12_checkOf_53 : decode cX12_checkOf 53 = .ok (.iinc 5 1, 3) := by decide +kernel
theorem dX12_checkOf_56 : decode cX12_checkOf 56 = .ok (.goto (-30), 3) := by decide +kernel
theorem dX12_checkOf_59 : decode cX12_checkOf 59 = .ok (.iinc 4 1, 3) := by decide +kernel
theorem dX12_checkOf_62 : decode cX12_checkOf 62 = .ok (.goto (-57), 3) := by decide +kernel
theorem dX12_checkOf_65 : decode cX12_checkOf 65 = .ok (.iload_n 3, 1) := by decide +kernel
theorem dX12_checkOf_66 : decode cX12_checkOf 66 = .ok (.ldc 88, 2) := by decide +kernel
theorem dX12_checkOf_68 : decode cX12_checkOf 68 = .ok (.ixor, 1) := by decide +kernel
theorem dX12_checkOf_69 : decode cX12_checkOf 69 = .ok (.ireturn, 1) := by decide +kernel
theorem dX12_removeFrame_0 : decode cX12_removeFrame 0 = .ok (.aload_n 0, 1) := by decide +kernel
theorem dX12_removeFrame_1 : decode cX12_removeFrame 1 = .ok (.dup, 1) := by decide +kernel
theorem dX12_removeFrame_2 : decode cX12_removeFrame 2 = .ok (.getfield 89, 3) := by decide +kernel
theorem dX12_removeFrame_5 : decode cX12_removeFrame 5 = .ok (.iconst 1, 1) := by decide +kernel
theorem dX12_removeFrame_6 : decode cX12_removeFrame 6 = .ok (.isub, 1) := by decide +kernel
theorem dX12_removeFrame_7 : decode cX12_removeFrame 7 = .ok (.putfield 89, 3) := by decide +kernel
theorem dX12_removeFrame_10 : decode cX12_removeFrame 10 = .ok (.iload_n 1, 1) := by decide +kernel
theorem dX12_removeFrame_11 : decode cX12_removeFrame 11 = .ok (.istore_n 2, 1) := by decide +kernel
theorem dX12_removeFrame_12 : decode cX12_removeFrame 12 = .ok (.iload_n 2, 1) := by decide +kernel
theorem dX12_removeFrame_13 : decode cX12_removeFrame 13 = .ok (.aload_n 0, 1) := by decide +kernel
theorem dX12_removeFrame_14 : decode cX12_removeFrame 14 = .ok (.getfield 89, 3) := by decide +kernel
theorem dX12_removeFrame_17 : decode cX12_removeFrame 17 = .ok (.if_icmp .ge 75, 3) := by decide +kernel
theorem dX12_removeFrame_20 : decode cX12_removeFrame 20 = .ok (.iconst 0, 1) := by decide +kernel
theorem dX12_removeFrame_21 : decode cX12_removeFrame 21 = .ok (.istore_n 3, 1) := by decide +kernel
theorem dX12_removeFrame_22 : decode cX12_removeFrame 22 = .ok (.iload_n 3, 1) := by decide +kernel
theorem dX12_removeFrame_23 : decode cX12_removeFrame 23 = .ok (.bipush 40, 2) := by decide +kernel
theorem dX12_removeFrame_25 : decode cX12_removeFrame 25 = .ok (.if_icmp .ge 33, 3) := by decide +kernel
theorem dX12_removeFrame_28 : decode cX12_removeFrame 28 = .ok (.aload_n 0, 1) := by decide +kernel
theorem dX12_removeFrame_29 : decode cX12_removeFrame 29 = .ok (.getfield 51, 3) := by decide +kernel
theorem dX12_removeFrame_32 : decode cX12_removeFrame 32 = .ok (.bipush 40, 2) := by decide +kernel
theorem dX12_removeFrame_34 : decode cX12_removeFrame 34 = .ok (.iload_n 2, 1) := by decide +kernel
theorem dX12_removeFrame_35 : decode cX12_removeFrame 35 = .ok (.imul, 1) := by decide +kernel
theorem dX12_removeFrame_36 : decode cX12_removeFrame 36 = .ok (.iload_n 3, 1) := by decide +kernel
theorem dX12_removeFrame_37 : decode cX12_removeFrame 37 = .ok (.iadd, 1) := by decide +kernel
theorem dX12_removeFrame_38 : decode cX12_removeFrame 38 = .ok (.aload_n 0, 1) := by decide +kernel
theorem dX12_removeFrame_39 : decode cX12_removeFrame 39 = .ok (.getfield 51, 3) := by decide +kernel
theorem dX12_removeFrame_42 : decode cX12_removeFrame 42 = .ok (.bipush 40, 2) := by decide +kernel
theorem dX12_removeFrame_44 : decode cX12_removeFrame 44 = .ok (.iload_n 2, 1) := by decide +kernel
theorem dX12_removeFrame_45 : decode cX12_removeFrame 45 = .ok (.iconst 1, 1) := by decide +kernel
theorem dX12_removeFrame_46 : decode cX12_removeFrame 46 = .ok (.iadd, 1) := by decide +kernel
theorem dX12_removeFrame_47 : decode cX12_removeFrame 47 = .ok (.imul, 1) := by decide +kernel
theorem dX12_removeFrame_48 : decode cX12_removeFrame 48 = .ok (.iload_n 3, 1) := by decide +kernel
theorem dX12_removeFrame_49 : decode cX12_removeFrame 49 = .ok (.iadd, 1) := by decide +kernel
theorem dX12_removeFrame_50 : decode cX12_removeFrame 50 = .ok (.iaload, 1) := by decide +kernel
theorem dX12_removeFrame_51 : decode cX12_removeFrame 51 = .ok (.iastore, 1) := by decide +kernel
theorem dX12_removeFrame_52 : decode cX12_removeFrame 52 = .ok (.iinc 3 1, 3) := by decide +kernel
theorem dX12_removeFrame_55 : decode cX12_removeFrame 55 = .ok (.goto (-33), 3) := by decide +kernel
theorem dX12_removeFrame_58 : decode cX12_removeFrame 58 = .ok (.aload_n 0, 1) := by decide +kernel
theorem dX12_removeFrame_59 : decode cX12_removeFrame 59 = .ok (.getfield 54, 3) := by decide +kernel
theorem dX12_removeFrame_62 : decode cX12_removeFrame 62 = .ok (.iload_n 2, 1) := by decide +kernel
theorem dX12_removeFrame_63 : decode cX12_removeFrame 63 = .ok (.aload_n 0, 1) := by decide +kernel
theorem dX12_removeFrame_64 : decode cX12_removeFrame 64 = .ok (.getfield 54, 3) := by decide +kernel
theorem dX12_removeFrame_67 : decode cX12_removeFrame 67 = .ok (.iload_n 2, 1) := by decide +kernel
theorem dX12_removeFrame_68 : decode cX12_removeFrame 68 = .ok (.iconst 1, 1) := by decide +kernel
theorem dX12_removeFrame_69 : decode cX12_removeFrame 69 = .ok (.iadd, 1) := by decide +kernel
theorem dX12_removeFrame_70 : decode cX12_removeFrame 70 = .ok (.iaload, 1) := by decide +kernel
theorem dX12_removeFrame_71 : decode cX12_removeFrame 71 = .ok (.iastore, 1) := by decide +kernel
theorem dX12_removeFrame_72 : decode cX12_removeFrame 72 = .ok (.aload_n 0, 1) := by decide +kernel
theorem dX12_removeFrame_73 : decode cX12_removeFrame 73 = .ok (.getfield 57, 3) := by decide +kernel
theorem dX12_removeFrame_76 : decode cX12_removeFrame 76 = .ok (.iload_n 2, 1) := by decide +kernel
theorem dX12_removeFrame_77 : decode cX12_removeFrame 77 = .ok (.aload_n 0, 1) := by decide +kernel
theorem dX12_removeFrame_78 : decode cX12_removeFrame 78 = .ok (.getfield 57, 3) := by decide +kernel
theorem dX12_removeFrame_81 : decode cX12_removeFrame 81 = .ok (.iload_n 2, 1) := by decide +kernel
theorem dX12_removeFrame_82 : decode cX12_removeFrame 82 = .ok (.iconst 1, 1) := by decide +kernel
theorem dX12_removeFrame_83 : decode cX12_removeFrame 83 = .ok (.iadd, 1) := by decide +kernel
theorem dX12_removeFrame_84 : decode cX12_removeFrame 84 = .ok (.iaload, 1) := by decide +kernel
theorem dX12_removeFrame_85 : decode cX12_removeFrame 85 = .ok (.iastore, 1) := by decide +kernel
theorem dX12_removeFrame_86 : decode cX12_removeFrame 86 = .ok (.iinc 2 1, 3) := by decide +kernel
theorem dX12_removeFrame_89 : decode cX12_removeFrame 89 = .ok (.goto (-77), 3) := by decide +kernel
theorem dX12_removeFrame_92 : decode cX12_removeFrame 92 = .ok (.return_, 1) := by decide +kernel
theorem dX12_putByte_0 : decode cX12_putByte 0 = .ok (.aload_n 0, 1) := by decide +kernel
theorem dX12_putByte_1 : decode cX12_putByte 1 = .ok (.getfield 51, 3) := by decide +kernel
theorem dX12_putByte_4 : decode cX12_putByte 4 = .ok (.bipush 40, 2) := by decide +kernel
theorem dX12_putByte_6 : decode cX12_putByte 6 = .ok (.aload_n 0, 1) := by decide +kernel
theorem dX12_putByte_7 : decode cX12_putByte 7 = .ok (.getfield 89, 3) := by decide +kernel
theorem dX12_putByte_10 : decode cX12_putByte 10 = .ok (.imul, 1) := by decide +kernel
theorem dX12_putByte_11 : decode cX12_putByte 11 = .ok (.aload_n 0, 1) := by decide +kernel
theorem dX12_putByte_12 : decode cX12_putByte 12 = .ok (.getfield 54, 3) := by decide +kernel
theorem dX12_putByte_15 : decode cX12_putByte 15 = .ok (.aload_n 0, 1) := by decide +kernel
theorem dX12_putByte_16 : decode cX12_putByte 16 = .ok (.getfield 89, 3) := by decide +kernel
theorem dX12_putByte_19 : decode cX12_putByte 19 = .ok (.iaload, 1) := by decide +kernel
theorem dX12_putByte_20 : decode cX12_putByte 20 = .ok (.iadd, 1) := by decide +kernel
theorem dX12_putByte_21 : decode cX12_putByte 21 = .ok (.iload_n 1, 1) := by decide +kernel
theorem dX12_putByte_22 : decode cX12_putByte 22 = .ok (.sipush 255, 3) := by decide +kernel
theorem dX12_putByte_25 : decode cX12_putByte 25 = .ok (.iand, 1) := by decide +kernel
theorem dX12_putByte_26 : decode cX12_putByte 26 = .ok (.iastore, 1) := by decide +kernel
theorem dX12_putByte_27 : decode cX12_putByte 27 = .ok (.aload_n 0, 1) := by decide +kernel
theorem dX12_putByte_28 : decode cX12_putByte 28 = .ok (.getfield 54, 3) := by decide +kernel
theorem dX12_putByte_31 : decode cX12_putByte 31 = .ok (.aload_n 0, 1) := by decide +kernel
theorem dX12_putByte_32 : decode cX12_putByte 32 = .ok (.getfield 89, 3) := by decide +kernel
theorem dX12_putByte_35 : decode cX12_putByte 35 = .ok (.dup2, 1) := by decide +kernel
theorem dX12_putByte_36 : decode cX12_putByte 36 = .ok (.iaload, 1) := by decide +kernel
theorem dX12_putByte_37 : decode cX12_putByte 37 = .ok (.iconst 1, 1) := by decide +kernel
theorem dX12_putByte_38 : decode cX12_putByte 38 = .ok (.iadd, 1) := by decide +kernel
theorem dX12_putByte_39 : decode cX12_putByte 39 = .ok (.iastore, 1) := by decide +kernel
theorem dX12_putByte_40 : decode cX12_putByte 40 = .ok (.return_, 1) := by decide +kernel
set_option maxRecDepth 20000 in
theorem ggX12_putCheck_X12_checkOf : GoodIn wsX12_putCheck wsX12_checkOf := goodIn_r _ [7, 8, 9, 10, 15, 16, 17, 18, 19, 20, 21, 22, 23, 24, 25, 26, 27, 28, 29, 30, 31, 32, 33, 34, 35, 36, 37, 38, 39, 40, 41, 42, 43, 44, 45, 46, 47, 48, 49, 50, 51, 52, 53, 54, 55, 56, 57, 58, 59, 60, 61] (by decide +kernel) (by decide +kernel)
set_option maxRecDepth 20000 in
theorem gX12_putCheck_X12_checkOf : GoodIn wsX12_putCheck (wsV RX12 93 RX12 yX12_checkOf wsX12_checkOf) := goodIn_app (goodIn_of _ (by decide +kernel)) ggX12_putCheck_X12_checkOf
set_option maxRecDepth 20000 in
theorem ggX12_putCheck_X12_putByte : GoodIn wsX12_putCheck wsX12_putByte := goodIn_r _ [14, 8, 1, 2, 15, 16, 17, 18, 19, 20, 21, 22, 23, 24, 25, 26, 27, 28, 29, 30, 31, 32, 33, 34, 35, 36, 37, 38, 39, 40, 41, 42, 43, 44, 45, 46, 47, 48, 49, 50, 51, 52, 53, 54, 55, 56, 57, 58, 59, 60, 61] (by decide +kernel) (by decide +kernel)
set_option maxRecDepth 20000 in
theorem gX12_putCheck_X12_putByte : GoodIn wsX12_putCheck (wsV RX12 97 RX12 yX12_putByte wsX12_putByte) := goodIn_app (goodIn_of _ (by decide +kernel)) ggX12_putCheck_X12_putByte
theorem dX12_putCheck_0 : decode cX12_putCheck 0 = .ok (.aload_n 0, 1) := by decide +kernel
theorem dX12_putCheck_1 : decode cX12_putCheck 1 = .ok (.bipush 40, 2) := by decide +kernel
theorem dX12_putCheck_3 : decode cX12_putCheck 3 = .ok (.aload_n 0, 1) := by decide +kernel
theorem dX12_putCheck_4 : decode cX12_putCheck 4 = .ok (.getfield 89, 3) := by decide +kernel
theorem dX12_putCheck_7 : decode cX12_putCheck 7 = .ok (.imul, 1) := by decide +kernel
theorem dX12_putCheck_8 : decode cX12_putCheck 8 = .ok (.aload_n 0, 1) := by decide +kernel
theorem dX12_putCheck_9 : decode cX12_putCheck 9 = .ok (.getfield 54, 3) := by decide +kernel
theorem dX12_putCheck_12 : decode cX12_putCheck 12 = .ok (.aload_n 0, 1) := by decide +kernel
theorem dX12_putCheck_13 : decode cX12_putCheck 13 = .ok (.getfield 89, 3) := by decide +kernel
theorem dX12_putCheck_16 : decode cX12_putCheck 16 = .ok (.iaload, 1) := by decide +kernel
theorem dX12_putCheck_17 : decode cX12_putCheck 17 = .ok (.iadd, 1) := by decide +kernel
theorem dX12_putCheck_18 : decode cX12_putCheck 18 = .ok (.iload_n 1, 1) := by decide +kernel
theorem dX12_putCheck_19 : decode cX12_putCheck 19 = .ok (.isub, 1) := by decide +kernel
theorem dX12_putCheck_20 : decode cX12_putCheck 20 = .ok (.iload_n 1, 1) := by decide +kernel
theorem dX12_putCheck_21 : decode cX12_putCheck 21 = .ok (.invokevirtual 93, 3) := by decide +kernel
theorem dX12_putCheck_24 : decode cX12_putCheck 24 = .ok (.istore_n 2, 1) := by decide +kernel
theorem dX12_putCheck_25 : decode cX12_putCheck 25 = .ok (.aload_n 0, 1) := by decide +kernel
theorem dX12_putCheck_26 : decode cX12_putCheck 26 = .ok (.iload_n 2, 1) := by decide +kernel
theorem dX12_putCheck_27 : decode cX12_putCheck 27 = .ok (.invokevirtual 97, 3) := by decide +kernel
theorem dX12_putCheck_30 : decode cX12_putCheck 30 = .ok (.aload_n 0, 1) := by decide +kernel
theorem dX12_putCheck_31 : decode cX12_putCheck 31 = .ok (.iload_n 2, 1) := by decide +kernel
theorem dX12_putCheck_32 : decode cX12_putCheck 32 = .ok (.bipush 8, 2) := by decide +kernel
theorem dX12_putCheck_34 : decode cX12_putCheck 34 = .ok (.ishr, 1) := by decide +kernel
theorem dX12_putCheck_35 : decode cX12_putCheck 35 = .ok (.invokevirtual 97, 3) := by decide +kernel
theorem dX12_putCheck_38 : decode cX12_putCheck 38 = .ok (.return_, 1) := by decide +kernel
set_option maxRecDepth 20000 in
theorem ggX12_fly_X12_putByte : GoodIn wsX12_fly wsX12_putByte := goodIn_r _ [11, 12, 2, 1, 27, 28, 29, 30, 31, 32, 33, 34, 35, 36, 37, 38, 39, 40, 41, 42, 43, 44, 45, 46, 47, 48, 49, 50, 51, 52, 53, 54, 55, 56, 57, 58, 59, 60, 61, 62, 63, 64, 65, 66, 67, 68, 69, 70, 71, 72, 73] (by decide +kernel) (by decide +kernel)
set_option maxRecDepth 20000 in
theorem gX12_fly_X12_putByte : GoodIn wsX12_fly (wsV RX12 97 RX12 yX12_putByte wsX12_putByte) := goodIn_app (goodIn_of _ (by decide +kernel)) ggX12_fly_X12_putByte
set_option maxRecDepth 20000 in
theorem ggX12_fly_X12_putCheck : GoodIn wsX12_fly wsX12_putCheck := goodIn_r _ [16, 2, 1, 17, 18, 19, 10, 20, 12, 21, 22, 7, 8, 9, 11, 27, 28, 29, 30, 31, 32, 33, 34, 35, 36, 37, 38, 39, 40, 41, 42, 43, 44, 45, 46, 47, 48, 49, 50, 51, 52, 53, 54, 55, 56, 57, 58, 59, 60, 61, 62, 63, 64, 65, 66, 67, 68, 69, 70, 71, 72, 73] (by decide +kernel) (by decide +kernel)
set_option maxRecDepth 20000 in
theorem gX12_fly_X12_putCheck : GoodIn wsX12_fly (wsV RX12 101 RX12 yX12_putCheck wsX12_putCheck) := goodIn_app (goodIn_of _ (by decide +kernel)) ggX12_fly_X12_putCheck
set_option maxRecDepth 20000 in
theorem ggX12_fly_X12_removeFrame : GoodIn wsX12_fly wsX12_removeFrame := goodIn_r _ [26, 2, 12, 1, 3, 27, 28, 29, 30, 31, 32, 33, 34, 35, 36, 37, 38, 39, 40, 41, 42, 43, 44, 45, 46, 47, 48, 49, 50, 51, 52, 53, 54, 55, 56, 57, 58, 59, 60, 61, 62, 63, 64, 65, 66, 67, 68, 69, 70, 71, 72, 73] (by decide +kernel) (by decide +kernel)
set_option maxRecDepth 20000 in
theorem gX12_fly_X12_removeFrame : GoodIn wsX12_fly (wsV RX12 107 RX12 yX12_removeFrame wsX12_removeFrame) := goodIn_app (goodIn_of _ (by decide +kernel)) ggX12_fly_X12_removeFrame
theorem dX12_fly_0 : decode cX12_fly 0 = .ok (.aload_n 0, 1) := by decide +kernel
theorem dX12_fly_1 : decode cX12_fly 1 = .ok (.getfield 54, 3) := by decide +kernel
theorem dX12_fly_4 : decode cX12_fly 4 = .ok (.aload_n 0, 1) := by decide +kernel
theorem dX12_fly_5 : decode cX12_fly 5 = .ok (.getfield 89, 3) := by decide +kernel
theorem dX12_fly_8 : decode cX12_fly 8 = .ok (.iconst 0, 1) := by decide +kernel
theorem dX12_fly_9 : decode cX12_fly 9 = .ok (.iastore, 1) := by decide +kernel
theorem dX12_fly_10 : decode cX12_fly 10 = .ok (.aload_n 0, 1) := by decide +kernel
theorem dX12_fly_11 : decode cX12_fly 11 = .ok (.getfield 57, 3) := by decide +kernel
theorem dX12_fly_14 : decode cX12_fly 14 = .ok (.aload_n 0, 1) := by decide +kernel
theorem dX12_fly_15 : decode cX12_fly 15 = .ok (.getfield 89, 3) := by decide +kernel
theorem dX12_fly_18 : decode cX12_fly 18 = .ok (.iload_n 1, 1) := by decide +kernel
theorem dX12_fly_19 : decode cX12_fly 19 = .ok (.iastore, 1) := by decide +kernel
theorem dX12_fly_20 : decode cX12_fly 20 = .ok (.aload_n 0, 1) := by decide +kernel
theorem dX12_fly_21 : decode cX12_fly 21 = .ok (.iconst 5, 1) := by decide +kernel
theorem dX12_fly_22 : decode cX12_fly 22 = .ok (.invokevirtual 97, 3) := by decide +kernel
theorem dX12_fly_25 : decode cX12_fly 25 = .ok (.aload_n 0, 1) := by decide +kernel
theorem dX12_fly_26 : decode cX12_fly 26 = .ok (.bipush 100, 2) := by decide +kernel
theorem dX12_fly_28 : decode cX12_fly 28 = .ok (.invokevirtual 97, 3) := by decide +kernel
theorem dX12_fly_31 : decode cX12_fly 31 = .ok (.aload_n 0, 1) := by decide +kernel
theorem dX12_fly_32 : decode cX12_fly 32 = .ok (.bipush 6, 2) := by decide +kernel
theorem dX12_fly_34 : decode cX12_fly 34 = .ok (.iload_n 3, 1) := by decide +kernel
theorem dX12_fly_35 : decode cX12_fly 35 = .ok (.iadd, 1) := by decide +kernel
theorem dX12_fly_36 : decode cX12_fly 36 = .ok (.invokevirtual 97, 3) := by decide +kernel
theorem dX12_fly_39 : decode cX12_fly 39 = .ok (.aload_n 0, 1) := by decide +kernel
theorem dX12_fly_40 : decode cX12_fly 40 = .ok (.iload_n 1, 1) := by decide +kernel
theorem dX12_fly_41 : decode cX12_fly 41 = .ok (.iconst 1, 1) := by decide +kernel
theorem dX12_fly_42 : decode cX12_fly 42 = .ok (.if_icmp .ne 9, 3) := by decide +kernel
theorem dX12_fly_45 : decode cX12_fly 45 = .ok (.sipush 196, 3) := by decide +kernel
theorem dX12_fly_48 : decode cX12_fly 48 = .ok (.goto 5, 3) := by decide +kernel
theorem dX12_fly_51 : decode cX12_fly 51 = .ok (.bipush 68, 2) := by decide +kernel
theorem dX12_fly_53 : decode cX12_fly 53 = .ok (.invokevirtual 97, 3) := by decide +kernel
theorem dX12_fly_56 : decode cX12_fly 56 = .ok (.aload_n 0, 1) := by decide +kernel
theorem dX12_fly_57 : decode cX12_fly 57 = .ok (.iconst 1, 1) := by decide +kernel
theorem dX12_fly_58 : decode cX12_fly 58 = .ok (.iload_n 1, 1) := by decide +kernel
theorem dX12_fly_59 : decode cX12_fly 59 = .ok (.iadd, 1) := by decide +kernel
theorem dX12_fly_60 : decode cX12_fly 60 = .ok (.invokevirtual 97, 3) := by decide +kernel
theorem dX12_fly_63 : decode cX12_fly 63 = .ok (.aload_n 0, 1) := by decide +kernel
theorem dX12_fly_64 : decode cX12_fly 64 = .ok (.iconst 0, 1) := by decide +kernel
theorem dX12_fly_65 : decode cX12_fly 65 = .ok (.invokevirtual 97, 3) := by decide +kernel
theorem dX12_fly_68 : decode cX12_fly 68 = .ok (.aload_n 0, 1) := by decide +kernel
theorem dX12_fly_69 : decode cX12_fly 69 = .ok (.iconst 2, 1) := by decide +kernel
theorem dX12_fly_70 : decode cX12_fly 70 = .ok (.iload_n 1, 1) := by decide +kernel
theorem dX12_fly_71 : decode cX12_fly 71 = .ok (.isub, 1) := by decide +kernel
theorem dX12_fly_72 : decode cX12_fly 72 = .ok (.invokevirtual 97, 3) := by decide +kernel
theorem dX12_fly_75 : decode cX12_fly 75 = .ok (.aload_n 0, 1) := by decide +kernel
theorem dX12_fly_76 : decode cX12_fly 76 = .ok (.iconst 0, 1) := by decide +kernel
theorem dX12_fly_77 : decode cX12_fly 77 = .ok (.invokevirtual 97, 3) := by decide +kernel
theorem dX12_fly_80 : decode cX12_fly 80 = .ok (.aload_n 0, 1) := by decide +kernel
theorem dX12_fly_81 : decode cX12_fly 81 = .ok (.bipush 8, 2) := by decide +kernel
theorem dX12_fly_83 : decode cX12_fly 83 = .ok (.invokevirtual 101, 3) := by decide +kernel
theorem dX12_fly_86 : decode cX12_fly 86 = .ok (.iload_n 2, 1) := by decide +kernel
theorem dX12_fly_87 : decode cX12_fly 87 = .ok (.iload_n 3, 1) := by decide +kernel
theorem dX12_fly_88 : decode cX12_fly 88 = .ok (.iadd, 1) := by decide +kernel
theorem dX12_fly_89 : decode cX12_fly 89 = .ok (.aload_n 0, 1) := by decide +kernel
theorem dX12_fly_90 : decode cX12_fly 90 = .ok (.getfield 104, 3) := by decide +kernel
theorem dX12_fly_93 : decode cX12_fly 93 = .ok (.if_icmp .ne 7, 3) := by decide +kernel
theorem dX12_fly_96 : decode cX12_fly 96 = .ok (.iconst 1, 1) := by decide +kernel
theorem dX12_fly_97 : decode cX12_fly 97 = .ok (.goto 4, 3) := by decide +kernel
theorem dX12_fly_100 : decode cX12_fly 100 = .ok (.iconst 0, 1) := by decide +kernel
theorem dX12_fly_101 : decode cX12_fly 101 = .ok (.istore 4, 2) := by decide +kernel
theorem dX12_fly_103 : decode cX12_fly 103 = .ok (.iconst 1, 1) := by decide +kernel
theorem dX12_fly_104 : decode cX12_fly 104 = .ok (.iload_n 1, 1) := by decide +kernel
theorem dX12_fly_105 : decode cX12_fly 105 = .ok (.isub, 1) := by decide +kernel
theorem dX12_fly_106 : decode cX12_fly 106 = .ok (.istore 5, 2) := by decide +kernel
theorem dX12_fly_108 : decode cX12_fly 108 = .ok (.aload_n 0, 1) := by decide +kernel
theorem dX12_fly_109 : decode cX12_fly 109 = .ok (.iload 4, 2) := by decide +kernel
theorem dX12_fly_111 : decode cX12_fly 111 = .ok (.ifCond .eq 9, 3) := by decide +kernel
theorem dX12_fly_114 : decode cX12_fly 114 = .ok (.sipush 128, 3) := by decide +kernel
theorem dX12_fly_117 : decode cX12_fly 117 = .ok (.goto 4, 3) := by decide +kernel
theorem dX12_fly_120 : decode cX12_fly 120 = .ok (.iconst 0, 1) := by decide +kernel
theorem dX12_fly_121 : decode cX12_fly 121 = .ok (.iload_n 2, 1) := by decide +kernel
theorem dX12_fly_122 : decode cX12_fly 122 = .ok (.ifCond .ne 8, 3) := by decide +kernel
theorem dX12_fly_125 : decode cX12_fly 125 = .ok (.bipush 64, 2) := by decide +kernel
theorem dX12_fly_127 : decode cX12_fly 127 = .ok (.goto 4, 3) := by decide +kernel
theorem dX12_fly_130 : decode cX12_fly 130 = .ok (.iconst 0, 1) := by decide +kernel
theorem dX12_fly_131 : decode cX12_fly 131 = .ok (.iadd, 1) := by decide +kernel
theorem dX12_fly_132 : decode cX12_fly 132 = .ok (.aload_n 0, 1) := by decide +kernel
theorem dX12_fly_133 : decode cX12_fly 133 = .ok (.getfield 60, 3) := by decide +kernel
theorem dX12_fly_136 : decode cX12_fly 136 = .ok (.iload 5, 2) := by decide +kernel
theorem dX12_fly_138 : decode cX12_fly 138 = .ok (.iaload, 1) := by decide +kernel
theorem dX12_fly_139 : decode cX12_fly 139 = .ok (.iadd, 1) := by decide +kernel
theorem dX12_fly_140 : decode cX12_fly 140 = .ok (.invokevirtual 97, 3) := by decide +kernel
theorem dX12_fly_143 : decode cX12_fly 143 = .ok (.aload_n 0, 1) := by decide +kernel
theorem dX12_fly_144 : decode cX12_fly 144 = .ok (.getfield 60, 3) := by decide +kernel
theorem dX12_fly_147 : decode cX12_fly 147 = .ok (.iload 5, 2) := by decide +kernel
theorem dX12_fly_149 : decode cX12_fly 149 = .ok (.aload_n 0, 1) := by decide +kernel
theorem dX12_fly_150 : decode cX12_fly 150 = .ok (.getfield 60, 3) := by decide +kernel
theorem dX12_fly_153 : decode cX12_fly 153 = .ok (.iload 5, 2) := by decide +kernel
theorem dX12_fly_155 : decode cX12_fly 155 = .ok (.iaload, 1) := by decide +kernel
theorem dX12_fly_156 : decode cX12_fly 156 = .ok (.iconst 1, 1) := by decide +kernel
theorem dX12_fly_157 : decode cX12_fly 157 = .ok (.iadd, 1) := by decide +kernel
theorem dX12_fly_158 : decode cX12_fly 158 = .ok (.bipush 64, 2) := by decide +kernel
theorem dX12_fly_160 : decode cX12_fly 160 = .ok (.irem, 1) := by decide +kernel
theorem dX12_fly_161 : decode cX12_fly 161 = .ok (.iastore, 1) := by decide +kernel
theorem dX12_fly_162 : decode cX12_fly 162 = .ok (.iconst 1, 1) := by decide +kernel
theorem dX12_fly_163 : decode cX12_fly 163 = .ok (.istore 6, 2) := by decide +kernel
theorem dX12_fly_165 : decode cX12_fly 165 = .ok (.iconst 0, 1) := by decide +kernel
theorem dX12_fly_166 : decode cX12_fly 166 = .ok (.istore 7, 2) := by decide +kernel
theorem dX12_fly_168 : decode cX12_fly 168 = .ok (.iload 7, 2) := by decide +kernel
theorem dX12_fly_170 : decode cX12_fly 170 = .ok (.iload_n 3, 1) := by decide +kernel
theorem dX12_fly_171 : decode cX12_fly 171 = .ok (.if_icmp .ge 41, 3) := by decide +kernel
theorem dX12_fly_174 : decode cX12_fly 174 = .ok (.iload 6, 2) := by decide +kernel
theorem dX12_fly_176 : decode cX12_fly 176 = .ok (.bipush 16, 2) := by decide +kernel
theorem dX12_fly_178 : decode cX12_fly 178 = .ok (.if_icmp .ne 12, 3) := by decide +kernel
theorem dX12_fly_181 : decode cX12_fly 181 = .ok (.aload_n 0, 1) := by decide +kernel
theorem dX12_fly_182 : decode cX12_fly 182 = .ok (.bipush 16, 2) := by decide +kernel
theorem dX12_fly_184 : decode cX12_fly 184 = .ok (.invokevirtual 101, 3) := by decide +kernel
theorem dX12_fly_187 : decode cX12_fly 187 = .ok (.iconst 0, 1) := by decide +kernel
theorem dX12_fly_188 : decode cX12_fly 188 = .ok (.istore 6, 2) := by decide +kernel
theorem dX12_fly_190 : decode cX12_fly 190 = .ok (.aload_n 0, 1) := by decide +kernel
theorem dX12_fly_191 : decode cX12_fly 191 = .ok (.aload_n 0, 1) := by decide +kernel
theorem dX12_fly_192 : decode cX12_fly 192 = .ok (.getfield 75, 3) := by decide +kernel
theorem dX12_fly_195 : decode cX12_fly 195 = .ok (.iload_n 2, 1) := by decide +kernel
theorem dX12_fly_196 : decode cX12_fly 196 = .ok (.iload 7, 2) := by decide +kernel
theorem dX12_fly_198 : decode cX12_fly 198 = .ok (.iadd, 1) := by decide +kernel
theorem dX12_fly_199 : decode cX12_fly 199 = .ok (.iaload, 1) := by decide +kernel
theorem dX12_fly_200 : decode cX12_fly 200 = .ok (.invokevirtual 97, 3) := by decide +kernel
theorem dX12_fly_203 : decode cX12_fly 203 = .ok (.iinc 6 1, 3) := by decide +kernel
theorem dX12_fly_206 : decode cX12_fly 206 = .ok (.iinc 7 1, 3) := by decide +kernel
theorem dX12_fly_209 : decode cX12_fly 209 = .ok (.goto (-41), 3) := by decide +kernel
theorem dX12_fly_212 : decode cX12_fly 212 = .ok (.aload_n 0, 1) := by decide +kernel
theorem dX12_fly_213 : decode cX12_fly 213 = .ok (.iload 6, 2) := by decide +kernel
theorem dX12_fly_215 : decode cX12_fly 215 = .ok (.invokevirtual 101, 3) := by decide +kernel
theorem dX12_fly_218 : decode cX12_fly 218 = .ok (.aload_n 0, 1) := by decide +kernel
theorem dX12_fly_219 : decode cX12_fly 219 = .ok (.dup, 1) := by decide +kernel
theorem dX12_fly_220 : decode cX12_fly 220 = .ok (.getfield 89, 3) := by decide +kernel
theorem dX12_fly_223 : decode cX12_fly 223 = .ok (.iconst 1, 1) := by decide +kernel
theorem dX12_fly_224 : decode cX12_fly 224 = .ok (.iadd, 1) := by decide +kernel
theorem dX12_fly_225 : decode cX12_fly 225 = .ok (.putfield 89, 3) := by decide +kernel
theorem dX12_fly_228 : decode cX12_fly 228 = .ok (.aload_n 0, 1) := by decide +kernel
theorem dX12_fly_229 : decode cX12_fly 229 = .ok (.getfield 89, 3) := by decide +kernel
theorem dX12_fly_232 : decode cX12_fly 232 = .ok (.bipush 40, 2) := by decide +kernel
theorem dX12_fly_234 : decode cX12_fly 234 = .ok (.if_icmp .le 8, 3) := by decide +kernel
theorem dX12_fly_237 : decode cX12_fly 237 = .ok (.aload_n 0, 1) := by decide +kernel
theorem dX12_fly_238 : decode cX12_fly 238 = .ok (.iconst 0, 1) := by decide +kernel
theorem dX12_fly_239 : decode cX12_fly 239 = .ok (.invokevirtual 107, 3) := by decide +kernel
theorem dX12_fly_242 : decode cX12_fly 242 = .ok (.return_, 1) := by decide +kernel
set_option maxRecDepth 20000 in
theorem ggX12_send_X12_fly : GoodIn wsX12_send wsX12_fly := goodIn_r _ [6, 7, 8, 9, 1, 10, 11, 12, 13, 14, 5, 15, 16, 17, 18, 19, 20, 21, 22, 23, 24, 25, 26, 27, 28, 29, 30, 31, 32, 33, 34, 35, 36, 37, 38, 39, 40, 41, 42, 43, 44, 45, 46, 47, 48, 49, 50, 51, 52, 53, 54, 55, 56, 57, 58, 59, 60, 61, 62, 63, 64, 65, 66, 67, 68, 69, 70, 71, 72, 73, 74, 75, 76, 77] (by decide +kernel) (by decide +kernel)
set_option maxRecDepth 20000 in
theorem gX12_send_X12_fly : GoodIn wsX12_send (wsV RX12 110 RX12 yX12_fly wsX12_fly) := goodIn_app (goodIn_of _ (by decide +kernel)) ggX12_send_X12_fly
theorem dX12_send_0 : decode cX12_send 0 = .ok (.iconst 0, 1) := by decide +kernel
theorem dX12_send_1 : decode cX12_send 1 = .ok (.istore_n 2, 1) := by decide +kernel
theorem dX12_send_2 : decode cX12_send 2 = .ok (.iload_n 2, 1) := by decide +kernel
theorem dX12_send_3 : decode cX12_send 3 = .ok (.aload_n 0, 1) := by decide +kernel
theorem dX12_send_4 : decode cX12_send 4 = .ok (.getfield 104, 3) := by decide +kernel
theorem dX12_send_7 : decode cX12_send 7 = .ok (.if_icmp .ge 37, 3) := by decide +kernel
theorem dX12_send_10 : decode cX12_send 10 = .ok (.aload_n 0, 1) := by decide +kernel
theorem dX12_send_11 : decode cX12_send 11 = .ok (.iload_n 1, 1) := by decide +kernel
theorem dX12_send_12 : decode cX12_send 12 = .ok (.iload_n 2, 1) := by decide +kernel
theorem dX12_send_13 : decode cX12_send 13 = .ok (.aload_n 0, 1) := by decide +kernel
theorem dX12_send_14 : decode cX12_send 14 = .ok (.getfield 104, 3) := by decide +kernel
theorem dX12_send_17 : decode cX12_send 17 = .ok (.iload_n 2, 1) := by decide +kernel
theorem dX12_send_18 : decode cX12_send 18 = .ok (.isub, 1) := by decide +kernel
theorem dX12_send_19 : decode cX12_send 19 = .ok (.bipush 20, 2) := by decide +kernel
theorem dX12_send_21 : decode cX12_send 21 = .ok (.if_icmp .ge 12, 3) := by decide +kernel
theorem dX12_send_24 : decode cX12_send 24 = .ok (.aload_n 0, 1) := by decide +kernel
theorem dX12_send_25 : decode cX12_send 25 = .ok (.getfield 104, 3) := by decide +kernel
theorem dX12_send_28 : decode cX12_send 28 = .ok (.iload_n 2, 1) := by decide +kernel
theorem dX12_send_29 : decode cX12_send 29 = .ok (.isub, 1) := by decide +kernel
theorem dX12_send_30 : decode cX12_send 30 = .ok (.goto 5, 3) := by decide +kernel
theorem dX12_send_33 : decode cX12_send 33 = .ok (.bipush 20, 2) := by decide +kernel
theorem dX12_send_35 : decode cX12_send 35 = .ok (.invokevirtual 110, 3) := by decide +kernel
theorem dX12_send_38 : decode cX12_send 38 = .ok (.iinc 2 20, 3) := by decide +kernel
theorem dX12_send_41 : decode cX12_send 41 = .ok (.goto (-39), 3) := by decide +kernel
theorem dX12_send_44 : decode cX12_send 44 = .ok (.return_, 1) := by decide +kernel
set_option maxRecDepth 20000 in
theorem ggX12_isFrame_X12_isChecked : GoodIn wsX12_isFrame wsX12_isChecked := goodIn_r _ [9, 1, 10, 11, 12, 8, 13, 14, 15, 16, 17, 18, 19, 20, 21, 22, 23, 24, 25, 26, 27, 28, 29, 30, 31, 32, 33, 34, 35, 36, 37, 38, 39, 40, 41, 42, 43, 44, 45, 46, 47, 48, 49, 50, 51, 52, 53, 54, 55, 56, 57, 58, 59, 60, 61, 62] (by decide +kernel) (by decide +kernel)
set_option maxRecDepth 20000 in
theorem gX12_isFrame_X12_isChecked : GoodIn wsX12_isFrame (wsV RX12 114 RX12 yX12_isChecked wsX12_isChecked) := goodIn_app (goodIn_of _ (by decide +kernel)) ggX12_isFrame_X12_isChecked
theorem dX12_isFrame_0 : decode cX12_isFrame 0 = .ok (.bipush 40, 2) := by decide +kernel
theorem dX12_isFrame_2 : decode cX12_isFrame 2 = .ok (.iload_n 1, 1) := by decide +kernel
theorem dX12_isFrame_3 : decode cX12_isFrame 3 = .ok (.imul, 1) := by decide +kernel
theorem dX12_isFrame_4 : decode cX12_isFrame 4 = .ok (.istore_n 3, 1) := by decide +kernel
theorem dX12_isFrame_5 : decode cX12_isFrame 5 = .ok (.aload_n 0, 1) := by decide +kernel
theorem dX12_isFrame_6 : decode cX12_isFrame 6 = .ok (.getfield 51, 3) := by decide +kernel
theorem dX12_isFrame_9 : decode cX12_isFrame 9 = .ok (.iload_n 3, 1) := by decide +kernel
theorem dX12_isFrame_10 : decode cX12_isFrame 10 = .ok (.iconst 2, 1) := by decide +kernel
theorem dX12_isFrame_11 : decode cX12_isFrame 11 = .ok (.iadd, 1) := by decide +kernel
theorem dX12_isFrame_12 : decode cX12_isFrame 12 = .ok (.iaload, 1) := by decide +kernel
theorem dX12_isFrame_13 : decode cX12_isFrame 13 = .ok (.iconst 5, 1) := by decide +kernel
theorem dX12_isFrame_14 : decode cX12_isFrame 14 = .ok (.isub, 1) := by decide +kernel
theorem dX12_isFrame_15 : decode cX12_isFrame 15 = .ok (.istore 4, 2) := by decide +kernel
theorem dX12_isFrame_17 : decode cX12_isFrame 17 = .ok (.aload_n 0, 1) := by decide +kernel
theorem dX12_isFrame_18 : decode cX12_isFrame 18 = .ok (.getfield 51, 3) := by decide +kernel
theorem dX12_isFrame_21 : decode cX12_isFrame 21 = .ok (.iload_n 3, 1) := by decide +kernel
theorem dX12_isFrame_22 : decode cX12_isFrame 22 = .ok (.iaload, 1) := by decide +kernel
theorem dX12_isFrame_23 : decode cX12_isFrame 23 = .ok (.iconst 5, 1) := by decide +kernel
theorem dX12_isFrame_24 : decode cX12_isFrame 24 = .ok (.if_icmp .ne 33, 3) := by decide +kernel
theorem dX12_isFrame_27 : decode cX12_isFrame 27 = .ok (.aload_n 0, 1) := by decide +kernel
theorem dX12_isFrame_28 : decode cX12_isFrame 28 = .ok (.getfield 51, 3) := by decide +kernel
theorem dX12_isFrame_31 : decode cX12_isFrame 31 = .ok (.iload_n 3, 1) := by decide +kernel
theorem dX12_isFrame_32 : decode cX12_isFrame 32 = .ok (.iconst 1, 1) := by decide +kernel
theorem dX12_isFrame_33 : decode cX12_isFrame 33 = .ok (.iadd, 1) := by decide +kernel
theorem dX12_isFrame_34 : decode cX12_isFrame 34 = .ok (.iaload, 1) := by decide +kernel
theorem dX12_isFrame_35 : decode cX12_isFrame 35 = .ok (.bipush 100, 2) := by decide +kernel
theorem dX12_isFrame_37 : decode cX12_isFrame 37 = .ok (.if_icmp .ne 20, 3) := by decide +kernel
theorem dX12_isFrame_40 : decode cX12_isFrame 40 = .ok (.iload 4, 2) := by decide +kernel
theorem dX12_isFrame_42 : decode cX12_isFrame 42 = .ok (.iconst 2, 1) := by decide +kernel
theorem dX12_isFrame_43 : decode cX12_isFrame 43 = .ok (.if_icmp .lt 14, 3) := by decide +kernel
theorem dX12_isFrame_46 : decode cX12_isFrame 46 = .ok (.iload 4, 2) := by decide +kernel
theorem dX12_isFrame_48 : decode cX12_isFrame 48 = .ok (.bipush 21, 2) := by decide +kernel
theorem dX12_isFrame_50 : decode cX12_isFrame 50 = .ok (.if_icmp .gt 7, 3) := by decide +kernel
theorem dX12_isFrame_53 : decode cX12_isFrame 53 = .ok (.iconst 1, 1) := by decide +kernel
theorem dX12_isFrame_54 : decode cX12_isFrame 54 = .ok (.goto 4, 3) := by decide +kernel
theorem dX12_isFrame_57 : decode cX12_isFrame 57 = .ok (.iconst 0, 1) := by decide +kernel
theorem dX12_isFrame_58 : decode cX12_isFrame 58 = .ok (.istore 5, 2) := by decide +kernel
theorem dX12_isFrame_60 : decode cX12_isFrame 60 = .ok (.iload 5, 2) := by decide +kernel
theorem dX12_isFrame_62 : decode cX12_isFrame 62 = .ok (.ifCond .eq 83, 3) := by decide +kernel
theorem dX12_isFrame_65 : decode cX12_isFrame 65 = .ok (.aload_n 0, 1) := by decide +kernel
theorem dX12_isFrame_66 : decode cX12_isFrame 66 = .ok (.getfield 51, 3) := by decide +kernel
theorem dX12_isFrame_69 : decode cX12_isFrame 69 = .ok (.iload_n 3, 1) := by decide +kernel
theorem dX12_isFrame_70 : decode cX12_isFrame 70 = .ok (.iconst 3, 1) := by decide +kernel
theorem dX12_isFrame_71 : decode cX12_isFrame 71 = .ok (.iadd, 1) := by decide +kernel
theorem dX12_isFrame_72 : decode cX12_isFrame 72 = .ok (.iaload, 1) := by decide +kernel
theorem dX12_isFrame_73 : decode cX12_isFrame 73 = .ok (.iload_n 2, 1) := by decide +kernel
theorem dX12_isFrame_74 : decode cX12_isFrame 74 = .ok (.iconst 1, 1) := by decide +kernel
theorem dX12_isFrame_75 : decode cX12_isFrame 75 = .ok (.if_icmp .ne 9, 3) := by decide +kernel
theorem dX12_isFrame_78 : decode cX12_isFrame 78 = .ok (.sipush 196, 3) := by decide +kernel
theorem dX12_isFrame_81 : decode cX12_isFrame 81 = .ok (.goto 5, 3) := by decide +kernel
theorem dX12_isFrame_84 : decode cX12_isFrame 84 = .ok (.bipush 68, 2) := by decide +kernel
theorem dX12_isFrame_86 : decode cX12_isFrame 86 = .ok (.if_icmp .ne 59, 3) := by decide +kernel
theorem dX12_isFrame_89 : decode cX12_isFrame 89 = .ok (.aload_n 0, 1) := by decide +kernel
theorem dX12_isFrame_90 : decode cX12_isFrame 90 = .ok (.getfield 51, 3) := by decide +kernel
theorem dX12_isFrame_93 : decode cX12_isFrame 93 = .ok (.iload_n 3, 1) := by decide +kernel
theorem dX12_isFrame_94 : decode cX12_isFrame 94 = .ok (.iconst 4, 1) := by decide +kernel
theorem dX12_isFrame_95 : decode cX12_isFrame 95 = .ok (.iadd, 1) := by decide +kernel
theorem dX12_isFrame_96 : decode cX12_isFrame 96 = .ok (.iaload, 1) := by decide +kernel
theorem dX12_isFrame_97 : decode cX12_isFrame 97 = .ok (.iconst 1, 1) := by decide +kernel
theorem dX12_isFrame_98 : decode cX12_isFrame 98 = .ok (.iload_n 2, 1) := by decide +kernel
theorem dX12_isFrame_99 : decode cX12_isFrame 99 = .ok (.iadd, 1) := by decide +kernel
theorem dX12_isFrame_100 : decode cX12_isFrame 100 = .ok (.if_icmp .ne 45, 3) := by decide +kernel
theorem dX12_isFrame_103 : decode cX12_isFrame 103 = .ok (.aload_n 0, 1) := by decide +kernel
theorem dX12_isFrame_104 : decode cX12_isFrame 104 = .ok (.getfield 51, 3) := by decide +kernel
theorem dX12_isFrame_107 : decode cX12_isFrame 107 = .ok (.iload_n 3, 1) := by decide +kernel
theorem dX12_isFrame_108 : decode cX12_isFrame 108 = .ok (.iconst 5, 1) := by decide +kernel
theorem dX12_isFrame_109 : decode cX12_isFrame 109 = .ok (.iadd, 1) := by decide +kernel
theorem dX12_isFrame_110 : decode cX12_isFrame 110 = .ok (.iaload, 1) := by decide +kernel
theorem dX12_isFrame_111 : decode cX12_isFrame 111 = .ok (.ifCond .ne 34, 3) := by decide +kernel
theorem dX12_isFrame_114 : decode cX12_isFrame 114 = .ok (.aload_n 0, 1) := by decide +kernel
theorem dX12_isFrame_115 : decode cX12_isFrame 115 = .ok (.getfield 51, 3) := by decide +kernel
theorem dX12_isFrame_118 : decode cX12_isFrame 118 = .ok (.iload_n 3, 1) := by decide +kernel
theorem dX12_isFrame_119 : decode cX12_isFrame 119 = .ok (.bipush 6, 2) := by decide +kernel
theorem dX12_isFrame_121 : decode cX12_isFrame 121 = .ok (.iadd, 1) := by decide +kernel
theorem dX12_isFrame_122 : decode cX12_isFrame 122 = .ok (.iaload, 1) := by decide +kernel
theorem dX12_isFrame_123 : decode cX12_isFrame 123 = .ok (.iconst 2, 1) := by decide +kernel
theorem dX12_isFrame_124 : decode cX12_isFrame 124 = .ok (.iload_n 2, 1) := by decide +kernel
theorem dX12_isFrame_125 : decode cX12_isFrame 125 = .ok (.isub, 1) := by decide +kernel
theorem dX12_isFrame_126 : decode cX12_isFrame 126 = .ok (.if_icmp .ne 19, 3) := by decide +kernel
theorem dX12_isFrame_129 : decode cX12_isFrame 129 = .ok (.aload_n 0, 1) := by decide +kernel
theorem dX12_isFrame_130 : decode cX12_isFrame 130 = .ok (.getfield 51, 3) := by decide +kernel
theorem dX12_isFrame_133 : decode cX12_isFrame 133 = .ok (.iload_n 3, 1) := by decide +kernel
theorem dX12_isFrame_134 : decode cX12_isFrame 134 = .ok (.bipush 7, 2) := by decide +kernel
theorem dX12_isFrame_136 : decode cX12_isFrame 136 = .ok (.iadd, 1) := by decide +kernel
theorem dX12_isFrame_137 : decode cX12_isFrame 137 = .ok (.iaload, 1) := by decide +kernel
theorem dX12_isFrame_138 : decode cX12_isFrame 138 = .ok (.ifCond .ne 7, 3) := by decide +kernel
theorem dX12_isFrame_141 : decode cX12_isFrame 141 = .ok (.iconst 1, 1) := by decide +kernel
theorem dX12_isFrame_142 : decode cX12_isFrame 142 = .ok (.goto 4, 3) := by decide +kernel
theorem dX12_isFrame_145 : decode cX12_isFrame 145 = .ok (.iconst 0, 1) := by decide +kernel
theorem dX12_isFrame_146 : decode cX12_isFrame 146 = .ok (.istore 5, 2) := by decide +kernel
theorem dX12_isFrame_148 : decode cX12_isFrame 148 = .ok (.iload 5, 2) := by decide +kernel
theorem dX12_isFrame_150 : decode cX12_isFrame 150 = .ok (.ifCond .eq 42, 3) := by decide +kernel
theorem dX12_isFrame_153 : decode cX12_isFrame 153 = .ok (.aload_n 0, 1) := by decide +kernel
theorem dX12_isFrame_154 : decode cX12_isFrame 154 = .ok (.getfield 54, 3) := by decide +kernel
theorem dX12_isFrame_157 : decode cX12_isFrame 157 = .ok (.iload_n 1, 1) := by decide +kernel
theorem dX12_isFrame_158 : decode cX12_isFrame 158 = .ok (.iaload, 1) := by decide +kernel
theorem dX12_isFrame_159 : decode cX12_isFrame 159 = .ok (.bipush 10, 2) := by decide +kernel
theorem dX12_isFrame_161 : decode cX12_isFrame 161 = .ok (.iload 4, 2) := by decide +kernel
theorem dX12_isFrame_163 : decode cX12_isFrame 163 = .ok (.iadd, 1) := by decide +kernel
theorem dX12_isFrame_164 : decode cX12_isFrame 164 = .ok (.iconst 2, 1) := by decide +kernel
theorem dX12_isFrame_165 : decode cX12_isFrame 165 = .ok (.iload 4, 2) := by decide +kernel
theorem dX12_isFrame_167 : decode cX12_isFrame 167 = .ok (.bipush 15, 2) := by decide +kernel
theorem dX12_isFrame_169 : decode cX12_isFrame 169 = .ok (.iadd, 1) := by decide +kernel
theorem dX12_isFrame_170 : decode cX12_isFrame 170 = .ok (.bipush 16, 2) := by decide +kernel
theorem dX12_isFrame_172 : decode cX12_isFrame 172 = .ok (.idiv, 1) := by decide +kernel
theorem dX12_isFrame_173 : decode cX12_isFrame 173 = .ok (.imul, 1) := by decide +kernel
theorem dX12_isFrame_174 : decode cX12_isFrame 174 = .ok (.iadd, 1) := by decide +kernel
theorem dX12_isFrame_175 : decode cX12_isFrame 175 = .ok (.if_icmp .ne 17, 3) := by decide +kernel
theorem dX12_isFrame_178 : decode cX12_isFrame 178 = .ok (.aload_n 0, 1) := by decide +kernel
theorem dX12_isFrame_179 : decode cX12_isFrame 179 = .ok (.iload_n 3, 1) := by decide +kernel
theorem dX12_isFrame_180 : decode cX12_isFrame 180 = .ok (.bipush 8, 2) := by decide +kernel
theorem dX12_isFrame_182 : decode cX12_isFrame 182 = .ok (.invokevirtual 114, 3) := by decide +kernel
theorem dX12_isFrame_185 : decode cX12_isFrame 185 = .ok (.ifCond .eq 7, 3) := by decide +kernel
theorem dX12_isFrame_188 : decode cX12_isFrame 188 = .ok (.iconst 1, 1) := by decide +kernel
theorem dX12_isFrame_189 : decode cX12_isFrame 189 = .ok (.goto 4, 3) := by decide +kernel
theorem dX12_isFrame_192 : decode cX12_isFrame 192 = .ok (.iconst 0, 1) := by decide +kernel
theorem dX12_isFrame_193 : decode cX12_isFrame 193 = .ok (.istore 5, 2) := by decide +kernel
theorem dX12_isFrame_195 : decode cX12_isFrame 195 = .ok (.aload_n 0, 1) := by decide +kernel
theorem dX12_isFrame_196 : decode cX12_isFrame 196 = .ok (.iconst 0, 1) := by decide +kernel
theorem dX12_isFrame_197 : decode cX12_isFrame 197 = .ok (.putfield 118, 3) := by decide +kernel
theorem dX12_isFrame_200 : decode cX12_isFrame 200 = .ok (.iload_n 3, 1) := by decide +kernel
theorem dX12_isFrame_201 : decode cX12_isFrame 201 = .ok (.bipush 10, 2) := by decide +kernel
theorem dX12_isFrame_203 : decode cX12_isFrame 203 = .ok (.iadd, 1) := by decide +kernel
theorem dX12_isFrame_204 : decode cX12_isFrame 204 = .ok (.istore 6, 2) := by decide +kernel
theorem dX12_isFrame_206 : decode cX12_isFrame 206 = .ok (.iload 4, 2) := by decide +kernel
theorem dX12_isFrame_208 : decode cX12_isFrame 208 = .ok (.istore 7, 2) := by decide +kernel
theorem dX12_isFrame_210 : decode cX12_isFrame 210 = .ok (.iload 5, 2) := by decide +kernel
theorem dX12_isFrame_212 : decode cX12_isFrame 212 = .ok (.ifCond .eq 98, 3) := by decide +kernel
theorem dX12_isFrame_215 : decode cX12_isFrame 215 = .ok (.iload 7, 2) := by decide +kernel
theorem dX12_isFrame_217 : decode cX12_isFrame 217 = .ok (.ifCond .le 93, 3) := by decide +kernel
theorem dX12_isFrame_220 : decode cX12_isFrame 220 = .ok (.iload 7, 2) := by decide +kernel
theorem dX12_isFrame_222 : decode cX12_isFrame 222 = .ok (.bipush 16, 2) := by decide +kernel
theorem dX12_isFrame_224 : decode cX12_isFrame 224 = .ok (.if_icmp .ge 8, 3) := by decide +kernel
theorem dX12_isFrame_227 : decode cX12_isFrame 227 = .ok (.iload 7, 2) := by decide +kernel
theorem dX12_isFrame_229 : decode cX12_isFrame 229 = .ok (.goto 5, 3) := by decide +kernel
theorem dX12_isFrame_232 : decode cX12_isFrame 232 = .ok (.bipush 16, 2) := by decide +kernel
theorem dX12_isFrame_234 : decode cX12_isFrame 234 = .ok (.istore 8, 2) := by decide +kernel
theorem dX12_isFrame_236 : decode cX12_isFrame 236 = .ok (.aload_n 0, 1) := by decide +kernel
theorem dX12_isFrame_237 : decode cX12_isFrame 237 = .ok (.iload 6, 2) := by decide +kernel
theorem dX12_isFrame_239 : decode cX12_isFrame 239 = .ok (.iload 8, 2) := by decide +kernel
theorem dX12_isFrame_241 : decode cX12_isFrame 241 = .ok (.invokevirtual 114, 3) := by decide +kernel
theorem dX12_isFrame_244 : decode cX12_isFrame 244 = .ok (.istore 5, 2) := by decide +kernel
theorem dX12_isFrame_246 : decode cX12_isFrame 246 = .ok (.iconst 0, 1) := by decide +kernel
theorem dX12_isFrame_247 : decode cX12_isFrame 247 = .ok (.istore 9, 2) := by decide +kernel
theorem dX12_isFrame_249 : decode cX12_isFrame 249 = .ok (.iload 9, 2) := by decide +kernel
theorem dX12_isFrame_251 : decode cX12_isFrame 251 = .ok (.iload 8, 2) := by decide +kernel
theorem dX12_isFrame_253 : decode cX12_isFrame 253 = .ok (.if_icmp .ge 38, 3) := by decide +kernel
theorem dX12_isFrame_256 : decode cX12_isFrame 256 = .ok (.aload_n 0, 1) := by decide +kernel
theorem dX12_isFrame_257 : decode cX12_isFrame 257 = .ok (.getfield 84, 3) := by decide +kernel
theorem dX12_isFrame_260 : decode cX12_isFrame 260 = .ok (.aload_n 0, 1) := by decide +kernel
theorem dX12_isFrame_261 : decode cX12_isFrame 261 = .ok (.getfield 118, 3) := by decide +kernel
theorem dX12_isFrame_264 : decode cX12_isFrame 264 = .ok (.aload_n 0, 1) := by decide +kernel
theorem dX12_isFrame_265 : decode cX12_isFrame 265 = .ok (.getfield 51, 3) := by decide +kernel
theorem dX12_isFrame_268 : decode cX12_isFrame 268 = .ok (.iload 6, 2) := by decide +kernel
theorem dX12_isFrame_270 : decode cX12_isFrame 270 = .ok (.iload 9, 2) := by decide +kernel
theorem dX12_isFrame_272 : decode cX12_isFrame 272 = .ok (.iadd, 1) := by decide +kernel
theorem dX12_isFrame_273 : decode cX12_isFrame 273 = .ok (.iaload, 1) := by decide +kernel
theorem dX12_isFrame_274 : decode cX12_isFrame 274 = .ok (.iastore, 1) := by decide +kernel
theorem dX12_isFrame_275 : decode cX12_isFrame 275 = .ok (.aload_n 0, 1) := by decide +kernel
theorem dX12_isFrame_276 : decode cX12_isFrame 276 = .ok (.dup, 1) := by decide +kernel
theorem dX12_isFrame_277 : decode cX12_isFrame 277 = .ok (.getfield 118, 3) := by decide +kernel
theorem dX12_isFrame_280 : decode cX12_isFrame 280 = .ok (.iconst 1, 1) := by decide +kernel
theorem dX12_isFrame_281 : decode cX12_isFrame 281 = .ok (.iadd, 1) := by decide +kernel
theorem dX12_isFrame_282 : decode cX12_isFrame 282 = .ok (.putfield 118, 3) := by decide +kernel
theorem dX12_isFrame_285 : decode cX12_isFrame 285 = .ok (.iinc 9 1, 3) := by decide +kernel
theorem dX12_isFrame_288 : decode cX12_isFrame 288 = .ok (.goto (-39), 3) := by decide +kernel
theorem dX12_isFrame_291 : decode cX12_isFrame 291 = .ok (.iload 6, 2) := by decide +kernel
theorem dX12_isFrame_293 : decode cX12_isFrame 293 = .ok (.iload 8, 2) := by decide +kernel
theorem dX12_isFrame_295 : decode cX12_isFrame 295 = .ok (.iconst 2, 1) := by decide +kernel
theorem dX12_isFrame_296 : decode cX12_isFrame 296 = .ok (.iadd, 1) := by decide +kernel
theorem dX12_isFrame_297 : decode cX12_isFrame 297 = .ok (.iadd, 1) := by decide +kernel
theorem dX12_isFrame_298 : decode cX12_isFrame 298 = .ok (.istore 6, 2) := by decide +kernel
theorem dX12_isFrame_300 : decode cX12_isFrame 300 = .ok (.iload 7, 2) := by decide +kernel
theorem dX12_isFrame_302 : decode cX12_isFrame 302 = .ok (.iload 8, 2) := by decide +kernel
theorem dX12_isFrame_304 : decode cX12_isFrame 304 = .ok (.isub, 1) := by decide +kernel
theorem dX12_isFrame_305 : decode cX12_isFrame 305 = .ok (.istore 7, 2) := by decide +kernel
theorem dX12_isFrame_307 : decode cX12_isFrame 307 = .ok (.goto (-97), 3) := by decide +kernel
theorem dX12_isFrame_310 : decode cX12_isFrame 310 = .ok (.iload 5, 2) := by decide +kernel
theorem dX12_isFrame_312 : decode cX12_isFrame 312 = .ok (.ireturn, 1) := by decide +kernel
set_option maxRecDepth 20000 in
theorem ggX12_isChecked_X12_checkOf : GoodIn wsX12_isChecked wsX12_checkOf := goodIn_r _ [6, 1, 7, 8, 9, 10, 11, 12, 13, 14, 15, 16, 17, 18, 19, 20, 21, 22, 23, 24, 25, 26, 27, 28, 29, 30, 31, 32, 33, 34, 35, 36, 37, 38, 39, 40, 41, 42, 43, 44, 45, 46, 47, 48, 49, 50, 51, 52, 53, 54, 55] (by decide +kernel) (by decide +kernel)
set_option maxRecDepth 20000 in
theorem gX12_isChecked_X12_checkOf : GoodIn wsX12_isChecked (wsV RX12 93 RX12 yX12_checkOf wsX12_checkOf) := goodIn_app (goodIn_of _ (by decide +kernel)) ggX12_isChecked_X12_checkOf
theorem dX12_isChecked_0 : decode cX12_isChecked 0 = .ok (.aload_n 0, 1) := by decide +kernel
theorem dX12_isChecked_1 : decode cX12_isChecked 1 = .ok (.iload_n 1, 1) := by decide +kernel
theorem dX12_isChecked_2 : decode cX12_isChecked 2 = .ok (.iload_n 2, 1) := by decide +kernel
theorem dX12_isChecked_3 : decode cX12_isChecked 3 = .ok (.invokevirtual 93, 3) := by decide +kernel
theorem dX12_isChecked_6 : decode cX12_isChecked 6 = .ok (.istore_n 3, 1) := by decide +kernel
theorem dX12_isChecked_7 : decode cX12_isChecked 7 = .ok (.aload_n 0, 1) := by decide +kernel
theorem dX12_isChecked_8 : decode cX12_isChecked 8 = .ok (.getfield 51, 3) := by decide +kernel
theorem dX12_isChecked_11 : decode cX12_isChecked 11 = .ok (.iload_n 1, 1) := by decide +kernel
theorem dX12_isChecked_12 : decode cX12_isChecked 12 = .ok (.iload_n 2, 1) := by decide +kernel
theorem dX12_isChecked_13 : decode cX12_isChecked 13 = .ok (.iadd, 1) := by decide +kernel
theorem dX12_isChecked_14 : decode cX12_isChecked 14 = .ok (.iaload, 1) := by decide +kernel
theorem dX12_isChecked_15 : decode cX12_isChecked 15 = .ok (.iload_n 3, 1) := by decide +kernel
theorem dX12_isChecked_16 : decode cX12_isChecked 16 = .ok (.sipush 255, 3) := by decide +kernel
theorem dX12_isChecked_19 : decode cX12_isChecked 19 = .ok (.iand, 1) := by decide +kernel
theorem dX12_isChecked_20 : decode cX12_isChecked 20 = .ok (.if_icmp .ne 24, 3) := by decide +kernel
theorem dX12_isChecked_23 : decode cX12_isChecked 23 = .ok (.aload_n 0, 1) := by decide +kernel
theorem dX12_isChecked_24 : decode cX12_isChecked 24 = .ok (.getfield 51, 3) := by decide +kernel
theorem dX12_isChecked_27 : decode cX12_isChecked 27 = .ok (.iload_n 1, 1) := by decide +kernel
theorem dX12_isChecked_28 : decode cX12_isChecked 28 = .ok (.iload_n 2, 1) := by decide +kernel
theorem dX12_isChecked_29 : decode cX12_isChecked 29 = .ok (.iadd, 1) := by decide +kernel
theorem dX12_isChecked_30 : decode cX12_isChecked 30 = .ok (.iconst 1, 1) := by decide +kernel
theorem dX12_isChecked_31 : decode cX12_isChecked 31 = .ok (.iadd, 1) := by decide +kernel
theorem dX12_isChecked_32 : decode cX12_isChecked 32 = .ok (.iaload, 1) := by decide +kernel
theorem dX12_isChecked_33 : decode cX12_isChecked 33 = .ok (.iload_n 3, 1) := by decide +kernel
theorem dX12_isChecked_34 : decode cX12_isChecked 34 = .ok (.bipush 8, 2) := by decide +kernel
theorem dX12_isChecked_36 : decode cX12_isChecked 36 = .ok (.ishr, 1) := by decide +kernel
theorem dX12_isChecked_37 : decode cX12_isChecked 37 = .ok (.if_icmp .ne 7, 3) := by decide +kernel
theorem dX12_isChecked_40 : decode cX12_isChecked 40 = .ok (.iconst 1, 1) := by decide +kernel
theorem dX12_isChecked_41 : decode cX12_isChecked 41 = .ok (.goto 4, 3) := by decide +kernel
theorem dX12_isChecked_44 : decode cX12_isChecked 44 = .ok (.iconst 0, 1) := by decide +kernel
theorem dX12_isChecked_45 : decode cX12_isChecked 45 = .ok (.ireturn, 1) := by decide +kernel
set_option maxRecDepth 20000 in
theorem ggX12_arrive_X12_isFrame : GoodIn wsX12_arrive wsX12_isFrame := goodIn_r _ [15, 16, 17, 4, 3, 18, 19, 20, 14, 21, 22, 23, 24, 25, 26, 27, 152, 153, 154, 155, 156, 157, 158, 159, 160, 161, 162, 163, 164, 165, 166, 167, 168, 169, 170, 171, 172, 173, 174, 175, 176, 177, 178, 179, 180, 181, 182, 183, 184, 185, 186, 187, 188, 189, 190, 191, 192, 193, 194, 195, 196, 197, 198] (by decide +kernel) (by decide +kernel)
set_option maxRecDepth 20000 in
theorem gX12_arrive_X12_isFrame : GoodIn wsX12_arrive (wsV RX12 121 RX12 yX12_isFrame wsX12_isFrame) := goodIn_app (goodIn_of _ (by decide +kernel)) ggX12_arrive_X12_isFrame
set_option maxRecDepth 20000 in
theorem ggX12_arrive_X12_removeFrame : GoodIn wsX12_arrive wsX12_removeFrame := goodIn_r _ [31, 32, 16, 17, 1, 152, 153, 154, 155, 156, 157, 158, 159, 160, 161, 162, 163, 164, 165, 166, 167, 168, 169, 170, 171, 172, 173, 174, 175, 176, 177, 178, 179, 180, 181, 182, 183, 184, 185, 186, 187, 188, 189, 190, 191, 192, 193, 194, 195, 196, 197, 198] (by decide +kernel) (by decide +kernel)
set_option maxRecDepth 20000 in
theorem gX12_arrive_X12_removeFrame : GoodIn wsX12_arrive (wsV RX12 107 RX12 yX12_removeFrame wsX12_removeFrame) := goodIn_app (goodIn_of _ (by decide +kernel)) ggX12_arrive_X12_removeFrame
set_option maxRecDepth 20000 in
theorem ggX12_arrive_X12_take : GoodIn wsX12_arrive wsX12_take := goodIn_r _ [36, 9, 10, 37, 38, 39, 40, 14, 41, 42, 43, 44, 45, 46, 47, 48, 49, 50, 51, 52, 53, 54, 55, 56, 57, 58, 59, 60, 61, 62, 63, 64, 65, 66, 67, 68, 69, 70, 71, 72, 73, 74, 75, 76, 77, 78, 79, 80, 81, 82, 83, 84, 85, 86, 87, 88, 89, 90, 91, 92, 93, 94, 95, 96, 97, 98, 99, 100, 17, 32, 1, 101, 102, 103, 104, 105, 16, 106, 107, 108, 109, 22, 23, 24, 25, 26, 27, 28, 29, 30, 31, 110, 111, 112, 113, 114, 115, 116, 117, 118, 119, 120, 121, 122, 123, 124, 125, 126, 127, 128, 129, 130, 131, 132, 133, 134, 135, 136, 137, 138, 139, 140, 141, 142, 143, 144, 145, 146, 147, 148, 149, 150, 151, 152, 153, 154, 155, 156, 157, 158, 159, 160, 161, 162, 163, 164, 165, 166, 167, 168, 169, 170, 171, 172, 173, 174, 175, 176, 177, 178, 179, 180, 181, 182, 183, 184, 185, 186, 187, 188, 189, 190, 191, 192, 193, 194, 195, 196, 197, 198] (by decide +kernel) (by decide +kernel)
set_option maxRecDepth 20000 in
theorem gX12_arrive_X12_take : GoodIn wsX12_arrive (wsV RX12 130 RX12 yX12_take wsX12_take) := goodIn_app (goodIn_of _ (by decide +kernel)) ggX12_arrive_X12_take
theorem dX12_arrive_0 : decode cX12_arrive 0 = .ok (.aload_n 0, 1) := by decide +kernel
theorem dX12_arrive_1 : decode cX12_arrive 1 = .ok (.getfield 57, 3) := by decide +kernel
theorem dX12_arrive_4 : decode cX12_arrive 4 = .ok (.iload_n 1, 1) := by decide +kernel
theorem dX12_arrive_5 : decode cX12_arrive 5 = .ok (.iaload, 1) := by decide +kernel
theorem dX12_arrive_6 : decode cX12_arrive 6 = .ok (.istore_n 3, 1) := by decide +kernel
theorem dX12_arrive_7 : decode cX12_arrive 7 = .ok (.aload_n 0, 1) := by decide +kernel
theorem dX12_arrive_8 : decode cX12_arrive 8 = .ok (.iload_n 1, 1) := by decide +kernel
theorem dX12_arrive_9 : decode cX12_arrive 9 = .ok (.iload_n 3, 1) := by decide +kernel
theorem dX12_arrive_10 : decode cX12_arrive 10 = .ok (.invokevirtual 121, 3) := by decide +kernel
theorem dX12_arrive_13 : decode cX12_arrive 13 = .ok (.istore 4, 2) := by decide +kernel
theorem dX12_arrive_15 : decode cX12_arrive 15 = .ok (.iload_n 2, 1) := by decide +kernel
theorem dX12_arrive_16 : decode cX12_arrive 16 = .ok (.ifCond .ne 8, 3) := by decide +kernel
theorem dX12_arrive_19 : decode cX12_arrive 19 = .ok (.aload_n 0, 1) := by decide +kernel
theorem dX12_arrive_20 : decode cX12_arrive 20 = .ok (.iload_n 1, 1) := by decide +kernel
theorem dX12_arrive_21 : decode cX12_arrive 21 = .ok (.invokevirtual 107, 3) := by decide +kernel
theorem dX12_arrive_24 : decode cX12_arrive 24 = .ok (.iload 4, 2) := by decide +kernel
theorem dX12_arrive_26 : decode cX12_arrive 26 = .ok (.ifCond .ne 14, 3) := by decide +kernel
theorem dX12_arrive_29 : decode cX12_arrive 29 = .ok (.aload_n 0, 1) := by decide +kernel
theorem dX12_arrive_30 : decode cX12_arrive 30 = .ok (.dup, 1) := by decide +kernel
theorem dX12_arrive_31 : decode cX12_arrive 31 = .ok (.getfield 124, 3) := by decide +kernel
theorem dX12_arrive_34 : decode cX12_arrive 34 = .ok (.iconst 1, 1) := by decide +kernel
theorem dX12_arrive_35 : decode cX12_arrive 35 = .ok (.iadd, 1) := by decide +kernel
theorem dX12_arrive_36 : decode cX12_arrive 36 = .ok (.putfield 124, 3) := by decide +kernel
theorem dX12_arrive_39 : decode cX12_arrive 39 = .ok (.return_, 1) := by decide +kernel
theorem dX12_arrive_40 : decode cX12_arrive 40 = .ok (.aload_n 0, 1) := by decide +kernel
theorem dX12_arrive_41 : decode cX12_arrive 41 = .ok (.getfield 84, 3) := by decide +kernel
theorem dX12_arrive_44 : decode cX12_arrive 44 = .ok (.iconst 0, 1) := by decide +kernel
theorem dX12_arrive_45 : decode cX12_arrive 45 = .ok (.iaload, 1) := by decide +kernel
theorem dX12_arrive_46 : decode cX12_arrive 46 = .ok (.istore 5, 2) := by decide +kernel
theorem dX12_arrive_48 : decode cX12_arrive 48 = .ok (.aload_n 0, 1) := by decide +kernel
theorem dX12_arrive_49 : decode cX12_arrive 49 = .ok (.getfield 118, 3) := by decide +kernel
theorem dX12_arrive_52 : decode cX12_arrive 52 = .ok (.iconst 1, 1) := by decide +kernel
theorem dX12_arrive_53 : decode cX12_arrive 53 = .ok (.isub, 1) := by decide +kernel
theorem dX12_arrive_54 : decode cX12_arrive 54 = .ok (.istore 6, 2) := by decide +kernel
theorem dX12_arrive_56 : decode cX12_arrive 56 = .ok (.iload 5, 2) := by decide +kernel
theorem dX12_arrive_58 : decode cX12_arrive 58 = .ok (.bipush 64, 2) := by decide +kernel
theorem dX12_arrive_60 : decode cX12_arrive 60 = .ok (.iand, 1) := by decide +kernel
theorem dX12_arrive_61 : decode cX12_arrive 61 = .ok (.ifCond .eq 13, 3) := by decide +kernel
theorem dX12_arrive_64 : decode cX12_arrive 64 = .ok (.aload_n 0, 1) := by decide +kernel
theorem dX12_arrive_65 : decode cX12_arrive 65 = .ok (.getfield 66, 3) := by decide +kernel
theorem dX12_arrive_68 : decode cX12_arrive 68 = .ok (.iload_n 3, 1) := by decide +kernel
theorem dX12_arrive_69 : decode cX12_arrive 69 = .ok (.iconst 0, 1) := by decide +kernel
theorem dX12_arrive_70 : decode cX12_arrive 70 = .ok (.iastore, 1) := by decide +kernel
theorem dX12_arrive_71 : decode cX12_arrive 71 = .ok (.goto 54, 3) := by decide +kernel
theorem dX12_arrive_74 : decode cX12_arrive 74 = .ok (.aload_n 0, 1) := by decide +kernel
theorem dX12_arrive_75 : decode cX12_arrive 75 = .ok (.getfield 72, 3) := by decide +kernel
theorem dX12_arrive_78 : decode cX12_arrive 78 = .ok (.iload_n 3, 1) := by decide +kernel
theorem dX12_arrive_79 : decode cX12_arrive 79 = .ok (.baload, 1) := by decide +kernel
theorem dX12_arrive_80 : decode cX12_arrive 80 = .ok (.ifCond .eq 37, 3) := by decide +kernel
theorem dX12_arrive_83 : decode cX12_arrive 83 = .ok (.iload 5, 2) := by decide +kernel
theorem dX12_arrive_85 : decode cX12_arrive 85 = .ok (.bipush 63, 2) := by decide +kernel
theorem dX12_arrive_87 : decode cX12_arrive 87 = .ok (.iand, 1) := by decide +kernel
theorem dX12_arrive_88 : decode cX12_arrive 88 = .ok (.aload_n 0, 1) := by decide +kernel
theorem dX12_arrive_89 : decode cX12_arrive 89 = .ok (.getfield 69, 3) := by decide +kernel
theorem dX12_arrive_92 : decode cX12_arrive 92 = .ok (.iload_n 3, 1) := by decide +kernel
theorem dX12_arrive_93 : decode cX12_arrive 93 = .ok (.iaload, 1) := by decide +kernel
theorem dX12_arrive_94 : decode cX12_arrive 94 = .ok (.iconst 1, 1) := by decide +kernel
theorem dX12_arrive_95 : decode cX12_arrive 95 = .ok (.iadd, 1) := by decide +kernel
theorem dX12_arrive_96 : decode cX12_arrive 96 = .ok (.bipush 64, 2) := by decide +kernel
theorem dX12_arrive_98 : decode cX12_arrive 98 = .ok (.irem, 1) := by decide +kernel
theorem dX12_arrive_99 : decode cX12_arrive 99 = .ok (.if_icmp .ne 18, 3) := by decide +kernel
theorem dX12_arrive_102 : decode cX12_arrive 102 = .ok (.aload_n 0, 1) := by decide +kernel
theorem dX12_arrive_103 : decode cX12_arrive 103 = .ok (.getfield 66, 3) := by decide +kernel
theorem dX12_arrive_106 : decode cX12_arrive 106 = .ok (.iload_n 3, 1) := by decide +kernel
theorem dX12_arrive_107 : decode cX12_arrive 107 = .ok (.iaload, 1) := by decide +kernel
theorem dX12_arrive_108 : decode cX12_arrive 108 = .ok (.iload 6, 2) := by decide +kernel
theorem dX12_arrive_110 : decode cX12_arrive 110 = .ok (.iadd, 1) := by decide +kernel
theorem dX12_arrive_111 : decode cX12_arrive 111 = .ok (.sipush 400, 3) := by decide +kernel
theorem dX12_arrive_114 : decode cX12_arrive 114 = .ok (.if_icmp .le 11, 3) := by decide +kernel
theorem dX12_arrive_117 : decode cX12_arrive 117 = .ok (.aload_n 0, 1) := by decide +kernel
theorem dX12_arrive_118 : decode cX12_arrive 118 = .ok (.getfield 72, 3) := by decide +kernel
theorem dX12_arrive_121 : decode cX12_arrive 121 = .ok (.iload_n 3, 1) := by decide +kernel
theorem dX12_arrive_122 : decode cX12_arrive 122 = .ok (.iconst 0, 1) := by decide +kernel
theorem dX12_arrive_123 : decode cX12_arrive 123 = .ok (.bastore, 1) := by decide +kernel
theorem dX12_arrive_124 : decode cX12_arrive 124 = .ok (.return_, 1) := by decide +kernel
theorem dX12_arrive_125 : decode cX12_arrive 125 = .ok (.iconst 0, 1) := by decide +kernel
theorem dX12_arrive_126 : decode cX12_arrive 126 = .ok (.istore 7, 2) := by decide +kernel
theorem dX12_arrive_128 : decode cX12_arrive 128 = .ok (.iload 7, 2) := by decide +kernel
theorem dX12_arrive_130 : decode cX12_arrive 130 = .ok (.iload 6, 2) := by decide +kernel
theorem dX12_arrive_132 : decode cX12_arrive 132 = .ok (.if_icmp .ge 38, 3) := by decide +kernel
theorem dX12_arrive_135 : decode cX12_arrive 135 = .ok (.aload_n 0, 1) := by decide +kernel
theorem dX12_arrive_136 : decode cX12_arrive 136 = .ok (.getfield 63, 3) := by decide +kernel
theorem dX12_arrive_139 : decode cX12_arrive 139 = .ok (.sipush 400, 3) := by decide +kernel
theorem dX12_arrive_142 : decode cX12_arrive 142 = .ok (.iload_n 3, 1) := by decide +kernel
theorem dX12_arrive_143 : decode cX12_arrive 143 = .ok (.imul, 1) := by decide +kernel
theorem dX12_arrive_144 : decode cX12_arrive 144 = .ok (.aload_n 0, 1) := by decide +kernel
theorem dX12_arrive_145 : decode cX12_arrive 145 = .ok (.getfield 66, 3) := by decide +kernel
theorem dX12_arrive_148 : decode cX12_arrive 148 = .ok (.iload_n 3, 1) := by decide +kernel
theorem dX12_arrive_149 : decode cX12_arrive 149 = .ok (.iaload, 1) := by decide +kernel
theorem dX12_arrive_150 : decode cX12_arrive 150 = .ok (.iadd, 1) := by decide +kernel
theorem dX12_arrive_151 : decode cX12_arrive 151 = .ok (.iload 7, 2) := by decide +kernel
theorem dX12_arrive_153 : decode cX12_arrive 153 = .ok (.iadd, 1) := by decide +kernel
theorem dX12_arrive_154 : decode cX12_arrive 154 = .ok (.aload_n 0, 1) := by decide +kernel
theorem dX12_arrive_155 : decode cX12_arrive 155 = .ok (.getfield 84, 3) := by decide +kernel
theorem dX12_arrive_158 : decode cX12_arrive 158 = .ok (.iconst 1, 1) := by decide +kernel
theorem dX12_arrive_159 : decode cX12_arrive 159 = .ok (.iload 7, 2) := by decide +kernel
theorem dX12_arrive_161 : decode cX12_arrive 161 = .ok (.iadd, 1) := by decide +kernel
theorem dX12_arrive_162 : decode cX12_arrive 162 = .ok (.iaload, 1) := by decide +kernel
theorem dX12_arrive_163 : decode cX12_arrive 163 = .ok (.iastore, 1) := by decide +kernel
theorem dX12_arrive_164 : decode cX12_arrive 164 = .ok (.iinc 7 1, 3) := by decide +kernel
theorem dX12_arrive_167 : decode cX12_arrive 167 = .ok (.goto (-39), 3) := by decide +kernel
theorem dX12_arrive_170 : decode cX12_arrive 170 = .ok (.aload_n 0, 1) := by decide +kernel
theorem dX12_arrive_171 : decode cX12_arrive 171 = .ok (.getfield 66, 3) := by decide +kernel
theorem dX12_arrive_174 : decode cX12_arrive 174 = .ok (.iload_n 3, 1) := by decide +kernel
theorem dX12_arrive_175 : decode cX12_arrive 175 = .ok (.dup2, 1) := by decide +kernel
theorem dX12_arrive_176 : decode cX12_arrive 176 = .ok (.iaload, 1) := by decide +kernel
theorem dX12_arrive_177 : decode cX12_arrive 177 = .ok (.iload 6, 2) := by decide +kernel
theorem dX12_arrive_179 : decode cX12_arrive 179 = .ok (.iadd, 1) := by decide +kernel
theorem dX12_arrive_180 : decode cX12_arrive 180 = .ok (.iastore, 1) := by decide +kernel
theorem dX12_arrive_181 : decode cX12_arrive 181 = .ok (.aload_n 0, 1) := by decide +kernel
theorem dX12_arrive_182 : decode cX12_arrive 182 = .ok (.getfield 69, 3) := by decide +kernel
theorem dX12_arrive_185 : decode cX12_arrive 185 = .ok (.iload_n 3, 1) := by decide +kernel
theorem dX12_arrive_186 : decode cX12_arrive 186 = .ok (.iload 5, 2) := by decide +kernel
theorem dX12_arrive_188 : decode cX12_arrive 188 = .ok (.bipush 63, 2) := by decide +kernel
theorem dX12_arrive_190 : decode cX12_arrive 190 = .ok (.iand, 1) := by decide +kernel
theorem dX12_arrive_191 : decode cX12_arrive 191 = .ok (.iastore, 1) := by decide +kernel
theorem dX12_arrive_192 : decode cX12_arrive 192 = .ok (.aload_n 0, 1) := by decide +kernel
theorem dX12_arrive_193 : decode cX12_arrive 193 = .ok (.getfield 72, 3) := by decide +kernel
theorem dX12_arrive_196 : decode cX12_arrive 196 = .ok (.iload_n 3, 1) := by decide +kernel
theorem dX12_arrive_197 : decode cX12_arrive 197 = .ok (.iload 5, 2) := by decide +kernel
theorem dX12_arrive_199 : decode cX12_arrive 199 = .ok (.sipush 128, 3) := by decide +kernel
theorem dX12_arrive_202 : decode cX12_arrive 202 = .ok (.iand, 1) := by decide +kernel
theorem dX12_arrive_203 : decode cX12_arrive 203 = .ok (.ifCond .ne 7, 3) := by decide +kernel
theorem dX12_arrive_206 : decode cX12_arrive 206 = .ok (.iconst 1, 1) := by decide +kernel
theorem dX12_arrive_207 : decode cX12_arrive 207 = .ok (.goto 4, 3) := by decide +kernel
theorem dX12_arrive_210 : decode cX12_arrive 210 = .ok (.iconst 0, 1) := by decide +kernel
theorem dX12_arrive_211 : decode cX12_arrive 211 = .ok (.bastore, 1) := by decide +kernel
theorem dX12_arrive_212 : decode cX12_arrive 212 = .ok (.aload_n 0, 1) := by decide +kernel
theorem dX12_arrive_213 : decode cX12_arrive 213 = .ok (.getfield 72, 3) := by decide +kernel
theorem dX12_arrive_216 : decode cX12_arrive 216 = .ok (.iload_n 3, 1) := by decide +kernel
theorem dX12_arrive_217 : decode cX12_arrive 217 = .ok (.baload, 1) := by decide +kernel
theorem dX12_arrive_218 : decode cX12_arrive 218 = .ok (.ifCond .ne 57, 3) := by decide +kernel
theorem dX12_arrive_221 : decode cX12_arrive 221 = .ok (.aload_n 0, 1) := by decide +kernel
theorem dX12_arrive_222 : decode cX12_arrive 222 = .ok (.aload_n 0, 1) := by decide +kernel
theorem dX12_arrive_223 : decode cX12_arrive 223 = .ok (.getfield 66, 3) := by decide +kernel
theorem dX12_arrive_226 : decode cX12_arrive 226 = .ok (.iload_n 3, 1) := by decide +kernel
theorem dX12_arrive_227 : decode cX12_arrive 227 = .ok (.iaload, 1) := by decide +kernel
theorem dX12_arrive_228 : decode cX12_arrive 228 = .ok (.putfield 127, 3) := by decide +kernel
theorem dX12_arrive_231 : decode cX12_arrive 231 = .ok (.iconst 0, 1) := by decide +kernel
theorem dX12_arrive_232 : decode cX12_arrive 232 = .ok (.istore 7, 2) := by decide +kernel
theorem dX12_arrive_234 : decode cX12_arrive 234 = .ok (.iload 7, 2) := by decide +kernel
theorem dX12_arrive_236 : decode cX12_arrive 236 = .ok (.aload_n 0, 1) := by decide +kernel
theorem dX12_arrive_237 : decode cX12_arrive 237 = .ok (.getfield 127, 3) := by decide +kernel
theorem dX12_arrive_240 : decode cX12_arrive 240 = .ok (.if_icmp .ge 29, 3) := by decide +kernel
theorem dX12_arrive_243 : decode cX12_arrive 243 = .ok (.aload_n 0, 1) := by decide +kernel
theorem dX12_arrive_244 : decode cX12_arrive 244 = .ok (.getfield 78, 3) := by decide +kernel
theorem dX12_arrive_247 : decode cX12_arrive 247 = .ok (.iload 7, 2) := by decide +kernel
theorem dX12_arrive_249 : decode cX12_arrive 249 = .ok (.aload_n 0, 1) := by decide +kernel
theorem dX12_arrive_250 : decode cX12_arrive 250 = .ok (.getfield 63, 3) := by decide +kernel
theorem dX12_arrive_253 : decode cX12_arrive 253 = .ok (.sipush 400, 3) := by decide +kernel
theorem dX12_arrive_256 : decode cX12_arrive 256 = .ok (.iload_n 3, 1) := by decide +kernel
theorem dX12_arrive_257 : decode cX12_arrive 257 = .ok (.imul, 1) := by decide +kernel
theorem dX12_arrive_258 : decode cX12_arrive 258 = .ok (.iload 7, 2) := by decide +kernel
theorem dX12_arrive_260 : decode cX12_arrive 260 = .ok (.iadd, 1) := by decide +kernel
theorem dX12_arrive_261 : decode cX12_arrive 261 = .ok (.iaload, 1) := by decide +kernel
theorem dX12_arrive_262 : decode cX12_arrive 262 = .ok (.iastore, 1) := by decide +kernel
theorem dX12_arrive_263 : decode cX12_arrive 263 = .ok (.iinc 7 1, 3) := by decide +kernel
theorem dX12_arrive_266 : decode cX12_arrive 266 = .ok (.goto (-32), 3) := by decide +kernel
theorem dX12_arrive_269 : decode cX12_arrive 269 = .ok (.aload_n 0, 1) := by decide +kernel
theorem dX12_arrive_270 : decode cX12_arrive 270 = .ok (.iload_n 3, 1) := by decide +kernel
theorem dX12_arrive_271 : decode cX12_arrive 271 = .ok (.invokevirtual 130, 3) := by decide +kernel
theorem dX12_arrive_274 : decode cX12_arrive 274 = .ok (.pop, 1) := by decide +kernel
theorem dX12_arrive_275 : decode cX12_arrive 275 = .ok (.return_, 1) := by decide +kernel
set_option maxRecDepth 20000 in
theorem ggX12_take_X12_stationTakes : GoodIn wsX12_take wsX12_stationTakes := goodIn_r _ [8, 2, 1, 9, 10, 11, 12, 13, 7, 14, 15, 16, 17, 18, 19, 20, 21, 22, 23, 24, 25, 26, 27, 28, 29, 30, 31, 32, 33, 34, 35, 36, 37, 38, 39, 40, 41, 42, 43, 44, 45, 46, 47, 48, 49, 50, 51, 52, 53, 54, 55, 56, 57, 58, 59, 60, 61, 62, 63, 64, 65, 66, 67, 68, 69, 70, 71, 72, 73, 74, 75, 76, 77, 78, 79, 80, 81, 82, 83, 84, 85, 86, 87, 88, 89, 90, 91, 92, 93, 94, 95, 96, 97, 98, 133, 134, 135, 136, 137, 138, 139, 140, 141, 142, 143, 144, 145, 146, 147, 148, 149, 150, 151, 152, 153, 154, 155, 156, 157, 158, 159, 160, 161, 162, 163, 164, 165, 166, 167, 168, 169, 170, 171, 172, 173, 174, 175, 176, 177, 178, 179] (by decide +kernel) (by decide +kernel)
set_option maxRecDepth 20000 in
theorem gX12_take_X12_stationTakes : GoodIn wsX12_take (wsV RX12 134 RX12 yX12_stationTakes wsX12_stationTakes) := goodIn_app (goodIn_of _ (by decide +kernel)) ggX12_take_X12_stationTakes
set_option maxRecDepth 20000 in
theorem ggX12_take_X12_masterTakes : GoodIn wsX12_take wsX12_masterTakes := goodIn_r _ [102, 2, 103, 104, 1, 105, 106, 107, 108, 109, 7, 110, 111, 112, 113, 114, 115, 116, 117, 118, 119, 120, 121, 122, 123, 124, 125, 126, 127, 128, 129, 130, 131, 132, 26, 27, 28, 29, 30, 31, 32, 33, 34, 19, 60, 61, 62, 63, 64, 65, 66, 67, 68, 69, 70, 71, 72, 73, 74, 75, 76, 77, 78, 79, 80, 81, 82, 83, 84, 85, 86, 87, 88, 89, 90, 133, 134, 135, 136, 137, 138, 139, 140, 141, 142, 143, 144, 145, 146, 147, 148, 149, 150, 151, 152, 153, 154, 155, 156, 157, 158, 159, 160, 161, 162, 163, 164, 165, 166, 167, 168, 169, 170, 171, 172, 173, 174, 175, 176, 177, 178, 179] (by decide +kernel) (by decide +kernel)
set_option maxRecDepth 20000 in
theorem gX12_take_X12_masterTakes : GoodIn wsX12_take (wsV RX12 138 RX12 yX12_masterTakes wsX12_masterTakes) := goodIn_app (goodIn_of _ (by decide +kernel)) ggX12_take_X12_masterTakes
theorem dX12_take_0 : decode cX12_take 0 = .ok (.aload_n 0, 1) := by decide +kernel
theorem dX12_take_1 : decode cX12_take 1 = .ok (.getfield 127, 3) := by decide +kernel
theorem dX12_take_4 : decode cX12_take 4 = .ok (.iconst 2, 1) := by decide +kernel
theorem dX12_take_5 : decode cX12_take 5 = .ok (.if_icmp .lt 45, 3) := by decide +kernel
theorem dX12_take_8 : decode cX12_take 8 = .ok (.aload_n 0, 1) := by decide +kernel
theorem dX12_take_9 : decode cX12_take 9 = .ok (.getfield 78, 3) := by decide +kernel
theorem dX12_take_12 : decode cX12_take 12 = .ok (.iconst 0, 1) := by decide +kernel
theorem dX12_take_13 : decode cX12_take 13 = .ok (.iaload, 1) := by decide +kernel
theorem dX12_take_14 : decode cX12_take 14 = .ok (.sipush 192, 3) := by decide +kernel
theorem dX12_take_17 : decode cX12_take 17 = .ok (.iand, 1) := by decide +kernel
theorem dX12_take_18 : decode cX12_take 18 = .ok (.sipush 192, 3) := by decide +kernel
theorem dX12_take_21 : decode cX12_take 21 = .ok (.if_icmp .ne 29, 3) := by decide +kernel
theorem dX12_take_24 : decode cX12_take 24 = .ok (.iload_n 1, 1) := by decide +kernel
theorem dX12_take_25 : decode cX12_take 25 = .ok (.iconst 1, 1) := by decide +kernel
theorem dX12_take_26 : decode cX12_take 26 = .ok (.if_icmp .ne 13, 3) := by decide +kernel
theorem dX12_take_29 : decode cX12_take 29 = .ok (.aload_n 0, 1) := by decide +kernel
theorem dX12_take_30 : decode cX12_take 30 = .ok (.invokevirtual 134, 3) := by decide +kernel
theorem dX12_take_33 : decode cX12_take 33 = .ok (.ifCond .eq 17, 3) := by decide +kernel
theorem dX12_take_36 : decode cX12_take 36 = .ok (.goto 10, 3) := by decide +kernel
theorem dX12_take_39 : decode cX12_take 39 = .ok (.aload_n 0, 1) := by decide +kernel
theorem dX12_take_40 : decode cX12_take 40 = .ok (.invokevirtual 138, 3) := by decide +kernel
theorem dX12_take_43 : decode cX12_take 43 = .ok (.ifCond .eq 7, 3) := by decide +kernel
theorem dX12_take_46 : decode cX12_take 46 = .ok (.iconst 1, 1) := by decide +kernel
theorem dX12_take_47 : decode cX12_take 47 = .ok (.goto 4, 3) := by decide +kernel
theorem dX12_take_50 : decode cX12_take 50 = .ok (.iconst 0, 1) := by decide +kernel
theorem dX12_take_51 : decode cX12_take 51 = .ok (.istore_n 2, 1) := by decide +kernel
theorem dX12_take_52 : decode cX12_take 52 = .ok (.aload_n 0, 1) := by decide +kernel
theorem dX12_take_53 : decode cX12_take 53 = .ok (.dup, 1) := by decide +kernel
theorem dX12_take_54 : decode cX12_take 54 = .ok (.getfield 141, 3) := by decide +kernel
theorem dX12_take_57 : decode cX12_take 57 = .ok (.iload_n 2, 1) := by decide +kernel
theorem dX12_take_58 : decode cX12_take 58 = .ok (.ifCond .eq 7, 3) := by decide +kernel
theorem dX12_take_61 : decode cX12_take 61 = .ok (.iconst 0, 1) := by decide +kernel
theorem dX12_take_62 : decode cX12_take 62 = .ok (.goto 4, 3) := by decide +kernel
theorem dX12_take_65 : decode cX12_take 65 = .ok (.iconst 1, 1) := by decide +kernel
theorem dX12_take_66 : decode cX12_take 66 = .ok (.iadd, 1) := by decide +kernel
theorem dX12_take_67 : decode cX12_take 67 = .ok (.putfield 141, 3) := by decide +kernel
theorem dX12_take_70 : decode cX12_take 70 = .ok (.iload_n 2, 1) := by decide +kernel
theorem dX12_take_71 : decode cX12_take 71 = .ok (.ireturn, 1) := by decide +kernel
theorem dX12_put_0 : decode cX12_put 0 = .ok (.aload_n 0, 1) := by decide +kernel
theorem dX12_put_1 : decode cX12_put 1 = .ok (.getfield 75, 3) := by decide +kernel
theorem dX12_put_4 : decode cX12_put 4 = .ok (.aload_n 0, 1) := by decide +kernel
theorem dX12_put_5 : decode cX12_put 5 = .ok (.getfield 104, 3) := by decide +kernel
theorem dX12_put_8 : decode cX12_put 8 = .ok (.iload_n 1, 1) := by decide +kernel
theorem dX12_put_9 : decode cX12_put 9 = .ok (.sipush 255, 3) := by decide +kernel
theorem dX12_put_12 : decode cX12_put 12 = .ok (.iand, 1) := by decide +kernel
theorem dX12_put_13 : decode cX12_put 13 = .ok (.iastore, 1) := by decide +kernel
theorem dX12_put_14 : decode cX12_put 14 = .ok (.aload_n 0, 1) := by decide +kernel
theorem dX12_put_15 : decode cX12_put 15 = .ok (.dup, 1) := by decide +kernel
theorem dX12_put_16 : decode cX12_put 16 = .ok (.getfield 104, 3) := by decide +kernel
theorem dX12_put_19 : decode cX12_put 19 = .ok (.iconst 1, 1) := by decide +kernel
theorem dX12_put_20 : decode cX12_put 20 = .ok (.iadd, 1) := by decide +kernel
theorem dX12_put_21 : decode cX12_put 21 = .ok (.putfield 104, 3) := by decide +kernel
theorem dX12_put_24 : decode cX12_put 24 = .ok (.return_, 1) := by decide +kernel
set_option maxRecDepth 20000 in
theorem ggX12_putMany_X12_put : GoodIn wsX12_putMany wsX12_put := goodIn_r _ [5, 6, 7, 8, 9, 10, 11, 12, 13, 14, 15, 16, 17, 18, 19, 20, 21, 22, 23, 24, 25, 26, 27, 28, 29, 30, 31, 32, 33, 34, 35, 36, 37, 38, 39, 40, 41, 42, 43, 44, 45, 46, 47, 48, 49, 50, 51, 52, 53, 54] (by decide +kernel) (by decide +kernel)
set_option maxRecDepth 20000 in
theorem gX12_putMany_X12_put : GoodIn wsX12_putMany (wsV RX12 144 RX12 yX12_put wsX12_put) := goodIn_app (goodIn_of _ (by decide +kernel)) ggX12_putMany_X12_put
theorem dX12_putMany_0 : decode cX12_putMany 0 = .ok (.iconst 0, 1) := by decide +kernel
theorem dX12_putMany_1 : decode cX12_putMany 1 = .ok (.istore_n 3, 1) := by decide +kernel
theorem dX12_putMany_2 : decode cX12_putMany 2 = .ok (.iload_n 3, 1) := by decide +kernel
theorem dX12_putMany_3 : decode cX12_putMany 3 = .ok (.iload_n 2, 1) := by decide +kernel
theorem dX12_putMany_4 : decode cX12_putMany 4 = .ok (.if_icmp .ge 19, 3) := by decide +kernel
theorem dX12_putMany_7 : decode cX12_putMany 7 = .ok (.aload_n 0, 1) := by decide +kernel
theorem dX12_putMany_8 : decode cX12_putMany 8 = .ok (.iload_n 1, 1) := by decide +kernel
theorem dX12_putMany_9 : decode cX12_putMany 9 = .ok (.bipush 8, 2) := by decide +kernel
theorem dX12_putMany_11 : decode cX12_putMany 11 = .ok (.iload_n 3, 1) := by decide +kernel
theorem dX12_putMany_12 : decode cX12_putMany 12 = .ok (.imul, 1) := by decide +kernel
theorem dX12_putMany_13 : decode cX12_putMany 13 = .ok (.ishr, 1) := by decide +kernel
theorem dX12_putMany_14 : decode cX12_putMany 14 = .ok (.invokevirtual 144, 3) := by decide +kernel
theorem dX12_putMany_17 : decode cX12_putMany 17 = .ok (.iinc 3 1, 3) := by decide +kernel
theorem dX12_putMany_20 : decode cX12_putMany 20 = .ok (.goto (-18), 3) := by decide +kernel
theorem dX12_putMany_23 : decode cX12_putMany 23 = .ok (.return_, 1) := by decide +kernel
set_option maxRecDepth 20000 in
theorem ggX12_begin_X12_put : GoodIn wsX12_begin wsX12_put := goodIn_r _ [6, 7, 1, 8, 9, 10, 11, 12, 13, 14, 15, 16, 17, 18, 19, 20, 21, 22, 23, 24, 25, 26, 27, 28, 29, 30, 31, 32, 33, 34, 35, 36, 37, 38, 39, 40, 41, 42, 43, 44, 45, 46, 47, 48, 49, 50, 51, 52, 53, 54] (by decide +kernel) (by decide +kernel)
set_option maxRecDepth 20000 in
theorem gX12_begin_X12_put : GoodIn wsX12_begin (wsV RX12 144 RX12 yX12_put wsX12_put) := goodIn_app (goodIn_of _ (by decide +kernel)) ggX12_begin_X12_put
theorem dX12_begin_0 : decode cX12_begin 0 = .ok (.aload_n 0, 1) := by decide +kernel
theorem dX12_begin_1 : decode cX12_begin 1 = .ok (.iconst 0, 1) := by decide +kernel
theorem dX12_begin_2 : decode cX12_begin 2 = .ok (.putfield 104, 3) := by decide +kernel
theorem dX12_begin_5 : decode cX12_begin 5 = .ok (.aload_n 0, 1) := by decide +kernel
theorem dX12_begin_6 : decode cX12_begin 6 = .ok (.sipush 192, 3) := by decide +kernel
theorem dX12_begin_9 : decode cX12_begin 9 = .ok (.iload_n 1, 1) := by decide +kernel
theorem dX12_begin_10 : decode cX12_begin 10 = .ok (.iadd, 1) := by decide +kernel
theorem dX12_begin_11 : decode cX12_begin 11 = .ok (.invokevirtual 144, 3) := by decide +kernel
theorem dX12_begin_14 : decode cX12_begin 14 = .ok (.aload_n 0, 1) := by decide +kernel
theorem dX12_begin_15 : decode cX12_begin 15 = .ok (.iload_n 2, 1) := by decide +kernel
theorem dX12_begin_16 : decode cX12_begin 16 = .ok (.invokevirtual 144, 3) := by decide +kernel
theorem dX12_begin_19 : decode cX12_begin 19 = .ok (.return_, 1) := by decide +kernel
theorem dX12_noneWaits_0 : decode cX12_noneWaits 0 = .ok (.aload_n 0, 1) := by decide +kernel
theorem dX12_noneWaits_1 : decode cX12_noneWaits 1 = .ok (.iconst 0, 1) := by decide +kernel
theorem dX12_noneWaits_2 : decode cX12_noneWaits 2 = .ok (.putfield 147, 3) := by decide +kernel
theorem dX12_noneWaits_5 : decode cX12_noneWaits 5 = .ok (.iconst 0, 1) := by decide +kernel
theorem dX12_noneWaits_6 : decode cX12_noneWaits 6 = .ok (.istore_n 1, 1) := by decide +kernel
theorem dX12_noneWaits_7 : decode cX12_noneWaits 7 = .ok (.iload_n 1, 1) := by decide +kernel
theorem dX12_noneWaits_8 : decode cX12_noneWaits 8 = .ok (.bipush 32, 2) := by decide +kernel
theorem dX12_noneWaits_10 : decode cX12_noneWaits 10 = .ok (.if_icmp .ge 16, 3) := by decide +kernel
theorem dX12_noneWaits_13 : decode cX12_noneWaits 13 = .ok (.aload_n 0, 1) := by decide +kernel
theorem dX12_noneWaits_14 : decode cX12_noneWaits 14 = .ok (.getfield 31, 3) := by decide +kernel
theorem dX12_noneWaits_17 : decode cX12_noneWaits 17 = .ok (.iload_n 1, 1) := by decide +kernel
theorem dX12_noneWaits_18 : decode cX12_noneWaits 18 = .ok (.iconst 0, 1) := by decide +kernel
theorem dX12_noneWaits_19 : decode cX12_noneWaits 19 = .ok (.bastore, 1) := by decide +kernel
theorem dX12_noneWaits_20 : decode cX12_noneWaits 20 = .ok (.iinc 1 1, 3) := by decide +kernel
theorem dX12_noneWaits_23 : decode cX12_noneWaits 23 = .ok (.goto (-16), 3) := by decide +kernel
theorem dX12_noneWaits_26 : decode cX12_noneWaits 26 = .ok (.return_, 1) := by decide +kernel
set_option maxRecDepth 20000 in
theorem ggX12_putPoints_X12_put : GoodIn wsX12_putPoints wsX12_put := goodIn_r _ [6, 7, 8, 13, 14, 15, 16, 17, 18, 19, 20, 21, 22, 23, 24, 25, 26, 27, 28, 29, 30, 31, 32, 33, 34, 35, 36, 37, 38, 39, 40, 41, 42, 43, 44, 45, 46, 47, 48, 49, 50, 51, 52, 53, 54, 55, 56, 57, 58, 59] (by decide +kernel) (by decide +kernel)
set_option maxRecDepth 20000 in
theorem gX12_putPoints_X12_put : GoodIn wsX12_putPoints (wsV RX12 144 RX12 yX12_put wsX12_put) := goodIn_app (goodIn_of _ (by decide +kernel)) ggX12_putPoints_X12_put
set_option maxRecDepth 20000 in
theorem ggX12_putPoints_X12_putMany : GoodIn wsX12_putPoints wsX12_putMany := goodIn_r _ [12, 2, 3, 4, 5, 6, 7, 8, 13, 14, 15, 16, 17, 18, 19, 20, 21, 22, 23, 24, 25, 26, 27, 28, 29, 30, 31, 32, 33, 34, 35, 36, 37, 38, 39, 40, 41, 42, 43, 44, 45, 46, 47, 48, 49, 50, 51, 52, 53, 54, 55, 56, 57, 58, 59] (by decide +kernel) (by decide +kernel)
set_option maxRecDepth 20000 in
theorem gX12_putPoints_X12_putMany : GoodIn wsX12_putPoints (wsV RX12 150 RX12 yX12_putMany wsX12_putMany) := goodIn_app (goodIn_of _ (by decide +kernel)) ggX12_putPoints_X12_putMany
theorem dX12_putPoints_0 : decode cX12_putPoints 0 = .ok (.aload_n 0, 1) := by decide +kernel
theorem dX12_putPoints_1 : decode cX12_putPoints 1 = .ok (.bipush 30, 2) := by decide +kernel
theorem dX12_putPoints_3 : decode cX12_putPoints 3 = .ok (.invokevirtual 144, 3) := by decide +kernel
theorem dX12_putPoints_6 : decode cX12_putPoints 6 = .ok (.aload_n 0, 1) := by decide +kernel
theorem dX12_putPoints_7 : decode cX12_putPoints 7 = .ok (.iconst 2, 1) := by decide +kernel
theorem dX12_putPoints_8 : decode cX12_putPoints 8 = .ok (.invokevirtual 144, 3) := by decide +kernel
theorem dX12_putPoints_11 : decode cX12_putPoints 11 = .ok (.aload_n 0, 1) := by decide +kernel
theorem dX12_putPoints_12 : decode cX12_putPoints 12 = .ok (.bipush 10, 2) := by decide +kernel
theorem dX12_putPoints_14 : decode cX12_putPoints 14 = .ok (.invokevirtual 144, 3) := by decide +kernel
theorem dX12_putPoints_17 : decode cX12_putPoints 17 = .ok (.iconst 0, 1) := by decide +kernel
theorem dX12_putPoints_18 : decode cX12_putPoints 18 = .ok (.istore_n 1, 1) := by decide +kernel
theorem dX12_putPoints_19 : decode cX12_putPoints 19 = .ok (.iload_n 1, 1) := by decide +kernel
theorem dX12_putPoints_20 : decode cX12_putPoints 20 = .ok (.bipush 10, 2) := by decide +kernel
theorem dX12_putPoints_22 : decode cX12_putPoints 22 = .ok (.if_icmp .ge 25, 3) := by decide +kernel
theorem dX12_putPoints_25 : decode cX12_putPoints 25 = .ok (.aload_n 0, 1) := by decide +kernel
theorem dX12_putPoints_26 : decode cX12_putPoints 26 = .ok (.iload_n 1, 1) := by decide +kernel
theorem dX12_putPoints_27 : decode cX12_putPoints 27 = .ok (.invokevirtual 144, 3) := by decide +kernel
theorem dX12_putPoints_30 : decode cX12_putPoints 30 = .ok (.aload_n 0, 1) := by decide +kernel
theorem dX12_putPoints_31 : decode cX12_putPoints 31 = .ok (.aload_n 0, 1) := by decide +kernel
theorem dX12_putPoints_32 : decode cX12_putPoints 32 = .ok (.getfield 13, 3) := by decide +kernel
theorem dX12_putPoints_35 : decode cX12_putPoints 35 = .ok (.iload_n 1, 1) := by decide +kernel
theorem dX12_putPoints_36 : decode cX12_putPoints 36 = .ok (.iaload, 1) := by decide +kernel
theorem dX12_putPoints_37 : decode cX12_putPoints 37 = .ok (.iconst 2, 1) := by decide +kernel
theorem dX12_putPoints_38 : decode cX12_putPoints 38 = .ok (.invokevirtual 150, 3) := by decide +kernel
theorem dX12_putPoints_41 : decode cX12_putPoints 41 = .ok (.iinc 1 1, 3) := by decide +kernel
theorem dX12_putPoints_44 : decode cX12_putPoints 44 = .ok (.goto (-25), 3) := by decide +kernel
theorem dX12_putPoints_47 : decode cX12_putPoints 47 = .ok (.return_, 1) := by decide +kernel
set_option maxRecDepth 20000 in
theorem ggX12_putEvents_X12_put : GoodIn wsX12_putEvents wsX12_put := goodIn_r _ [10, 11, 12, 17, 18, 19, 20, 21, 22, 23, 24, 25, 26, 27, 28, 29, 30, 31, 32, 33, 34, 35, 36, 37, 38, 39, 40, 41, 42, 43, 44, 45, 46, 47, 48, 49, 50, 51, 52, 53, 54, 55, 56, 57, 58, 59, 60, 61, 62, 63] (by decide +kernel) (by decide +kernel)
set_option maxRecDepth 20000 in
theorem gX12_putEvents_X12_put : GoodIn wsX12_putEvents (wsV RX12 144 RX12 yX12_put wsX12_put) := goodIn_app (goodIn_of _ (by decide +kernel)) ggX12_putEvents_X12_put
set_option maxRecDepth 20000 in
theorem ggX12_putEvents_X12_putMany : GoodIn wsX12_putEvents wsX12_putMany := goodIn_r _ [16, 6, 7, 8, 9, 10, 11, 12, 17, 18, 19, 20, 21, 22, 23, 24, 25, 26, 27, 28, 29, 30, 31, 32, 33, 34, 35, 36, 37, 38, 39, 40, 41, 42, 43, 44, 45, 46, 47, 48, 49, 50, 51, 52, 53, 54, 55, 56, 57, 58, 59, 60, 61, 62, 63] (by decide +kernel) (by decide +kernel)
set_option maxRecDepth 20000 in
theorem gX12_putEvents_X12_putMany : GoodIn wsX12_putEvents (wsV RX12 150 RX12 yX12_putMany wsX12_putMany) := goodIn_app (goodIn_of _ (by decide +kernel)) ggX12_putEvents_X12_putMany
theorem dX12_putEvents_0 : decode cX12_putEvents 0 = .ok (.aload_n 0, 1) := by decide +kernel
theorem dX12_putEvents_1 : decode cX12_putEvents 1 = .ok (.getfield 19, 3) := by decide +kernel
theorem dX12_putEvents_4 : decode cX12_putEvents 4 = .ok (.iload_n 1, 1) := by decide +kernel
theorem dX12_putEvents_5 : decode cX12_putEvents 5 = .ok (.iaload, 1) := by decide +kernel
theorem dX12_putEvents_6 : decode cX12_putEvents 6 = .ok (.iload_n 2, 1) := by decide +kernel
theorem dX12_putEvents_7 : decode cX12_putEvents 7 = .ok (.if_icmp .ge 12, 3) := by decide +kernel
theorem dX12_putEvents_10 : decode cX12_putEvents 10 = .ok (.aload_n 0, 1) := by decide +kernel
theorem dX12_putEvents_11 : decode cX12_putEvents 11 = .ok (.getfield 19, 3) := by decide +kernel
theorem dX12_putEvents_14 : decode cX12_putEvents 14 = .ok (.iload_n 1, 1) := by decide +kernel
theorem dX12_putEvents_15 : decode cX12_putEvents 15 = .ok (.iaload, 1) := by decide +kernel
theorem dX12_putEvents_16 : decode cX12_putEvents 16 = .ok (.goto 4, 3) := by decide +kernel
theorem dX12_putEvents_19 : decode cX12_putEvents 19 = .ok (.iload_n 2, 1) := by decide +kernel
theorem dX12_putEvents_20 : decode cX12_putEvents 20 = .ok (.istore_n 3, 1) := by decide +kernel
theorem dX12_putEvents_21 : decode cX12_putEvents 21 = .ok (.iload_n 3, 1) := by decide +kernel
theorem dX12_putEvents_22 : decode cX12_putEvents 22 = .ok (.ifCond .ne 5, 3) := by decide +kernel
theorem dX12_putEvents_25 : decode cX12_putEvents 25 = .ok (.iconst 0, 1) := by decide +kernel
theorem dX12_putEvents_26 : decode cX12_putEvents 26 = .ok (.ireturn, 1) := by decide +kernel
theorem dX12_putEvents_27 : decode cX12_putEvents 27 = .ok (.aload_n 0, 1) := by decide +kernel
theorem dX12_putEvents_28 : decode cX12_putEvents 28 = .ok (.bipush 32, 2) := by decide +kernel
theorem dX12_putEvents_30 : decode cX12_putEvents 30 = .ok (.invokevirtual 144, 3) := by decide +kernel
theorem dX12_putEvents_33 : decode cX12_putEvents 33 = .ok (.aload_n 0, 1) := by decide +kernel
theorem dX12_putEvents_34 : decode cX12_putEvents 34 = .ok (.iload_n 1, 1) := by decide +kernel
theorem dX12_putEvents_35 : decode cX12_putEvents 35 = .ok (.invokevirtual 144, 3) := by decide +kernel
theorem dX12_putEvents_38 : decode cX12_putEvents 38 = .ok (.aload_n 0, 1) := by decide +kernel
theorem dX12_putEvents_39 : decode cX12_putEvents 39 = .ok (.iload_n 3, 1) := by decide +kernel
theorem dX12_putEvents_40 : decode cX12_putEvents 40 = .ok (.invokevirtual 144, 3) := by decide +kernel
theorem dX12_putEvents_43 : decode cX12_putEvents 43 = .ok (.bipush 8, 2) := by decide +kernel
theorem dX12_putEvents_45 : decode cX12_putEvents 45 = .ok (.iload_n 1, 1) := by decide +kernel
theorem dX12_putEvents_46 : decode cX12_putEvents 46 = .ok (.imul, 1) := by decide +kernel
theorem dX12_putEvents_47 : decode cX12_putEvents 47 = .ok (.istore 4, 2) := by decide +kernel
theorem dX12_putEvents_49 : decode cX12_putEvents 49 = .ok (.iload 4, 2) := by decide +kernel
theorem dX12_putEvents_51 : decode cX12_putEvents 51 = .ok (.bipush 8, 2) := by decide +kernel
theorem dX12_putEvents_53 : decode cX12_putEvents 53 = .ok (.iload_n 1, 1) := by decide +kernel
theorem dX12_putEvents_54 : decode cX12_putEvents 54 = .ok (.imul, 1) := by decide +kernel
theorem dX12_putEvents_55 : decode cX12_putEvents 55 = .ok (.iload_n 3, 1) := by decide +kernel
theorem dX12_putEvents_56 : decode cX12_putEvents 56 = .ok (.iadd, 1) := by decide +kernel
theorem dX12_putEvents_57 : decode cX12_putEvents 57 = .ok (.if_icmp .ge 52, 3) := by decide +kernel
theorem dX12_putEvents_60 : decode cX12_putEvents 60 = .ok (.aload_n 0, 1) := by decide +kernel
theorem dX12_putEvents_61 : decode cX12_putEvents 61 = .ok (.aload_n 0, 1) := by decide +kernel
theorem dX12_putEvents_62 : decode cX12_putEvents 62 = .ok (.getfield 22, 3) := by decide +kernel
theorem dX12_putEvents_65 : decode cX12_putEvents 65 = .ok (.iload 4, 2) := by decide +kernel
theorem dX12_putEvents_67 : decode cX12_putEvents 67 = .ok (.iaload, 1) := by decide +kernel
theorem dX12_putEvents_68 : decode cX12_putEvents 68 = .ok (.invokevirtual 144, 3) := by decide +kernel
theorem dX12_putEvents_71 : decode cX12_putEvents 71 = .ok (.aload_n 0, 1) := by decide +kernel
theorem dX12_putEvents_72 : decode cX12_putEvents 72 = .ok (.aload_n 0, 1) := by decide +kernel
theorem dX12_putEvents_73 : decode cX12_putEvents 73 = .ok (.getfield 25, 3) := by decide +kernel
theorem dX12_putEvents_76 : decode cX12_putEvents 76 = .ok (.iload 4, 2) := by decide +kernel
theorem dX12_putEvents_78 : decode cX12_putEvents 78 = .ok (.iaload, 1) := by decide +kernel
theorem dX12_putEvents_79 : decode cX12_putEvents 79 = .ok (.iconst 2, 1) := by decide +kernel
theorem dX12_putEvents_80 : decode cX12_putEvents 80 = .ok (.invokevirtual 150, 3) := by decide +kernel
theorem dX12_putEvents_83 : decode cX12_putEvents 83 = .ok (.aload_n 0, 1) := by decide +kernel
theorem dX12_putEvents_84 : decode cX12_putEvents 84 = .ok (.aload_n 0, 1) := by decide +kernel
theorem dX12_putEvents_85 : decode cX12_putEvents 85 = .ok (.getfield 28, 3) := by decide +kernel
theorem dX12_putEvents_88 : decode cX12_putEvents 88 = .ok (.iload 4, 2) := by decide +kernel
theorem dX12_putEvents_90 : decode cX12_putEvents 90 = .ok (.iaload, 1) := by decide +kernel
theorem dX12_putEvents_91 : decode cX12_putEvents 91 = .ok (.iconst 4, 1) := by decide +kernel
theorem dX12_putEvents_92 : decode cX12_putEvents 92 = .ok (.invokevirtual 150, 3) := by decide +kernel
theorem dX12_putEvents_95 : decode cX12_putEvents 95 = .ok (.aload_n 0, 1) := by decide +kernel
theorem dX12_putEvents_96 : decode cX12_putEvents 96 = .ok (.getfield 31, 3) := by decide +kernel
theorem dX12_putEvents_99 : decode cX12_putEvents 99 = .ok (.iload 4, 2) := by decide +kernel
theorem dX12_putEvents_101 : decode cX12_putEvents 101 = .ok (.iconst 1, 1) := by decide +kernel
theorem dX12_putEvents_102 : decode cX12_putEvents 102 = .ok (.bastore, 1) := by decide +kernel
theorem dX12_putEvents_103 : decode cX12_putEvents 103 = .ok (.iinc 4 1, 3) := by decide +kernel
theorem dX12_putEvents_106 : decode cX12_putEvents 106 = .ok (.goto (-57), 3) := by decide +kernel
theorem dX12_putEvents_109 : decode cX12_putEvents 109 = .ok (.iload_n 3, 1) := by decide +kernel
theorem dX12_putEvents_110 : decode cX12_putEvents 110 = .ok (.ireturn, 1) := by decide +kernel
theorem dX12_putState_0 : decode cX12_putState 0 = .ok (.iconst 0, 1) := by decide +kernel
theorem dX12_putState_1 : decode cX12_putState 1 = .ok (.istore_n 1, 1) := by decide +kernel
theorem dX12_putState_2 : decode cX12_putState 2 = .ok (.iconst 1, 1) := by decide +kernel
theorem dX12_putState_3 : decode cX12_putState 3 = .ok (.istore_n 2, 1) := by decide +kernel
theorem dX12_putState_4 : decode cX12_putState 4 = .ok (.iload_n 2, 1) := by decide +kernel
theorem dX12_putState_5 : decode cX12_putState 5 = .ok (.iconst 4, 1) := by decide +kernel
theorem dX12_putState_6 : decode cX12_putState 6 = .ok (.if_icmp .ge 73, 3) := by decide +kernel
theorem dX12_putState_9 : decode cX12_putState 9 = .ok (.iconst 0, 1) := by decide +kernel
theorem dX12_putState_10 : decode cX12_putState 10 = .ok (.istore_n 3, 1) := by decide +kernel
theorem dX12_putState_11 : decode cX12_putState 11 = .ok (.bipush 8, 2) := by decide +kernel
theorem dX12_putState_13 : decode cX12_putState 13 = .ok (.iload_n 2, 1) := by decide +kernel
theorem dX12_putState_14 : decode cX12_putState 14 = .ok (.imul, 1) := by decide +kernel
theorem dX12_putState_15 : decode cX12_putState 15 = .ok (.istore 4, 2) := by decide +kernel
theorem dX12_putState_17 : decode cX12_putState 17 = .ok (.iload 4, 2) := by decide +kernel
theorem dX12_putState_19 : decode cX12_putState 19 = .ok (.bipush 8, 2) := by decide +kernel
theorem dX12_putState_21 : decode cX12_putState 21 = .ok (.iload_n 2, 1) := by decide +kernel
theorem dX12_putState_22 : decode cX12_putState 22 = .ok (.imul, 1) := by decide +kernel
theorem dX12_putState_23 : decode cX12_putState 23 = .ok (.aload_n 0, 1) := by decide +kernel
theorem dX12_putState_24 : decode cX12_putState 24 = .ok (.getfield 19, 3) := by decide +kernel
theorem dX12_putState_27 : decode cX12_putState 27 = .ok (.iload_n 2, 1) := by decide +kernel
theorem dX12_putState_28 : decode cX12_putState 28 = .ok (.iaload, 1) := by decide +kernel
theorem dX12_putState_29 : decode cX12_putState 29 = .ok (.iadd, 1) := by decide +kernel
theorem dX12_putState_30 : decode cX12_putState 30 = .ok (.if_icmp .ge 29, 3) := by decide +kernel
theorem dX12_putState_33 : decode cX12_putState 33 = .ok (.iload_n 3, 1) := by decide +kernel
theorem dX12_putState_34 : decode cX12_putState 34 = .ok (.ifCond .ne 13, 3) := by decide +kernel
theorem dX12_putState_37 : decode cX12_putState 37 = .ok (.aload_n 0, 1) := by decide +kernel
theorem dX12_putState_38 : decode cX12_putState 38 = .ok (.getfield 31, 3) := by decide +kernel
theorem dX12_putState_41 : decode cX12_putState 41 = .ok (.iload 4, 2) := by decide +kernel
theorem dX12_putState_43 : decode cX12_putState 43 = .ok (.baload, 1) := by decide +kernel
theorem dX12_putState_44 : decode cX12_putState 44 = .ok (.ifCond .ne 7, 3) := by decide +kernel
theorem dX12_putState_47 : decode cX12_putState 47 = .ok (.iconst 1, 1) := by decide +kernel
theorem dX12_putState_48 : decode cX12_putState 48 = .ok (.goto 4, 3) := by decide +kernel
theorem dX12_putState_51 : decode cX12_putState 51 = .ok (.iconst 0, 1) := by decide +kernel
theorem dX12_putState_52 : decode cX12_putState 52 = .ok (.istore_n 3, 1) := by decide +kernel
theorem dX12_putState_53 : decode cX12_putState 53 = .ok (.iinc 4 1, 3) := by decide +kernel
theorem dX12_putState_56 : decode cX12_putState 56 = .ok (.goto (-39), 3) := by decide +kernel
theorem dX12_putState_59 : decode cX12_putState 59 = .ok (.iload_n 1, 1) := by decide +kernel
theorem dX12_putState_60 : decode cX12_putState 60 = .ok (.iload_n 3, 1) := by decide +kernel
theorem dX12_putState_61 : decode cX12_putState 61 = .ok (.ifCond .eq 9, 3) := by decide +kernel
theorem dX12_putState_64 : decode cX12_putState 64 = .ok (.iconst 1, 1) := by decide +kernel
theorem dX12_putState_65 : decode cX12_putState 65 = .ok (.iload_n 2, 1) := by decide +kernel
theorem dX12_putState_66 : decode cX12_putState 66 = .ok (.ishl, 1) := by decide +kernel
theorem dX12_putState_67 : decode cX12_putState 67 = .ok (.goto 4, 3) := by decide +kernel
theorem dX12_putState_70 : decode cX12_putState 70 = .ok (.iconst 0, 1) := by decide +kernel
theorem dX12_putState_71 : decode cX12_putState 71 = .ok (.iadd, 1) := by decide +kernel
theorem dX12_putState_72 : decode cX12_putState 72 = .ok (.istore_n 1, 1) := by decide +kernel
theorem dX12_putState_73 : decode cX12_putState 73 = .ok (.iinc 2 1, 3) := by decide +kernel
theorem dX12_putState_76 : decode cX12_putState 76 = .ok (.goto (-72), 3) := by decide +kernel
theorem dX12_putState_79 : decode cX12_putState 79 = .ok (.aload_n 0, 1) := by decide +kernel
theorem dX12_putState_80 : decode cX12_putState 80 = .ok (.getfield 75, 3) := by decide +kernel
theorem dX12_putState_83 : decode cX12_putState 83 = .ok (.iconst 2, 1) := by decide +kernel
theorem dX12_putState_84 : decode cX12_putState 84 = .ok (.iload_n 1, 1) := by decide +kernel
theorem dX12_putState_85 : decode cX12_putState 85 = .ok (.iastore, 1) := by decide +kernel
theorem dX12_putState_86 : decode cX12_putState 86 = .ok (.aload_n 0, 1) := by decide +kernel
theorem dX12_putState_87 : decode cX12_putState 87 = .ok (.getfield 75, 3) := by decide +kernel
theorem dX12_putState_90 : decode cX12_putState 90 = .ok (.iconst 3, 1) := by decide +kernel
theorem dX12_putState_91 : decode cX12_putState 91 = .ok (.aload_n 0, 1) := by decide +kernel
theorem dX12_putState_92 : decode cX12_putState 92 = .ok (.getfield 154, 3) := by decide +kernel
theorem dX12_putState_95 : decode cX12_putState 95 = .ok (.ifCond .eq 8, 3) := by decide +kernel
theorem dX12_putState_98 : decode cX12_putState 98 = .ok (.bipush 8, 2) := by decide +kernel
theorem dX12_putState_100 : decode cX12_putState 100 = .ok (.goto 4, 3) := by decide +kernel
theorem dX12_putState_103 : decode cX12_putState 103 = .ok (.iconst 0, 1) := by decide +kernel
theorem dX12_putState_104 : decode cX12_putState 104 = .ok (.iastore, 1) := by decide +kernel
theorem dX12_putState_105 : decode cX12_putState 105 = .ok (.return_, 1) := by decide +kernel
theorem dX12_isRead_0 : decode cX12_isRead 0 = .ok (.aload_n 0, 1) := by decide +kernel
theorem dX12_isRead_1 : decode cX12_isRead 1 = .ok (.getfield 78, 3) := by decide +kernel
theorem dX12_isRead_4 : decode cX12_isRead 4 = .ok (.iconst 1, 1) := by decide +kernel
theorem dX12_isRead_5 : decode cX12_isRead 5 = .ok (.iaload, 1) := by decide +kernel
theorem dX12_isRead_6 : decode cX12_isRead 6 = .ok (.iconst 1, 1) := by decide +kernel
theorem dX12_isRead_7 : decode cX12_isRead 7 = .ok (.if_icmp .ne 46, 3) := by decide +kernel
theorem dX12_isRead_10 : decode cX12_isRead 10 = .ok (.aload_n 0, 1) := by decide +kernel
theorem dX12_isRead_11 : decode cX12_isRead 11 = .ok (.getfield 78, 3) := by decide +kernel
theorem dX12_isRead_14 : decode cX12_isRead 14 = .ok (.iconst 0, 1) := by decide +kernel
theorem dX12_isRead_15 : decode cX12_isRead 15 = .ok (.iaload, 1) := by decide +kernel
theorem dX12_isRead_16 : decode cX12_isRead 16 = .ok (.bipush 16, 2) := by decide +kernel
theorem dX12_isRead_18 : decode cX12_isRead 18 = .ok (.iand, 1) := by decide +kernel
theorem dX12_isRead_19 : decode cX12_isRead 19 = .ok (.ifCond .ne 34, 3) := by decide +kernel
theorem dX12_isRead_22 : decode cX12_isRead 22 = .ok (.aload_n 0, 1) := by decide +kernel
theorem dX12_isRead_23 : decode cX12_isRead 23 = .ok (.getfield 127, 3) := by decide +kernel
theorem dX12_isRead_26 : decode cX12_isRead 26 = .ok (.iconst 5, 1) := by decide +kernel
theorem dX12_isRead_27 : decode cX12_isRead 27 = .ok (.if_icmp .lt 26, 3) := by decide +kernel
theorem dX12_isRead_30 : decode cX12_isRead 30 = .ok (.aload_n 0, 1) := by decide +kernel
theorem dX12_isRead_31 : decode cX12_isRead 31 = .ok (.getfield 127, 3) := by decide +kernel
theorem dX12_isRead_34 : decode cX12_isRead 34 = .ok (.bipush 14, 2) := by decide +kernel
theorem dX12_isRead_36 : decode cX12_isRead 36 = .ok (.if_icmp .gt 17, 3) := by decide +kernel
theorem dX12_isRead_39 : decode cX12_isRead 39 = .ok (.aload_n 0, 1) := by decide +kernel
theorem dX12_isRead_40 : decode cX12_isRead 40 = .ok (.getfield 127, 3) := by decide +kernel
theorem dX12_isRead_43 : decode cX12_isRead 43 = .ok (.iconst 3, 1) := by decide +kernel
theorem dX12_isRead_44 : decode cX12_isRead 44 = .ok (.irem, 1) := by decide +kernel
theorem dX12_isRead_45 : decode cX12_isRead 45 = .ok (.iconst 2, 1) := by decide +kernel
theorem dX12_isRead_46 : decode cX12_isRead 46 = .ok (.if_icmp .ne 7, 3) := by decide +kernel
theorem dX12_isRead_49 : decode cX12_isRead 49 = .ok (.iconst 1, 1) := by decide +kernel
theorem dX12_isRead_50 : decode cX12_isRead 50 = .ok (.goto 4, 3) := by decide +kernel
theorem dX12_isRead_53 : decode cX12_isRead 53 = .ok (.iconst 0, 1) := by decide +kernel
theorem dX12_isRead_54 : decode cX12_isRead 54 = .ok (.istore_n 1, 1) := by decide +kernel
theorem dX12_isRead_55 : decode cX12_isRead 55 = .ok (.iconst 2, 1) := by decide +kernel
theorem dX12_isRead_56 : decode cX12_isRead 56 = .ok (.istore_n 2, 1) := by decide +kernel
theorem dX12_isRead_57 : decode cX12_isRead 57 = .ok (.iload_n 2, 1) := by decide +kernel
theorem dX12_isRead_58 : decode cX12_isRead 58 = .ok (.aload_n 0, 1) := by decide +kernel
theorem dX12_isRead_59 : decode cX12_isRead 59 = .ok (.getfield 127, 3) := by decide +kernel
theorem dX12_isRead_62 : decode cX12_isRead 62 = .ok (.if_icmp .ge 67, 3) := by decide +kernel
theorem dX12_isRead_65 : decode cX12_isRead 65 = .ok (.iload_n 1, 1) := by decide +kernel
theorem dX12_isRead_66 : decode cX12_isRead 66 = .ok (.ifCond .eq 63, 3) := by decide +kernel
theorem dX12_isRead_69 : decode cX12_isRead 69 = .ok (.aload_n 0, 1) := by decide +kernel
theorem dX12_isRead_70 : decode cX12_isRead 70 = .ok (.getfield 78, 3) := by decide +kernel
theorem dX12_isRead_73 : decode cX12_isRead 73 = .ok (.iload_n 2, 1) := by decide +kernel
theorem dX12_isRead_74 : decode cX12_isRead 74 = .ok (.iaload, 1) := by decide +kernel
theorem dX12_isRead_75 : decode cX12_isRead 75 = .ok (.bipush 60, 2) := by decide +kernel
theorem dX12_isRead_77 : decode cX12_isRead 77 = .ok (.if_icmp .ne 44, 3) := by decide +kernel
theorem dX12_isRead_80 : decode cX12_isRead 80 = .ok (.aload_n 0, 1) := by decide +kernel
theorem dX12_isRead_81 : decode cX12_isRead 81 = .ok (.getfield 78, 3) := by decide +kernel
theorem dX12_isRead_84 : decode cX12_isRead 84 = .ok (.iload_n 2, 1) := by decide +kernel
theorem dX12_isRead_85 : decode cX12_isRead 85 = .ok (.iconst 1, 1) := by decide +kernel
theorem dX12_isRead_86 : decode cX12_isRead 86 = .ok (.iadd, 1) := by decide +kernel
theorem dX12_isRead_87 : decode cX12_isRead 87 = .ok (.iaload, 1) := by decide +kernel
theorem dX12_isRead_88 : decode cX12_isRead 88 = .ok (.iconst 1, 1) := by decide +kernel
theorem dX12_isRead_89 : decode cX12_isRead 89 = .ok (.if_icmp .lt 32, 3) := by decide +kernel
theorem dX12_isRead_92 : decode cX12_isRead 92 = .ok (.aload_n 0, 1) := by decide +kernel
theorem dX12_isRead_93 : decode cX12_isRead 93 = .ok (.getfield 78, 3) := by decide +kernel
theorem dX12_isRead_96 : decode cX12_isRead 96 = .ok (.iload_n 2, 1) := by decide +kernel
theorem dX12_isRead_97 : decode cX12_isRead 97 = .ok (.iconst 1, 1) := by decide +kernel
theorem dX12_isRead_98 : decode cX12_isRead 98 = .ok (.iadd, 1) := by decide +kernel
theorem dX12_isRead_99 : decode cX12_isRead 99 = .ok (.iaload, 1) := by decide +kernel
theorem dX12_isRead_100 : decode cX12_isRead 100 = .ok (.iconst 4, 1) := by decide +kernel
theorem dX12_isRead_101 : decode cX12_isRead 101 = .ok (.if_icmp .gt 20, 3) := by decide +kernel
theorem dX12_isRead_104 : decode cX12_isRead 104 = .ok (.aload_n 0, 1) := by decide +kernel
theorem dX12_isRead_105 : decode cX12_isRead 105 = .ok (.getfield 78, 3) := by decide +kernel
theorem dX12_isRead_108 : decode cX12_isRead 108 = .ok (.iload_n 2, 1) := by decide +kernel
theorem dX12_isRead_109 : decode cX12_isRead 109 = .ok (.iconst 2, 1) := by decide +kernel
theorem dX12_isRead_110 : decode cX12_isRead 110 = .ok (.iadd, 1) := by decide +kernel
theorem dX12_isRead_111 : decode cX12_isRead 111 = .ok (.iaload, 1) := by decide +kernel
theorem dX12_isRead_112 : decode cX12_isRead 112 = .ok (.bipush 6, 2) := by decide +kernel
theorem dX12_isRead_114 : decode cX12_isRead 114 = .ok (.if_icmp .ne 7, 3) := by decide +kernel
theorem dX12_isRead_117 : decode cX12_isRead 117 = .ok (.iconst 1, 1) := by decide +kernel
theorem dX12_isRead_118 : decode cX12_isRead 118 = .ok (.goto 4, 3) := by decide +kernel
theorem dX12_isRead_121 : decode cX12_isRead 121 = .ok (.iconst 0, 1) := by decide +kernel
theorem dX12_isRead_122 : decode cX12_isRead 122 = .ok (.istore_n 1, 1) := by decide +kernel
theorem dX12_isRead_123 : decode cX12_isRead 123 = .ok (.iinc 2 3, 3) := by decide +kernel
theorem dX12_isRead_126 : decode cX12_isRead 126 = .ok (.goto (-69), 3) := by decide +kernel
theorem dX12_isRead_129 : decode cX12_isRead 129 = .ok (.iload_n 1, 1) := by decide +kernel
theorem dX12_isRead_130 : decode cX12_isRead 130 = .ok (.ireturn, 1) := by decide +kernel
theorem dX12_isNew_0 : decode cX12_isNew 0 = .ok (.iconst 1, 1) := by decide +kernel
theorem dX12_isNew_1 : decode cX12_isNew 1 = .ok (.istore_n 2, 1) := by decide +kernel
theorem dX12_isNew_2 : decode cX12_isNew 2 = .ok (.iconst 2, 1) := by decide +kernel
theorem dX12_isNew_3 : decode cX12_isNew 3 = .ok (.istore_n 3, 1) := by decide +kernel
theorem dX12_isNew_4 : decode cX12_isNew 4 = .ok (.iload_n 3, 1) := by decide +kernel
theorem dX12_isNew_5 : decode cX12_isNew 5 = .ok (.iload_n 1, 1) := by decide +kernel
theorem dX12_isNew_6 : decode cX12_isNew 6 = .ok (.if_icmp .ge 38, 3) := by decide +kernel
theorem dX12_isNew_9 : decode cX12_isNew 9 = .ok (.iload_n 2, 1) := by decide +kernel
theorem dX12_isNew_10 : decode cX12_isNew 10 = .ok (.ifCond .eq 26, 3) := by decide +kernel
theorem dX12_isNew_13 : decode cX12_isNew 13 = .ok (.aload_n 0, 1) := by decide +kernel
theorem dX12_isNew_14 : decode cX12_isNew 14 = .ok (.getfield 78, 3) := by decide +kernel
theorem dX12_isNew_17 : decode cX12_isNew 17 = .ok (.iload_n 3, 1) := by decide +kernel
theorem dX12_isNew_18 : decode cX12_isNew 18 = .ok (.iconst 1, 1) := by decide +kernel
theorem dX12_isNew_19 : decode cX12_isNew 19 = .ok (.iadd, 1) := by decide +kernel
theorem dX12_isNew_20 : decode cX12_isNew 20 = .ok (.iaload, 1) := by decide +kernel
theorem dX12_isNew_21 : decode cX12_isNew 21 = .ok (.aload_n 0, 1) := by decide +kernel
theorem dX12_isNew_22 : decode cX12_isNew 22 = .ok (.getfield 78, 3) := by decide +kernel
theorem dX12_isNew_25 : decode cX12_isNew 25 = .ok (.iload_n 1, 1) := by decide +kernel
theorem dX12_isNew_26 : decode cX12_isNew 26 = .ok (.iconst 1, 1) := by decide +kernel
theorem dX12_isNew_27 : decode cX12_isNew 27 = .ok (.iadd, 1) := by decide +kernel
theorem dX12_isNew_28 : decode cX12_isNew 28 = .ok (.iaload, 1) := by decide +kernel
theorem dX12_isNew_29 : decode cX12_isNew 29 = .ok (.if_icmp .eq 7, 3) := by decide +kernel
theorem dX12_isNew_32 : decode cX12_isNew 32 = .ok (.iconst 1, 1) := by decide +kernel
theorem dX12_isNew_33 : decode cX12_isNew 33 = .ok (.goto 4, 3) := by decide +kernel
theorem dX12_isNew_36 : decode cX12_isNew 36 = .ok (.iconst 0, 1) := by decide +kernel
theorem dX12_isNew_37 : decode cX12_isNew 37 = .ok (.istore_n 2, 1) := by decide +kernel
theorem dX12_isNew_38 : decode cX12_isNew 38 = .ok (.iinc 3 3, 3) := by decide +kernel
theorem dX12_isNew_41 : decode cX12_isNew 41 = .ok (.goto (-37), 3) := by decide +kernel
theorem dX12_isNew_44 : decode cX12_isNew 44 = .ok (.iload_n 2, 1) := by decide +kernel
theorem dX12_isNew_45 : decode cX12_isNew 45 = .ok (.ireturn, 1) := by decide +kernel
set_option maxRecDepth 20000 in
theorem ggX12_respond_X12_noneWaits : GoodIn wsX12_respond wsX12_noneWaits := goodIn_r _ [11, 4, 12, 78, 79, 80, 81, 82, 83, 84, 85, 86, 87, 88, 89, 90, 91, 92, 93, 94, 95, 96, 97, 98, 99, 100, 101, 102, 103, 104, 105, 106, 107, 108, 109, 110, 111, 112, 113, 114, 115, 116, 117, 118, 119, 120, 121, 122, 123, 124] (by decide +kernel) (by decide +kernel)
set_option maxRecDepth 20000 in
theorem gX12_respond_X12_noneWaits : GoodIn wsX12_respond (wsV RX12 157 RX12 yX12_noneWaits wsX12_noneWaits) := goodIn_app (goodIn_of _ (by decide +kernel)) ggX12_respond_X12_noneWaits
set_option maxRecDepth 20000 in
theorem ggX12_respond_X12_begin : GoodIn wsX12_respond wsX12_begin := goodIn_r _ [16, 17, 18, 19, 20, 10, 21, 3, 78, 79, 80, 81, 82, 83, 84, 85, 86, 87, 88, 89, 90, 91, 92, 93, 94, 95, 96, 97, 98, 99, 100, 101, 102, 103, 104, 105, 106, 107, 108, 109, 110, 111, 112, 113, 114, 115, 116, 117, 118, 119, 120, 121, 122, 123, 124] (by decide +kernel) (by decide +kernel)
set_option maxRecDepth 20000 in
theorem gX12_respond_X12_begin : GoodIn wsX12_respond (wsV RX12 160 RX12 yX12_begin wsX12_begin) := goodIn_app (goodIn_of _ (by decide +kernel)) ggX12_respond_X12_begin
set_option maxRecDepth 20000 in
theorem ggX12_respond_X12_put : GoodIn wsX12_respond wsX12_put := goodIn_r _ [21, 3, 17, 78, 79, 80, 81, 82, 83, 84, 85, 86, 87, 88, 89, 90, 91, 92, 93, 94, 95, 96, 97, 98, 99, 100, 101, 102, 103, 104, 105, 106, 107, 108, 109, 110, 111, 112, 113, 114, 115, 116, 117, 118, 119, 120, 121, 122, 123, 124] (by decide +kernel) (by decide +kernel)
set_option maxRecDepth 20000 in
theorem gX12_respond_X12_put : GoodIn wsX12_respond (wsV RX12 144 RX12 yX12_put wsX12_put) := goodIn_app (goodIn_of _ (by decide +kernel)) ggX12_respond_X12_put
set_option maxRecDepth 20000 in
theorem ggX12_respond_X12_isNew : GoodIn wsX12_respond wsX12_isNew := goodIn_r _ [25, 1, 78, 79, 80, 81, 82, 83, 84, 85, 86, 87, 88, 89, 90, 91, 92, 93, 94, 95, 96, 97, 98, 99, 100, 101, 102, 103, 104, 105, 106, 107, 108, 109, 110, 111, 112, 113, 114, 115, 116, 117, 118, 119, 120, 121, 122, 123, 124] (by decide +kernel) (by decide +kernel)
set_option maxRecDepth 20000 in
theorem gX12_respond_X12_isNew : GoodIn wsX12_respond (wsV RX12 163 RX12 yX12_isNew wsX12_isNew) := goodIn_app (goodIn_of _ (by decide +kernel)) ggX12_respond_X12_isNew
set_option maxRecDepth 20000 in
theorem ggX12_respond_X12_putPoints : GoodIn wsX12_respond wsX12_putPoints := goodIn_r _ [29, 30, 18, 19, 20, 10, 21, 3, 17, 31, 32, 33, 34, 78, 79, 80, 81, 82, 83, 84, 85, 86, 87, 88, 89, 90, 91, 92, 93, 94, 95, 96, 97, 98, 99, 100, 101, 102, 103, 104, 105, 106, 107, 108, 109, 110, 111, 112, 113, 114, 115, 116, 117, 118, 119, 120, 121, 122, 123, 124] (by decide +kernel) (by decide +kernel)
set_option maxRecDepth 20000 in
theorem gX12_respond_X12_putPoints : GoodIn wsX12_respond (wsV RX12 166 RX12 yX12_putPoints wsX12_putPoints) := goodIn_app (goodIn_of _ (by decide +kernel)) ggX12_respond_X12_putPoints
set_option maxRecDepth 20000 in
theorem ggX12_respond_X12_putEvents : GoodIn wsX12_respond wsX12_putEvents := goodIn_r _ [38, 39, 40, 41, 42, 12, 18, 19, 20, 10, 21, 3, 17, 31, 32, 33, 34, 78, 79, 80, 81, 82, 83, 84, 85, 86, 87, 88, 89, 90, 91, 92, 93, 94, 95, 96, 97, 98, 99, 100, 101, 102, 103, 104, 105, 106, 107, 108, 109, 110, 111, 112, 113, 114, 115, 116, 117, 118, 119, 120, 121, 122, 123, 124] (by decide +kernel) (by decide +kernel)
set_option maxRecDepth 20000 in
theorem gX12_respond_X12_putEvents : GoodIn wsX12_respond (wsV RX12 169 RX12 yX12_putEvents wsX12_putEvents) := goodIn_app (goodIn_of _ (by decide +kernel)) ggX12_respond_X12_putEvents
set_option maxRecDepth 20000 in
theorem ggX12_respond_X12_putState : GoodIn wsX12_respond wsX12_putState := goodIn_r _ [46, 39, 12, 3, 6, 78, 79, 80, 81, 82, 83, 84, 85, 86, 87, 88, 89, 90, 91, 92, 93, 94, 95, 96, 97, 98, 99, 100, 101, 102, 103, 104, 105, 106, 107, 108, 109, 110, 111, 112, 113, 114, 115, 116, 117, 118, 119, 120, 121, 122, 123, 124] (by decide +kernel) (by decide +kernel)
set_option maxRecDepth 20000 in
theorem gX12_respond_X12_putState : GoodIn wsX12_respond (wsV RX12 172 RX12 yX12_putState wsX12_putState) := goodIn_app (goodIn_of _ (by decide +kernel)) ggX12_respond_X12_putState
set_option maxRecDepth 20000 in
theorem ggX12_respond_X12_send : GoodIn wsX12_respond wsX12_send := goodIn_r _ [50, 17, 51, 52, 53, 10, 54, 55, 56, 57, 58, 3, 59, 60, 61, 62, 63, 64, 65, 66, 67, 68, 69, 70, 71, 72, 73, 74, 75, 76, 77, 78, 79, 80, 81, 82, 83, 84, 85, 86, 87, 88, 89, 90, 91, 92, 93, 94, 95, 96, 97, 98, 99, 100, 101, 102, 103, 104, 105, 106, 107, 108, 109, 110, 111, 112, 113, 114, 115, 116, 117, 118, 119, 120, 121, 122, 123, 124] (by decide +kernel) (by decide +kernel)
set_option maxRecDepth 20000 in
theorem gX12_respond_X12_send : GoodIn wsX12_respond (wsV RX12 178 RX12 yX12_send wsX12_send) := goodIn_app (goodIn_of _ (by decide +kernel)) ggX12_respond_X12_send
theorem dX12_respond_0 : decode cX12_respond 0 = .ok (.aload_n 0, 1) := by decide +kernel
theorem dX12_respond_1 : decode cX12_respond 1 = .ok (.getfield 78, 3) := by decide +kernel
theorem dX12_respond_4 : decode cX12_respond 4 = .ok (.iconst 0, 1) := by decide +kernel
theorem dX12_respond_5 : decode cX12_respond 5 = .ok (.iaload, 1) := by decide +kernel
theorem dX12_respond_6 : decode cX12_respond 6 = .ok (.bipush 15, 2) := by decide +kernel
theorem dX12_respond_8 : decode cX12_respond 8 = .ok (.iand, 1) := by decide +kernel
theorem dX12_respond_9 : decode cX12_respond 9 = .ok (.istore_n 1, 1) := by decide +kernel
theorem dX12_respond_10 : decode cX12_respond 10 = .ok (.aload_n 0, 1) := by decide +kernel
theorem dX12_respond_11 : decode cX12_respond 11 = .ok (.invokevirtual 157, 3) := by decide +kernel
theorem dX12_respond_14 : decode cX12_respond 14 = .ok (.aload_n 0, 1) := by decide +kernel
theorem dX12_respond_15 : decode cX12_respond 15 = .ok (.iload_n 1, 1) := by decide +kernel
theorem dX12_respond_16 : decode cX12_respond 16 = .ok (.sipush 129, 3) := by decide +kernel
theorem dX12_respond_19 : decode cX12_respond 19 = .ok (.invokevirtual 160, 3) := by decide +kernel
theorem dX12_respond_22 : decode cX12_respond 22 = .ok (.aload_n 0, 1) := by decide +kernel
theorem dX12_respond_23 : decode cX12_respond 23 = .ok (.iconst 0, 1) := by decide +kernel
theorem dX12_respond_24 : decode cX12_respond 24 = .ok (.invokevirtual 144, 3) := by decide +kernel
theorem dX12_respond_27 : decode cX12_respond 27 = .ok (.aload_n 0, 1) := by decide +kernel
theorem dX12_respond_28 : decode cX12_respond 28 = .ok (.iconst 0, 1) := by decide +kernel
theorem dX12_respond_29 : decode cX12_respond 29 = .ok (.invokevirtual 144, 3) := by decide +kernel
theorem dX12_respond_32 : decode cX12_respond 32 = .ok (.bipush 16, 2) := by decide +kernel
theorem dX12_respond_34 : decode cX12_respond 34 = .ok (.istore_n 2, 1) := by decide +kernel
theorem dX12_respond_35 : decode cX12_respond 35 = .ok (.iconst 0, 1) := by decide +kernel
theorem dX12_respond_36 : decode cX12_respond 36 = .ok (.istore_n 3, 1) := by decide +kernel
theorem dX12_respond_37 : decode cX12_respond 37 = .ok (.iconst 2, 1) := by decide +kernel
theorem dX12_respond_38 : decode cX12_respond 38 = .ok (.istore 4, 2) := by decide +kernel
theorem dX12_respond_40 : decode cX12_respond 40 = .ok (.iload 4, 2) := by decide +kernel
theorem dX12_respond_42 : decode cX12_respond 42 = .ok (.aload_n 0, 1) := by decide +kernel
theorem dX12_respond_43 : decode cX12_respond 43 = .ok (.getfield 127, 3) := by decide +kernel
theorem dX12_respond_46 : decode cX12_respond 46 = .ok (.if_icmp .ge 68, 3) := by decide +kernel
theorem dX12_respond_49 : decode cX12_respond 49 = .ok (.aload_n 0, 1) := by decide +kernel
theorem dX12_respond_50 : decode cX12_respond 50 = .ok (.iload 4, 2) := by decide +kernel
theorem dX12_respond_52 : decode cX12_respond 52 = .ok (.invokevirtual 163, 3) := by decide +kernel
theorem dX12_respond_55 : decode cX12_respond 55 = .ok (.ifCond .eq 25, 3) := by decide +kernel
theorem dX12_respond_58 : decode cX12_respond 58 = .ok (.aload_n 0, 1) := by decide +kernel
theorem dX12_respond_59 : decode cX12_respond 59 = .ok (.getfield 78, 3) := by decide +kernel
theorem dX12_respond_62 : decode cX12_respond 62 = .ok (.iload 4, 2) := by decide +kernel
theorem dX12_respond_64 : decode cX12_respond 64 = .ok (.iconst 1, 1) := by decide +kernel
theorem dX12_respond_65 : decode cX12_respond 65 = .ok (.iadd, 1) := by decide +kernel
theorem dX12_respond_66 : decode cX12_respond 66 = .ok (.iaload, 1) := by decide +kernel
theorem dX12_respond_67 : decode cX12_respond 67 = .ok (.iconst 1, 1) := by decide +kernel
theorem dX12_respond_68 : decode cX12_respond 68 = .ok (.if_icmp .ne 12, 3) := by decide +kernel
theorem dX12_respond_71 : decode cX12_respond 71 = .ok (.aload_n 0, 1) := by decide +kernel
theorem dX12_respond_72 : decode cX12_respond 72 = .ok (.invokevirtual 166, 3) := by decide +kernel
theorem dX12_respond_75 : decode cX12_respond 75 = .ok (.iconst 1, 1) := by decide +kernel
theorem dX12_respond_76 : decode cX12_respond 76 = .ok (.istore_n 3, 1) := by decide +kernel
theorem dX12_respond_77 : decode cX12_respond 77 = .ok (.goto 31, 3) := by decide +kernel
theorem dX12_respond_80 : decode cX12_respond 80 = .ok (.aload_n 0, 1) := by decide +kernel
theorem dX12_respond_81 : decode cX12_respond 81 = .ok (.iload 4, 2) := by decide +kernel
theorem dX12_respond_83 : decode cX12_respond 83 = .ok (.invokevirtual 163, 3) := by decide +kernel
theorem dX12_respond_86 : decode cX12_respond 86 = .ok (.ifCond .eq 22, 3) := by decide +kernel
theorem dX12_respond_89 : decode cX12_respond 89 = .ok (.iload_n 2, 1) := by decide +kernel
theorem dX12_respond_90 : decode cX12_respond 90 = .ok (.aload_n 0, 1) := by decide +kernel
theorem dX12_respond_91 : decode cX12_respond 91 = .ok (.aload_n 0, 1) := by decide +kernel
theorem dX12_respond_92 : decode cX12_respond 92 = .ok (.getfield 78, 3) := by decide +kernel
theorem dX12_respond_95 : decode cX12_respond 95 = .ok (.iload 4, 2) := by decide +kernel
theorem dX12_respond_97 : decode cX12_respond 97 = .ok (.iconst 1, 1) := by decide +kernel
theorem dX12_respond_98 : decode cX12_respond 98 = .ok (.iadd, 1) := by decide +kernel
theorem dX12_respond_99 : decode cX12_respond 99 = .ok (.iaload, 1) := by decide +kernel
theorem dX12_respond_100 : decode cX12_respond 100 = .ok (.iconst 1, 1) := by decide +kernel
theorem dX12_respond_101 : decode cX12_respond 101 = .ok (.isub, 1) := by decide +kernel
theorem dX12_respond_102 : decode cX12_respond 102 = .ok (.iload_n 2, 1) := by decide +kernel
theorem dX12_respond_103 : decode cX12_respond 103 = .ok (.invokevirtual 169, 3) := by decide +kernel
theorem dX12_respond_106 : decode cX12_respond 106 = .ok (.isub, 1) := by decide +kernel
theorem dX12_respond_107 : decode cX12_respond 107 = .ok (.istore_n 2, 1) := by decide +kernel
theorem dX12_respond_108 : decode cX12_respond 108 = .ok (.iinc 4 3, 3) := by decide +kernel
theorem dX12_respond_111 : decode cX12_respond 111 = .ok (.goto (-71), 3) := by decide +kernel
theorem dX12_respond_114 : decode cX12_respond 114 = .ok (.aload_n 0, 1) := by decide +kernel
theorem dX12_respond_115 : decode cX12_respond 115 = .ok (.invokevirtual 172, 3) := by decide +kernel
theorem dX12_respond_118 : decode cX12_respond 118 = .ok (.iload_n 2, 1) := by decide +kernel
theorem dX12_respond_119 : decode cX12_respond 119 = .ok (.bipush 16, 2) := by decide +kernel
theorem dX12_respond_121 : decode cX12_respond 121 = .ok (.if_icmp .ge 24, 3) := by decide +kernel
theorem dX12_respond_124 : decode cX12_respond 124 = .ok (.aload_n 0, 1) := by decide +kernel
theorem dX12_respond_125 : decode cX12_respond 125 = .ok (.getfield 75, 3) := by decide +kernel
theorem dX12_respond_128 : decode cX12_respond 128 = .ok (.iconst 0, 1) := by decide +kernel
theorem dX12_respond_129 : decode cX12_respond 129 = .ok (.dup2, 1) := by decide +kernel
theorem dX12_respond_130 : decode cX12_respond 130 = .ok (.iaload, 1) := by decide +kernel
theorem dX12_respond_131 : decode cX12_respond 131 = .ok (.bipush 32, 2) := by decide +kernel
theorem dX12_respond_133 : decode cX12_respond 133 = .ok (.iadd, 1) := by decide +kernel
theorem dX12_respond_134 : decode cX12_respond 134 = .ok (.iastore, 1) := by decide +kernel
theorem dX12_respond_135 : decode cX12_respond 135 = .ok (.aload_n 0, 1) := by decide +kernel
theorem dX12_respond_136 : decode cX12_respond 136 = .ok (.iconst 1, 1) := by decide +kernel
theorem dX12_respond_137 : decode cX12_respond 137 = .ok (.putfield 147, 3) := by decide +kernel
theorem dX12_respond_140 : decode cX12_respond 140 = .ok (.aload_n 0, 1) := by decide +kernel
theorem dX12_respond_141 : decode cX12_respond 141 = .ok (.iload_n 1, 1) := by decide +kernel
theorem dX12_respond_142 : decode cX12_respond 142 = .ok (.putfield 175, 3) := by decide +kernel
theorem dX12_respond_145 : decode cX12_respond 145 = .ok (.aload_n 0, 1) := by decide +kernel
theorem dX12_respond_146 : decode cX12_respond 146 = .ok (.aload_n 0, 1) := by decide +kernel
theorem dX12_respond_147 : decode cX12_respond 147 = .ok (.getfield 154, 3) := by decide +kernel
theorem dX12_respond_150 : decode cX12_respond 150 = .ok (.ifCond .eq 11, 3) := by decide +kernel
theorem dX12_respond_153 : decode cX12_respond 153 = .ok (.iload_n 3, 1) := by decide +kernel
theorem dX12_respond_154 : decode cX12_respond 154 = .ok (.ifCond .ne 7, 3) := by decide +kernel
theorem dX12_respond_157 : decode cX12_respond 157 = .ok (.iconst 1, 1) := by decide +kernel
theorem dX12_respond_158 : decode cX12_respond 158 = .ok (.goto 4, 3) := by decide +kernel
theorem dX12_respond_161 : decode cX12_respond 161 = .ok (.iconst 0, 1) := by decide +kernel
theorem dX12_respond_162 : decode cX12_respond 162 = .ok (.putfield 154, 3) := by decide +kernel
theorem dX12_respond_165 : decode cX12_respond 165 = .ok (.aload_n 0, 1) := by decide +kernel
theorem dX12_respond_166 : decode cX12_respond 166 = .ok (.iconst 0, 1) := by decide +kernel
theorem dX12_respond_167 : decode cX12_respond 167 = .ok (.invokevirtual 178, 3) := by decide +kernel
theorem dX12_respond_170 : decode cX12_respond 170 = .ok (.return_, 1) := by decide +kernel
set_option maxRecDepth 20000 in
theorem ggX12_forget_X12_moveEvent : GoodIn wsX12_forget wsX12_moveEvent := goodIn_r _ [7, 8, 9, 10, 2, 16, 17, 18, 19, 20, 21, 22, 23, 24, 25, 26, 27, 28, 29, 30, 31, 32, 33, 34, 35, 36, 37, 38, 39, 40, 41, 42, 43, 44, 45, 46, 47, 48, 49, 50, 51, 52, 53, 54, 55, 56, 57, 58, 59, 60, 61, 62] (by decide +kernel) (by decide +kernel)
set_option maxRecDepth 20000 in
theorem gX12_forget_X12_moveEvent : GoodIn wsX12_forget (wsV RX12 181 RX12 yX12_moveEvent wsX12_moveEvent) := goodIn_app (goodIn_of _ (by decide +kernel)) ggX12_forget_X12_moveEvent
set_option maxRecDepth 20000 in
theorem ggX12_forget_X12_noneWaits : GoodIn wsX12_forget wsX12_noneWaits := goodIn_r _ [14, 15, 2, 16, 17, 18, 19, 20, 21, 22, 23, 24, 25, 26, 27, 28, 29, 30, 31, 32, 33, 34, 35, 36, 37, 38, 39, 40, 41, 42, 43, 44, 45, 46, 47, 48, 49, 50, 51, 52, 53, 54, 55, 56, 57, 58, 59, 60, 61, 62] (by decide +kernel) (by decide +kernel)
set_option maxRecDepth 20000 in
theorem gX12_forget_X12_noneWaits : GoodIn wsX12_forget (wsV RX12 157 RX12 yX12_noneWaits wsX12_noneWaits) := goodIn_app (goodIn_of _ (by decide +kernel)) ggX12_forget_X12_noneWaits
theorem dX12_forget_0 : decode cX12_forget 0 = .ok (.iconst 1, 1) := by decide +kernel
theorem dX12_forget_1 : decode cX12_forget 1 = .ok (.istore_n 1, 1) := by decide +kernel
theorem dX12_forget_2 : decode cX12_forget 2 = .ok (.iload_n 1, 1) := by decide +kernel
theorem dX12_forget_3 : decode cX12_forget 3 = .ok (.iconst 4, 1) := by decide +kernel
theorem dX12_forget_4 : decode cX12_forget 4 = .ok (.if_icmp .ge 67, 3) := by decide +kernel
theorem dX12_forget_7 : decode cX12_forget 7 = .ok (.iconst 0, 1) := by decide +kernel
theorem dX12_forget_8 : decode cX12_forget 8 = .ok (.istore_n 2, 1) := by decide +kernel
theorem dX12_forget_9 : decode cX12_forget 9 = .ok (.bipush 8, 2) := by decide +kernel
theorem dX12_forget_11 : decode cX12_forget 11 = .ok (.iload_n 1, 1) := by decide +kernel
theorem dX12_forget_12 : decode cX12_forget 12 = .ok (.imul, 1) := by decide +kernel
theorem dX12_forget_13 : decode cX12_forget 13 = .ok (.istore_n 3, 1) := by decide +kernel
theorem dX12_forget_14 : decode cX12_forget 14 = .ok (.iload_n 3, 1) := by decide +kernel
theorem dX12_forget_15 : decode cX12_forget 15 = .ok (.bipush 8, 2) := by decide +kernel
theorem dX12_forget_17 : decode cX12_forget 17 = .ok (.iload_n 1, 1) := by decide +kernel
theorem dX12_forget_18 : decode cX12_forget 18 = .ok (.imul, 1) := by decide +kernel
theorem dX12_forget_19 : decode cX12_forget 19 = .ok (.aload_n 0, 1) := by decide +kernel
theorem dX12_forget_20 : decode cX12_forget 20 = .ok (.getfield 19, 3) := by decide +kernel
theorem dX12_forget_23 : decode cX12_forget 23 = .ok (.iload_n 1, 1) := by decide +kernel
theorem dX12_forget_24 : decode cX12_forget 24 = .ok (.iaload, 1) := by decide +kernel
theorem dX12_forget_25 : decode cX12_forget 25 = .ok (.iadd, 1) := by decide +kernel
theorem dX12_forget_26 : decode cX12_forget 26 = .ok (.if_icmp .ge 32, 3) := by decide +kernel
theorem dX12_forget_29 : decode cX12_forget 29 = .ok (.aload_n 0, 1) := by decide +kernel
theorem dX12_forget_30 : decode cX12_forget 30 = .ok (.getfield 31, 3) := by decide +kernel
theorem dX12_forget_33 : decode cX12_forget 33 = .ok (.iload_n 3, 1) := by decide +kernel
theorem dX12_forget_34 : decode cX12_forget 34 = .ok (.baload, 1) := by decide +kernel
theorem dX12_forget_35 : decode cX12_forget 35 = .ok (.ifCond .ne 17, 3) := by decide +kernel
theorem dX12_forget_38 : decode cX12_forget 38 = .ok (.aload_n 0, 1) := by decide +kernel
theorem dX12_forget_39 : decode cX12_forget 39 = .ok (.bipush 8, 2) := by decide +kernel
theorem dX12_forget_41 : decode cX12_forget 41 = .ok (.iload_n 1, 1) := by decide +kernel
theorem dX12_forget_42 : decode cX12_forget 42 = .ok (.imul, 1) := by decide +kernel
