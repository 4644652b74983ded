theorem dX11_nextToken_27 : decode cX11_nextToken 27 = .ok (.getfield 75, 3) := by decide +kernel
theorem dX11_nextToken_30 : decode cX11_nextToken 30 = .ok (.iconst 1, 1) := by decide +kernel
theorem dX11_nextToken_31 : decode cX11_nextToken 31 = .ok (.iadd, 1) := by decide +kernel
theorem dX11_nextToken_32 : decode cX11_nextToken 32 = .ok (.putfield 75, 3) := by decide +kernel
theorem dX11_nextToken_35 : decode cX11_nextToken 35 = .ok (.goto (-35), 3) := by decide +kernel
theorem dX11_nextToken_38 : decode cX11_nextToken 38 = .ok (.aload_n 0, 1) := by decide +kernel
theorem dX11_nextToken_39 : decode cX11_nextToken 39 = .ok (.aload_n 0, 1) := by decide +kernel
theorem dX11_nextToken_40 : decode cX11_nextToken 40 = .ok (.getfield 75, 3) := by decide +kernel
theorem dX11_nextToken_43 : decode cX11_nextToken 43 = .ok (.putfield 78, 3) := by decide +kernel
theorem dX11_nextToken_46 : decode cX11_nextToken 46 = .ok (.aload_n 0, 1) := by decide +kernel
theorem dX11_nextToken_47 : decode cX11_nextToken 47 = .ok (.lconst 0, 1) := by decide +kernel
theorem dX11_nextToken_48 : decode cX11_nextToken 48 = .ok (.putfield 81, 3) := by decide +kernel
theorem dX11_nextToken_51 : decode cX11_nextToken 51 = .ok (.aload_n 0, 1) := by decide +kernel
theorem dX11_nextToken_52 : decode cX11_nextToken 52 = .ok (.iconst 0, 1) := by decide +kernel
theorem dX11_nextToken_53 : decode cX11_nextToken 53 = .ok (.putfield 84, 3) := by decide +kernel
theorem dX11_nextToken_56 : decode cX11_nextToken 56 = .ok (.aload_n 0, 1) := by decide +kernel
theorem dX11_nextToken_57 : decode cX11_nextToken 57 = .ok (.getfield 75, 3) := by decide +kernel
theorem dX11_nextToken_60 : decode cX11_nextToken 60 = .ok (.aload_n 0, 1) := by decide +kernel
theorem dX11_nextToken_61 : decode cX11_nextToken 61 = .ok (.getfield 71, 3) := by decide +kernel
theorem dX11_nextToken_64 : decode cX11_nextToken 64 = .ok (.if_icmp .ne 9, 3) := by decide +kernel
theorem dX11_nextToken_67 : decode cX11_nextToken 67 = .ok (.aload_n 0, 1) := by decide +kernel
theorem dX11_nextToken_68 : decode cX11_nextToken 68 = .ok (.iconst 0, 1) := by decide +kernel
theorem dX11_nextToken_69 : decode cX11_nextToken 69 = .ok (.putfield 87, 3) := by decide +kernel
theorem dX11_nextToken_72 : decode cX11_nextToken 72 = .ok (.return_, 1) := by decide +kernel
theorem dX11_nextToken_73 : decode cX11_nextToken 73 = .ok (.aload_n 0, 1) := by decide +kernel
theorem dX11_nextToken_74 : decode cX11_nextToken 74 = .ok (.aload_n 0, 1) := by decide +kernel
theorem dX11_nextToken_75 : decode cX11_nextToken 75 = .ok (.aload_n 0, 1) := by decide +kernel
theorem dX11_nextToken_76 : decode cX11_nextToken 76 = .ok (.getfield 75, 3) := by decide +kernel
theorem dX11_nextToken_79 : decode cX11_nextToken 79 = .ok (.invokevirtual 90, 3) := by decide +kernel
theorem dX11_nextToken_82 : decode cX11_nextToken 82 = .ok (.putfield 87, 3) := by decide +kernel
theorem dX11_nextToken_85 : decode cX11_nextToken 85 = .ok (.aload_n 0, 1) := by decide +kernel
theorem dX11_nextToken_86 : decode cX11_nextToken 86 = .ok (.getfield 87, 3) := by decide +kernel
theorem dX11_nextToken_89 : decode cX11_nextToken 89 = .ok (.ifCond .ne 37, 3) := by decide +kernel
theorem dX11_nextToken_92 : decode cX11_nextToken 92 = .ok (.aload_n 0, 1) := by decide +kernel
theorem dX11_nextToken_93 : decode cX11_nextToken 93 = .ok (.aload_n 0, 1) := by decide +kernel
theorem dX11_nextToken_94 : decode cX11_nextToken 94 = .ok (.getfield 30, 3) := by decide +kernel
theorem dX11_nextToken_97 : decode cX11_nextToken 97 = .ok (.aload_n 0, 1) := by decide +kernel
theorem dX11_nextToken_98 : decode cX11_nextToken 98 = .ok (.getfield 75, 3) := by decide +kernel
theorem dX11_nextToken_101 : decode cX11_nextToken 101 = .ok (.iaload, 1) := by decide +kernel
theorem dX11_nextToken_102 : decode cX11_nextToken 102 = .ok (.bipush 59, 2) := by decide +kernel
theorem dX11_nextToken_104 : decode cX11_nextToken 104 = .ok (.if_icmp .ne 7, 3) := by decide +kernel
theorem dX11_nextToken_107 : decode cX11_nextToken 107 = .ok (.iconst 3, 1) := by decide +kernel
theorem dX11_nextToken_108 : decode cX11_nextToken 108 = .ok (.goto 4, 3) := by decide +kernel
theorem dX11_nextToken_111 : decode cX11_nextToken 111 = .ok (.iconst 4, 1) := by decide +kernel
theorem dX11_nextToken_112 : decode cX11_nextToken 112 = .ok (.putfield 87, 3) := by decide +kernel
theorem dX11_nextToken_115 : decode cX11_nextToken 115 = .ok (.aload_n 0, 1) := by decide +kernel
theorem dX11_nextToken_116 : decode cX11_nextToken 116 = .ok (.dup, 1) := by decide +kernel
theorem dX11_nextToken_117 : decode cX11_nextToken 117 = .ok (.getfield 75, 3) := by decide +kernel
theorem dX11_nextToken_120 : decode cX11_nextToken 120 = .ok (.iconst 1, 1) := by decide +kernel
theorem dX11_nextToken_121 : decode cX11_nextToken 121 = .ok (.iadd, 1) := by decide +kernel
theorem dX11_nextToken_122 : decode cX11_nextToken 122 = .ok (.putfield 75, 3) := by decide +kernel
theorem dX11_nextToken_125 : decode cX11_nextToken 125 = .ok (.return_, 1) := by decide +kernel
theorem dX11_nextToken_126 : decode cX11_nextToken 126 = .ok (.aload_n 0, 1) := by decide +kernel
theorem dX11_nextToken_127 : decode cX11_nextToken 127 = .ok (.aload_n 0, 1) := by decide +kernel
theorem dX11_nextToken_128 : decode cX11_nextToken 128 = .ok (.getfield 75, 3) := by decide +kernel
theorem dX11_nextToken_131 : decode cX11_nextToken 131 = .ok (.invokevirtual 90, 3) := by decide +kernel
theorem dX11_nextToken_134 : decode cX11_nextToken 134 = .ok (.aload_n 0, 1) := by decide +kernel
theorem dX11_nextToken_135 : decode cX11_nextToken 135 = .ok (.getfield 87, 3) := by decide +kernel
theorem dX11_nextToken_138 : decode cX11_nextToken 138 = .ok (.if_icmp .ne 97, 3) := by decide +kernel
theorem dX11_nextToken_141 : decode cX11_nextToken 141 = .ok (.aload_n 0, 1) := by decide +kernel
theorem dX11_nextToken_142 : decode cX11_nextToken 142 = .ok (.getfield 75, 3) := by decide +kernel
theorem dX11_nextToken_145 : decode cX11_nextToken 145 = .ok (.aload_n 0, 1) := by decide +kernel
theorem dX11_nextToken_146 : decode cX11_nextToken 146 = .ok (.getfield 78, 3) := by decide +kernel
theorem dX11_nextToken_149 : decode cX11_nextToken 149 = .ok (.isub, 1) := by decide +kernel
theorem dX11_nextToken_150 : decode cX11_nextToken 150 = .ok (.istore_n 1, 1) := by decide +kernel
theorem dX11_nextToken_151 : decode cX11_nextToken 151 = .ok (.aload_n 0, 1) := by decide +kernel
theorem dX11_nextToken_152 : decode cX11_nextToken 152 = .ok (.iload_n 1, 1) := by decide +kernel
theorem dX11_nextToken_153 : decode cX11_nextToken 153 = .ok (.bipush 7, 2) := by decide +kernel
theorem dX11_nextToken_155 : decode cX11_nextToken 155 = .ok (.if_icmp .ge 25, 3) := by decide +kernel
theorem dX11_nextToken_158 : decode cX11_nextToken 158 = .ok (.ldc2_w 94, 3) := by decide +kernel
theorem dX11_nextToken_161 : decode cX11_nextToken 161 = .ok (.aload_n 0, 1) := by decide +kernel
theorem dX11_nextToken_162 : decode cX11_nextToken 162 = .ok (.getfield 81, 3) := by decide +kernel
theorem dX11_nextToken_165 : decode cX11_nextToken 165 = .ok (.lmul, 1) := by decide +kernel
theorem dX11_nextToken_166 : decode cX11_nextToken 166 = .ok (.aload_n 0, 1) := by decide +kernel
theorem dX11_nextToken_167 : decode cX11_nextToken 167 = .ok (.getfield 30, 3) := by decide +kernel
theorem dX11_nextToken_170 : decode cX11_nextToken 170 = .ok (.aload_n 0, 1) := by decide +kernel
theorem dX11_nextToken_171 : decode cX11_nextToken 171 = .ok (.getfield 75, 3) := by decide +kernel
theorem dX11_nextToken_174 : decode cX11_nextToken 174 = .ok (.iaload, 1) := by decide +kernel
theorem dX11_nextToken_175 : decode cX11_nextToken 175 = .ok (.i2l, 1) := by decide +kernel
theorem dX11_nextToken_176 : decode cX11_nextToken 176 = .ok (.ladd, 1) := by decide +kernel
theorem dX11_nextToken_177 : decode cX11_nextToken 177 = .ok (.goto 6, 3) := by decide +kernel
theorem dX11_nextToken_180 : decode cX11_nextToken 180 = .ok (.ldc2_w 96, 3) := by decide +kernel
theorem dX11_nextToken_183 : decode cX11_nextToken 183 = .ok (.putfield 81, 3) := by decide +kernel
theorem dX11_nextToken_186 : decode cX11_nextToken 186 = .ok (.aload_n 0, 1) := by decide +kernel
theorem dX11_nextToken_187 : decode cX11_nextToken 187 = .ok (.iload_n 1, 1) := by decide +kernel
theorem dX11_nextToken_188 : decode cX11_nextToken 188 = .ok (.iconst 2, 1) := by decide +kernel
theorem dX11_nextToken_189 : decode cX11_nextToken 189 = .ok (.if_icmp .ge 26, 3) := by decide +kernel
theorem dX11_nextToken_192 : decode cX11_nextToken 192 = .ok (.bipush 10, 2) := by decide +kernel
theorem dX11_nextToken_194 : decode cX11_nextToken 194 = .ok (.aload_n 0, 1) := by decide +kernel
theorem dX11_nextToken_195 : decode cX11_nextToken 195 = .ok (.getfield 84, 3) := by decide +kernel
theorem dX11_nextToken_198 : decode cX11_nextToken 198 = .ok (.imul, 1) := by decide +kernel
theorem dX11_nextToken_199 : decode cX11_nextToken 199 = .ok (.aload_n 0, 1) := by decide +kernel
theorem dX11_nextToken_200 : decode cX11_nextToken 200 = .ok (.getfield 30, 3) := by decide +kernel
theorem dX11_nextToken_203 : decode cX11_nextToken 203 = .ok (.aload_n 0, 1) := by decide +kernel
theorem dX11_nextToken_204 : decode cX11_nextToken 204 = .ok (.getfield 75, 3) := by decide +kernel
theorem dX11_nextToken_207 : decode cX11_nextToken 207 = .ok (.iaload, 1) := by decide +kernel
theorem dX11_nextToken_208 : decode cX11_nextToken 208 = .ok (.iadd, 1) := by decide +kernel
theorem dX11_nextToken_209 : decode cX11_nextToken 209 = .ok (.bipush 48, 2) := by decide +kernel
theorem dX11_nextToken_211 : decode cX11_nextToken 211 = .ok (.isub, 1) := by decide +kernel
theorem dX11_nextToken_212 : decode cX11_nextToken 212 = .ok (.goto 7, 3) := by decide +kernel
theorem dX11_nextToken_215 : decode cX11_nextToken 215 = .ok (.aload_n 0, 1) := by decide +kernel
theorem dX11_nextToken_216 : decode cX11_nextToken 216 = .ok (.getfield 84, 3) := by decide +kernel
theorem dX11_nextToken_219 : decode cX11_nextToken 219 = .ok (.putfield 84, 3) := by decide +kernel
theorem dX11_nextToken_222 : decode cX11_nextToken 222 = .ok (.aload_n 0, 1) := by decide +kernel
theorem dX11_nextToken_223 : decode cX11_nextToken 223 = .ok (.dup, 1) := by decide +kernel
theorem dX11_nextToken_224 : decode cX11_nextToken 224 = .ok (.getfield 75, 3) := by decide +kernel
theorem dX11_nextToken_227 : decode cX11_nextToken 227 = .ok (.iconst 1, 1) := by decide +kernel
theorem dX11_nextToken_228 : decode cX11_nextToken 228 = .ok (.iadd, 1) := by decide +kernel
theorem dX11_nextToken_229 : decode cX11_nextToken 229 = .ok (.putfield 75, 3) := by decide +kernel
theorem dX11_nextToken_232 : decode cX11_nextToken 232 = .ok (.goto (-106), 3) := by decide +kernel
theorem dX11_nextToken_235 : decode cX11_nextToken 235 = .ok (.aload_n 0, 1) := by decide +kernel
theorem dX11_nextToken_236 : decode cX11_nextToken 236 = .ok (.aload_n 0, 1) := by decide +kernel
theorem dX11_nextToken_237 : decode cX11_nextToken 237 = .ok (.getfield 87, 3) := by decide +kernel
theorem dX11_nextToken_240 : decode cX11_nextToken 240 = .ok (.iconst 2, 1) := by decide +kernel
theorem dX11_nextToken_241 : decode cX11_nextToken 241 = .ok (.if_icmp .ne 20, 3) := by decide +kernel
theorem dX11_nextToken_244 : decode cX11_nextToken 244 = .ok (.aload_n 0, 1) := by decide +kernel
theorem dX11_nextToken_245 : decode cX11_nextToken 245 = .ok (.getfield 75, 3) := by decide +kernel
theorem dX11_nextToken_248 : decode cX11_nextToken 248 = .ok (.aload_n 0, 1) := by decide +kernel
theorem dX11_nextToken_249 : decode cX11_nextToken 249 = .ok (.getfield 78, 3) := by decide +kernel
theorem dX11_nextToken_252 : decode cX11_nextToken 252 = .ok (.isub, 1) := by decide +kernel
theorem dX11_nextToken_253 : decode cX11_nextToken 253 = .ok (.iconst 2, 1) := by decide +kernel
theorem dX11_nextToken_254 : decode cX11_nextToken 254 = .ok (.if_icmp .le 7, 3) := by decide +kernel
theorem dX11_nextToken_257 : decode cX11_nextToken 257 = .ok (.iconst 4, 1) := by decide +kernel
theorem dX11_nextToken_258 : decode cX11_nextToken 258 = .ok (.goto 7, 3) := by decide +kernel
theorem dX11_nextToken_261 : decode cX11_nextToken 261 = .ok (.aload_n 0, 1) := by decide +kernel
theorem dX11_nextToken_262 : decode cX11_nextToken 262 = .ok (.getfield 87, 3) := by decide +kernel
theorem dX11_nextToken_265 : decode cX11_nextToken 265 = .ok (.putfield 87, 3) := by decide +kernel
theorem dX11_nextToken_268 : decode cX11_nextToken 268 = .ok (.return_, 1) := by decide +kernel
theorem dX11_isNumber_0 : decode cX11_isNumber 0 = .ok (.aload_n 0, 1) := by decide +kernel
theorem dX11_isNumber_1 : decode cX11_isNumber 1 = .ok (.invokevirtual 98, 3) := by decide +kernel
theorem dX11_isNumber_4 : decode cX11_isNumber 4 = .ok (.aload_n 0, 1) := by decide +kernel
theorem dX11_isNumber_5 : decode cX11_isNumber 5 = .ok (.getfield 87, 3) := by decide +kernel
theorem dX11_isNumber_8 : decode cX11_isNumber 8 = .ok (.iconst 2, 1) := by decide +kernel
theorem dX11_isNumber_9 : decode cX11_isNumber 9 = .ok (.if_icmp .ne 19, 3) := by decide +kernel
theorem dX11_isNumber_12 : decode cX11_isNumber 12 = .ok (.aload_n 0, 1) := by decide +kernel
theorem dX11_isNumber_13 : decode cX11_isNumber 13 = .ok (.getfield 84, 3) := by decide +kernel
theorem dX11_isNumber_16 : decode cX11_isNumber 16 = .ok (.iload_n 1, 1) := by decide +kernel
theorem dX11_isNumber_17 : decode cX11_isNumber 17 = .ok (.iload_n 2, 1) := by decide +kernel
theorem dX11_isNumber_18 : decode cX11_isNumber 18 = .ok (.invokestatic 52, 3) := by decide +kernel
theorem dX11_isNumber_21 : decode cX11_isNumber 21 = .ok (.ifCond .eq 7, 3) := by decide +kernel
theorem dX11_isNumber_24 : decode cX11_isNumber 24 = .ok (.iconst 1, 1) := by decide +kernel
theorem dX11_isNumber_25 : decode cX11_isNumber 25 = .ok (.goto 4, 3) := by decide +kernel
theorem dX11_isNumber_28 : decode cX11_isNumber 28 = .ok (.iconst 0, 1) := by decide +kernel
theorem dX11_isNumber_29 : decode cX11_isNumber 29 = .ok (.ireturn, 1) := by decide +kernel
theorem dX11_isDoor_0 : decode cX11_isDoor 0 = .ok (.aload_n 0, 1) := by decide +kernel
theorem dX11_isDoor_1 : decode cX11_isDoor 1 = .ok (.iconst 0, 1) := by decide +kernel
theorem dX11_isDoor_2 : decode cX11_isDoor 2 = .ok (.bipush 7, 2) := by decide +kernel
theorem dX11_isDoor_4 : decode cX11_isDoor 4 = .ok (.invokevirtual 101, 3) := by decide +kernel
theorem dX11_isDoor_7 : decode cX11_isDoor 7 = .ok (.ifCond .ne 5, 3) := by decide +kernel
theorem dX11_isDoor_10 : decode cX11_isDoor 10 = .ok (.iconst 0, 1) := by decide +kernel
theorem dX11_isDoor_11 : decode cX11_isDoor 11 = .ok (.ireturn, 1) := by decide +kernel
theorem dX11_isDoor_12 : decode cX11_isDoor 12 = .ok (.aload_n 0, 1) := by decide +kernel
theorem dX11_isDoor_13 : decode cX11_isDoor 13 = .ok (.getfield 84, 3) := by decide +kernel
theorem dX11_isDoor_16 : decode cX11_isDoor 16 = .ok (.istore_n 1, 1) := by decide +kernel
theorem dX11_isDoor_17 : decode cX11_isDoor 17 = .ok (.aload_n 0, 1) := by decide +kernel
theorem dX11_isDoor_18 : decode cX11_isDoor 18 = .ok (.iconst 0, 1) := by decide +kernel
theorem dX11_isDoor_19 : decode cX11_isDoor 19 = .ok (.bipush 7, 2) := by decide +kernel
theorem dX11_isDoor_21 : decode cX11_isDoor 21 = .ok (.invokevirtual 101, 3) := by decide +kernel
theorem dX11_isDoor_24 : decode cX11_isDoor 24 = .ok (.ifCond .eq 11, 3) := by decide +kernel
theorem dX11_isDoor_27 : decode cX11_isDoor 27 = .ok (.aload_n 0, 1) := by decide +kernel
theorem dX11_isDoor_28 : decode cX11_isDoor 28 = .ok (.getfield 84, 3) := by decide +kernel
theorem dX11_isDoor_31 : decode cX11_isDoor 31 = .ok (.iload_n 1, 1) := by decide +kernel
theorem dX11_isDoor_32 : decode cX11_isDoor 32 = .ok (.if_icmp .ne 5, 3) := by decide +kernel
theorem dX11_isDoor_35 : decode cX11_isDoor 35 = .ok (.iconst 0, 1) := by decide +kernel
theorem dX11_isDoor_36 : decode cX11_isDoor 36 = .ok (.ireturn, 1) := by decide +kernel
theorem dX11_isDoor_37 : decode cX11_isDoor 37 = .ok (.aload_n 0, 1) := by decide +kernel
theorem dX11_isDoor_38 : decode cX11_isDoor 38 = .ok (.getfield 84, 3) := by decide +kernel
theorem dX11_isDoor_41 : decode cX11_isDoor 41 = .ok (.istore_n 2, 1) := by decide +kernel
theorem dX11_isDoor_42 : decode cX11_isDoor 42 = .ok (.aload_n 0, 1) := by decide +kernel
theorem dX11_isDoor_43 : decode cX11_isDoor 43 = .ok (.iconst 1, 1) := by decide +kernel
theorem dX11_isDoor_44 : decode cX11_isDoor 44 = .ok (.bipush 9, 2) := by decide +kernel
theorem dX11_isDoor_46 : decode cX11_isDoor 46 = .ok (.invokevirtual 101, 3) := by decide +kernel
theorem dX11_isDoor_49 : decode cX11_isDoor 49 = .ok (.ifCond .ne 5, 3) := by decide +kernel
theorem dX11_isDoor_52 : decode cX11_isDoor 52 = .ok (.iconst 0, 1) := by decide +kernel
theorem dX11_isDoor_53 : decode cX11_isDoor 53 = .ok (.ireturn, 1) := by decide +kernel
theorem dX11_isDoor_54 : decode cX11_isDoor 54 = .ok (.aload_n 0, 1) := by decide +kernel
theorem dX11_isDoor_55 : decode cX11_isDoor 55 = .ok (.getfield 13, 3) := by decide +kernel
theorem dX11_isDoor_58 : decode cX11_isDoor 58 = .ok (.bipush 8, 2) := by decide +kernel
theorem dX11_isDoor_60 : decode cX11_isDoor 60 = .ok (.iload_n 1, 1) := by decide +kernel
theorem dX11_isDoor_61 : decode cX11_isDoor 61 = .ok (.imul, 1) := by decide +kernel
theorem dX11_isDoor_62 : decode cX11_isDoor 62 = .ok (.iload_n 2, 1) := by decide +kernel
theorem dX11_isDoor_63 : decode cX11_isDoor 63 = .ok (.iadd, 1) := by decide +kernel
theorem dX11_isDoor_64 : decode cX11_isDoor 64 = .ok (.aload_n 0, 1) := by decide +kernel
theorem dX11_isDoor_65 : decode cX11_isDoor 65 = .ok (.getfield 84, 3) := by decide +kernel
theorem dX11_isDoor_68 : decode cX11_isDoor 68 = .ok (.iastore, 1) := by decide +kernel
theorem dX11_isDoor_69 : decode cX11_isDoor 69 = .ok (.aload_n 0, 1) := by decide +kernel
theorem dX11_isDoor_70 : decode cX11_isDoor 70 = .ok (.getfield 13, 3) := by decide +kernel
theorem dX11_isDoor_73 : decode cX11_isDoor 73 = .ok (.bipush 8, 2) := by decide +kernel
theorem dX11_isDoor_75 : decode cX11_isDoor 75 = .ok (.iload_n 2, 1) := by decide +kernel
theorem dX11_isDoor_76 : decode cX11_isDoor 76 = .ok (.imul, 1) := by decide +kernel
theorem dX11_isDoor_77 : decode cX11_isDoor 77 = .ok (.iload_n 1, 1) := by decide +kernel
theorem dX11_isDoor_78 : decode cX11_isDoor 78 = .ok (.iadd, 1) := by decide +kernel
theorem dX11_isDoor_79 : decode cX11_isDoor 79 = .ok (.aload_n 0, 1) := by decide +kernel
theorem dX11_isDoor_80 : decode cX11_isDoor 80 = .ok (.getfield 84, 3) := by decide +kernel
theorem dX11_isDoor_83 : decode cX11_isDoor 83 = .ok (.iastore, 1) := by decide +kernel
theorem dX11_isDoor_84 : decode cX11_isDoor 84 = .ok (.iconst 1, 1) := by decide +kernel
theorem dX11_isDoor_85 : decode cX11_isDoor 85 = .ok (.ireturn, 1) := by decide +kernel
theorem dX11_isAlarmItem_0 : decode cX11_isAlarmItem 0 = .ok (.aload_n 0, 1) := by decide +kernel
theorem dX11_isAlarmItem_1 : decode cX11_isAlarmItem 1 = .ok (.getfield 13, 3) := by decide +kernel
theorem dX11_isAlarmItem_4 : decode cX11_isAlarmItem 4 = .ok (.bipush 64, 2) := by decide +kernel
theorem dX11_isAlarmItem_6 : decode cX11_isAlarmItem 6 = .ok (.iaload, 1) := by decide +kernel
theorem dX11_isAlarmItem_7 : decode cX11_isAlarmItem 7 = .ok (.bipush 6, 2) := by decide +kernel
theorem dX11_isAlarmItem_9 : decode cX11_isAlarmItem 9 = .ok (.if_icmp .eq 12, 3) := by decide +kernel
theorem dX11_isAlarmItem_12 : decode cX11_isAlarmItem 12 = .ok (.aload_n 0, 1) := by decide +kernel
theorem dX11_isAlarmItem_13 : decode cX11_isAlarmItem 13 = .ok (.iconst 0, 1) := by decide +kernel
theorem dX11_isAlarmItem_14 : decode cX11_isAlarmItem 14 = .ok (.iconst 5, 1) := by decide +kernel
theorem dX11_isAlarmItem_15 : decode cX11_isAlarmItem 15 = .ok (.invokevirtual 101, 3) := by decide +kernel
theorem dX11_isAlarmItem_18 : decode cX11_isAlarmItem 18 = .ok (.ifCond .ne 5, 3) := by decide +kernel
theorem dX11_isAlarmItem_21 : decode cX11_isAlarmItem 21 = .ok (.iconst 0, 1) := by decide +kernel
theorem dX11_isAlarmItem_22 : decode cX11_isAlarmItem 22 = .ok (.ireturn, 1) := by decide +kernel
theorem dX11_isAlarmItem_23 : decode cX11_isAlarmItem 23 = .ok (.aload_n 0, 1) := by decide +kernel
theorem dX11_isAlarmItem_24 : decode cX11_isAlarmItem 24 = .ok (.getfield 84, 3) := by decide +kernel
theorem dX11_isAlarmItem_27 : decode cX11_isAlarmItem 27 = .ok (.istore_n 1, 1) := by decide +kernel
theorem dX11_isAlarmItem_28 : decode cX11_isAlarmItem 28 = .ok (.aload_n 0, 1) := by decide +kernel
theorem dX11_isAlarmItem_29 : decode cX11_isAlarmItem 29 = .ok (.iconst 0, 1) := by decide +kernel
theorem dX11_isAlarmItem_30 : decode cX11_isAlarmItem 30 = .ok (.bipush 7, 2) := by decide +kernel
theorem dX11_isAlarmItem_32 : decode cX11_isAlarmItem 32 = .ok (.invokevirtual 101, 3) := by decide +kernel
theorem dX11_isAlarmItem_35 : decode cX11_isAlarmItem 35 = .ok (.ifCond .ne 5, 3) := by decide +kernel
theorem dX11_isAlarmItem_38 : decode cX11_isAlarmItem 38 = .ok (.iconst 0, 1) := by decide +kernel
theorem dX11_isAlarmItem_39 : decode cX11_isAlarmItem 39 = .ok (.ireturn, 1) := by decide +kernel
theorem dX11_isAlarmItem_40 : decode cX11_isAlarmItem 40 = .ok (.aload_n 0, 1) := by decide +kernel
theorem dX11_isAlarmItem_41 : decode cX11_isAlarmItem 41 = .ok (.getfield 84, 3) := by decide +kernel
theorem dX11_isAlarmItem_44 : decode cX11_isAlarmItem 44 = .ok (.istore_n 2, 1) := by decide +kernel
theorem dX11_isAlarmItem_45 : decode cX11_isAlarmItem 45 = .ok (.aload_n 0, 1) := by decide +kernel
theorem dX11_isAlarmItem_46 : decode cX11_isAlarmItem 46 = .ok (.iconst 0, 1) := by decide +kernel
theorem dX11_isAlarmItem_47 : decode cX11_isAlarmItem 47 = .ok (.bipush 99, 2) := by decide +kernel
theorem dX11_isAlarmItem_49 : decode cX11_isAlarmItem 49 = .ok (.invokevirtual 101, 3) := by decide +kernel
theorem dX11_isAlarmItem_52 : decode cX11_isAlarmItem 52 = .ok (.ifCond .ne 5, 3) := by decide +kernel
theorem dX11_isAlarmItem_55 : decode cX11_isAlarmItem 55 = .ok (.iconst 0, 1) := by decide +kernel
theorem dX11_isAlarmItem_56 : decode cX11_isAlarmItem 56 = .ok (.ireturn, 1) := by decide +kernel
theorem dX11_isAlarmItem_57 : decode cX11_isAlarmItem 57 = .ok (.aload_n 0, 1) := by decide +kernel
theorem dX11_isAlarmItem_58 : decode cX11_isAlarmItem 58 = .ok (.getfield 13, 3) := by decide +kernel
theorem dX11_isAlarmItem_61 : decode cX11_isAlarmItem 61 = .ok (.iload_n 1, 1) := by decide +kernel
theorem dX11_isAlarmItem_62 : decode cX11_isAlarmItem 62 = .ok (.iload_n 2, 1) := by decide +kernel
theorem dX11_isAlarmItem_63 : decode cX11_isAlarmItem 63 = .ok (.aload_n 0, 1) := by decide +kernel
theorem dX11_isAlarmItem_64 : decode cX11_isAlarmItem 64 = .ok (.getfield 84, 3) := by decide +kernel
theorem dX11_isAlarmItem_67 : decode cX11_isAlarmItem 67 = .ok (.invokestatic 67, 3) := by decide +kernel
theorem dX11_isAlarmItem_70 : decode cX11_isAlarmItem 70 = .ok (.pop, 1) := by decide +kernel
theorem dX11_isAlarmItem_71 : decode cX11_isAlarmItem 71 = .ok (.iconst 1, 1) := by decide +kernel
theorem dX11_isAlarmItem_72 : decode cX11_isAlarmItem 72 = .ok (.ireturn, 1) := by decide +kernel
theorem dX11_isDown_0 : decode cX11_isDown 0 = .ok (.aload_n 0, 1) := by decide +kernel
theorem dX11_isDown_1 : decode cX11_isDown 1 = .ok (.iconst 0, 1) := by decide +kernel
theorem dX11_isDown_2 : decode cX11_isDown 2 = .ok (.aload_n 0, 1) := by decide +kernel
theorem dX11_isDown_3 : decode cX11_isDown 3 = .ok (.getfield 13, 3) := by decide +kernel
theorem dX11_isDown_6 : decode cX11_isDown 6 = .ok (.bipush 64, 2) := by decide +kernel
theorem dX11_isDown_8 : decode cX11_isDown 8 = .ok (.iaload, 1) := by decide +kernel
theorem dX11_isDown_9 : decode cX11_isDown 9 = .ok (.iconst 1, 1) := by decide +kernel
theorem dX11_isDown_10 : decode cX11_isDown 10 = .ok (.isub, 1) := by decide +kernel
theorem dX11_isDown_11 : decode cX11_isDown 11 = .ok (.invokevirtual 101, 3) := by decide +kernel
theorem dX11_isDown_14 : decode cX11_isDown 14 = .ok (.ifCond .ne 5, 3) := by decide +kernel
theorem dX11_isDown_17 : decode cX11_isDown 17 = .ok (.iconst 0, 1) := by decide +kernel
theorem dX11_isDown_18 : decode cX11_isDown 18 = .ok (.ireturn, 1) := by decide +kernel
theorem dX11_isDown_19 : decode cX11_isDown 19 = .ok (.aload_n 0, 1) := by decide +kernel
theorem dX11_isDown_20 : decode cX11_isDown 20 = .ok (.getfield 13, 3) := by decide +kernel
theorem dX11_isDown_23 : decode cX11_isDown 23 = .ok (.bipush 93, 2) := by decide +kernel
theorem dX11_isDown_25 : decode cX11_isDown 25 = .ok (.aload_n 0, 1) := by decide +kernel
theorem dX11_isDown_26 : decode cX11_isDown 26 = .ok (.getfield 13, 3) := by decide +kernel
theorem dX11_isDown_29 : decode cX11_isDown 29 = .ok (.bipush 93, 2) := by decide +kernel
theorem dX11_isDown_31 : decode cX11_isDown 31 = .ok (.iaload, 1) := by decide +kernel
theorem dX11_isDown_32 : decode cX11_isDown 32 = .ok (.iconst 1, 1) := by decide +kernel
theorem dX11_isDown_33 : decode cX11_isDown 33 = .ok (.aload_n 0, 1) := by decide +kernel
theorem dX11_isDown_34 : decode cX11_isDown 34 = .ok (.getfield 84, 3) := by decide +kernel
theorem dX11_isDown_37 : decode cX11_isDown 37 = .ok (.ishl, 1) := by decide +kernel
theorem dX11_isDown_38 : decode cX11_isDown 38 = .ok (.ior, 1) := by decide +kernel
theorem dX11_isDown_39 : decode cX11_isDown 39 = .ok (.iastore, 1) := by decide +kernel
theorem dX11_isDown_40 : decode cX11_isDown 40 = .ok (.iconst 1, 1) := by decide +kernel
theorem dX11_isDown_41 : decode cX11_isDown 41 = .ok (.ireturn, 1) := by decide +kernel
theorem dX11_isCold_0 : decode cX11_isCold 0 = .ok (.aload_n 0, 1) := by decide +kernel
theorem dX11_isCold_1 : decode cX11_isCold 1 = .ok (.iconst 0, 1) := by decide +kernel
theorem dX11_isCold_2 : decode cX11_isCold 2 = .ok (.bipush 9, 2) := by decide +kernel
theorem dX11_isCold_4 : decode cX11_isCold 4 = .ok (.invokevirtual 101, 3) := by decide +kernel
theorem dX11_isCold_7 : decode cX11_isCold 7 = .ok (.ifCond .ne 5, 3) := by decide +kernel
theorem dX11_isCold_10 : decode cX11_isCold 10 = .ok (.iconst 0, 1) := by decide +kernel
theorem dX11_isCold_11 : decode cX11_isCold 11 = .ok (.ireturn, 1) := by decide +kernel
theorem dX11_isCold_12 : decode cX11_isCold 12 = .ok (.aload_n 0, 1) := by decide +kernel
theorem dX11_isCold_13 : decode cX11_isCold 13 = .ok (.getfield 13, 3) := by decide +kernel
theorem dX11_isCold_16 : decode cX11_isCold 16 = .ok (.bipush 92, 2) := by decide +kernel
theorem dX11_isCold_18 : decode cX11_isCold 18 = .ok (.aload_n 0, 1) := by decide +kernel
theorem dX11_isCold_19 : decode cX11_isCold 19 = .ok (.getfield 84, 3) := by decide +kernel
theorem dX11_isCold_22 : decode cX11_isCold 22 = .ok (.iastore, 1) := by decide +kernel
theorem dX11_isCold_23 : decode cX11_isCold 23 = .ok (.iconst 1, 1) := by decide +kernel
theorem dX11_isCold_24 : decode cX11_isCold 24 = .ok (.ireturn, 1) := by decide +kernel
theorem dX11_isItem_0 : decode cX11_isItem 0 = .ok (.aload_n 0, 1) := by decide +kernel
theorem dX11_isItem_1 : decode cX11_isItem 1 = .ok (.getfield 105, 3) := by decide +kernel
theorem dX11_isItem_4 : decode cX11_isItem 4 = .ok (.ifCond .ne 7, 3) := by decide +kernel
theorem dX11_isItem_7 : decode cX11_isItem 7 = .ok (.iconst 1, 1) := by decide +kernel
theorem dX11_isItem_8 : decode cX11_isItem 8 = .ok (.goto 4, 3) := by decide +kernel
theorem dX11_isItem_11 : decode cX11_isItem 11 = .ok (.iconst 0, 1) := by decide +kernel
theorem dX11_isItem_12 : decode cX11_isItem 12 = .ok (.istore_n 1, 1) := by decide +kernel
theorem dX11_isItem_13 : decode cX11_isItem 13 = .ok (.aload_n 0, 1) := by decide +kernel
theorem dX11_isItem_14 : decode cX11_isItem 14 = .ok (.getfield 87, 3) := by decide +kernel
theorem dX11_isItem_17 : decode cX11_isItem 17 = .ok (.iconst 1, 1) := by decide +kernel
theorem dX11_isItem_18 : decode cX11_isItem 18 = .ok (.if_icmp .ne 23, 3) := by decide +kernel
theorem dX11_isItem_21 : decode cX11_isItem 21 = .ok (.iload_n 1, 1) := by decide +kernel
theorem dX11_isItem_22 : decode cX11_isItem 22 = .ok (.aload_n 0, 1) := by decide +kernel
theorem dX11_isItem_23 : decode cX11_isItem 23 = .ok (.getfield 81, 3) := by decide +kernel
theorem dX11_isItem_26 : decode cX11_isItem 26 = .ok (.ldc2_w 108, 3) := by decide +kernel
theorem dX11_isItem_29 : decode cX11_isItem 29 = .ok (.lcmp, 1) := by decide +kernel
theorem dX11_isItem_30 : decode cX11_isItem 30 = .ok (.ifCond .ne 7, 3) := by decide +kernel
theorem dX11_isItem_33 : decode cX11_isItem 33 = .ok (.iconst 1, 1) := by decide +kernel
theorem dX11_isItem_34 : decode cX11_isItem 34 = .ok (.goto 4, 3) := by decide +kernel
theorem dX11_isItem_37 : decode cX11_isItem 37 = .ok (.iconst 0, 1) := by decide +kernel
theorem dX11_isItem_38 : decode cX11_isItem 38 = .ok (.if_icmp .eq 5, 3) := by decide +kernel
theorem dX11_isItem_41 : decode cX11_isItem 41 = .ok (.iconst 0, 1) := by decide +kernel
theorem dX11_isItem_42 : decode cX11_isItem 42 = .ok (.ireturn, 1) := by decide +kernel
theorem dX11_isItem_43 : decode cX11_isItem 43 = .ok (.iload_n 1, 1) := by decide +kernel
theorem dX11_isItem_44 : decode cX11_isItem 44 = .ok (.ifCond .eq 8, 3) := by decide +kernel
theorem dX11_isItem_47 : decode cX11_isItem 47 = .ok (.aload_n 0, 1) := by decide +kernel
theorem dX11_isItem_48 : decode cX11_isItem 48 = .ok (.invokevirtual 110, 3) := by decide +kernel
theorem dX11_isItem_51 : decode cX11_isItem 51 = .ok (.ireturn, 1) := by decide +kernel
theorem dX11_isItem_52 : decode cX11_isItem 52 = .ok (.aload_n 0, 1) := by decide +kernel
theorem dX11_isItem_53 : decode cX11_isItem 53 = .ok (.getfield 81, 3) := by decide +kernel
theorem dX11_isItem_56 : decode cX11_isItem 56 = .ok (.ldc2_w 114, 3) := by decide +kernel
theorem dX11_isItem_59 : decode cX11_isItem 59 = .ok (.lcmp, 1) := by decide +kernel
theorem dX11_isItem_60 : decode cX11_isItem 60 = .ok (.ifCond .ne 8, 3) := by decide +kernel
theorem dX11_isItem_63 : decode cX11_isItem 63 = .ok (.aload_n 0, 1) := by decide +kernel
theorem dX11_isItem_64 : decode cX11_isItem 64 = .ok (.invokevirtual 116, 3) := by decide +kernel
theorem dX11_isItem_67 : decode cX11_isItem 67 = .ok (.ireturn, 1) := by decide +kernel
theorem dX11_isItem_68 : decode cX11_isItem 68 = .ok (.aload_n 0, 1) := by decide +kernel
theorem dX11_isItem_69 : decode cX11_isItem 69 = .ok (.getfield 81, 3) := by decide +kernel
theorem dX11_isItem_72 : decode cX11_isItem 72 = .ok (.ldc2_w 119, 3) := by decide +kernel
theorem dX11_isItem_75 : decode cX11_isItem 75 = .ok (.lcmp, 1) := by decide +kernel
theorem dX11_isItem_76 : decode cX11_isItem 76 = .ok (.ifCond .ne 10, 3) := by decide +kernel
theorem dX11_isItem_79 : decode cX11_isItem 79 = .ok (.aload_n 0, 1) := by decide +kernel
theorem dX11_isItem_80 : decode cX11_isItem 80 = .ok (.invokevirtual 121, 3) := by decide +kernel
theorem dX11_isItem_83 : decode cX11_isItem 83 = .ok (.goto 26, 3) := by decide +kernel
theorem dX11_isItem_86 : decode cX11_isItem 86 = .ok (.aload_n 0, 1) := by decide +kernel
theorem dX11_isItem_87 : decode cX11_isItem 87 = .ok (.getfield 81, 3) := by decide +kernel
theorem dX11_isItem_90 : decode cX11_isItem 90 = .ok (.ldc2_w 124, 3) := by decide +kernel
theorem dX11_isItem_93 : decode cX11_isItem 93 = .ok (.lcmp, 1) := by decide +kernel
theorem dX11_isItem_94 : decode cX11_isItem 94 = .ok (.ifCond .ne 14, 3) := by decide +kernel
theorem dX11_isItem_97 : decode cX11_isItem 97 = .ok (.aload_n 0, 1) := by decide +kernel
theorem dX11_isItem_98 : decode cX11_isItem 98 = .ok (.invokevirtual 126, 3) := by decide +kernel
theorem dX11_isItem_101 : decode cX11_isItem 101 = .ok (.ifCond .eq 7, 3) := by decide +kernel
theorem dX11_isItem_104 : decode cX11_isItem 104 = .ok (.iconst 1, 1) := by decide +kernel
theorem dX11_isItem_105 : decode cX11_isItem 105 = .ok (.goto 4, 3) := by decide +kernel
theorem dX11_isItem_108 : decode cX11_isItem 108 = .ok (.iconst 0, 1) := by decide +kernel
theorem dX11_isItem_109 : decode cX11_isItem 109 = .ok (.ireturn, 1) := by decide +kernel
theorem dX11_isRead_0 : decode cX11_isRead 0 = .ok (.aload_n 0, 1) := by decide +kernel
theorem dX11_isRead_1 : decode cX11_isRead 1 = .ok (.getfield 13, 3) := by decide +kernel
theorem dX11_isRead_4 : decode cX11_isRead 4 = .ok (.invokestatic 48, 3) := by decide +kernel
theorem dX11_isRead_7 : decode cX11_isRead 7 = .ok (.aload_n 0, 1) := by decide +kernel
theorem dX11_isRead_8 : decode cX11_isRead 8 = .ok (.iconst 0, 1) := by decide +kernel
theorem dX11_isRead_9 : decode cX11_isRead 9 = .ok (.putfield 75, 3) := by decide +kernel
theorem dX11_isRead_12 : decode cX11_isRead 12 = .ok (.aload_n 0, 1) := by decide +kernel
theorem dX11_isRead_13 : decode cX11_isRead 13 = .ok (.iconst 0, 1) := by decide +kernel
theorem dX11_isRead_14 : decode cX11_isRead 14 = .ok (.putfield 105, 3) := by decide +kernel
theorem dX11_isRead_17 : decode cX11_isRead 17 = .ok (.aload_n 0, 1) := by decide +kernel
theorem dX11_isRead_18 : decode cX11_isRead 18 = .ok (.invokevirtual 98, 3) := by decide +kernel
theorem dX11_isRead_21 : decode cX11_isRead 21 = .ok (.aload_n 0, 1) := by decide +kernel
theorem dX11_isRead_22 : decode cX11_isRead 22 = .ok (.getfield 87, 3) := by decide +kernel
theorem dX11_isRead_25 : decode cX11_isRead 25 = .ok (.ifCond .ne 10, 3) := by decide +kernel
theorem dX11_isRead_28 : decode cX11_isRead 28 = .ok (.aload_n 0, 1) := by decide +kernel
theorem dX11_isRead_29 : decode cX11_isRead 29 = .ok (.getfield 105, 3) := by decide +kernel
theorem dX11_isRead_32 : decode cX11_isRead 32 = .ok (.ifCond .ne 43, 3) := by decide +kernel
theorem dX11_isRead_35 : decode cX11_isRead 35 = .ok (.aload_n 0, 1) := by decide +kernel
theorem dX11_isRead_36 : decode cX11_isRead 36 = .ok (.invokevirtual 129, 3) := by decide +kernel
theorem dX11_isRead_39 : decode cX11_isRead 39 = .ok (.ifCond .ne 5, 3) := by decide +kernel
theorem dX11_isRead_42 : decode cX11_isRead 42 = .ok (.iconst 0, 1) := by decide +kernel
theorem dX11_isRead_43 : decode cX11_isRead 43 = .ok (.ireturn, 1) := by decide +kernel
theorem dX11_isRead_44 : decode cX11_isRead 44 = .ok (.aload_n 0, 1) := by decide +kernel
theorem dX11_isRead_45 : decode cX11_isRead 45 = .ok (.invokevirtual 98, 3) := by decide +kernel
theorem dX11_isRead_48 : decode cX11_isRead 48 = .ok (.aload_n 0, 1) := by decide +kernel
theorem dX11_isRead_49 : decode cX11_isRead 49 = .ok (.getfield 87, 3) := by decide +kernel
theorem dX11_isRead_52 : decode cX11_isRead 52 = .ok (.iconst 3, 1) := by decide +kernel
theorem dX11_isRead_53 : decode cX11_isRead 53 = .ok (.if_icmp .eq 5, 3) := by decide +kernel
theorem dX11_isRead_56 : decode cX11_isRead 56 = .ok (.iconst 0, 1) := by decide +kernel
theorem dX11_isRead_57 : decode cX11_isRead 57 = .ok (.ireturn, 1) := by decide +kernel
theorem dX11_isRead_58 : decode cX11_isRead 58 = .ok (.aload_n 0, 1) := by decide +kernel
theorem dX11_isRead_59 : decode cX11_isRead 59 = .ok (.dup, 1) := by decide +kernel
theorem dX11_isRead_60 : decode cX11_isRead 60 = .ok (.getfield 105, 3) := by decide +kernel
theorem dX11_isRead_63 : decode cX11_isRead 63 = .ok (.iconst 1, 1) := by decide +kernel
theorem dX11_isRead_64 : decode cX11_isRead 64 = .ok (.iadd, 1) := by decide +kernel
theorem dX11_isRead_65 : decode cX11_isRead 65 = .ok (.putfield 105, 3) := by decide +kernel
theorem dX11_isRead_68 : decode cX11_isRead 68 = .ok (.aload_n 0, 1) := by decide +kernel
theorem dX11_isRead_69 : decode cX11_isRead 69 = .ok (.invokevirtual 98, 3) := by decide +kernel
theorem dX11_isRead_72 : decode cX11_isRead 72 = .ok (.goto (-51), 3) := by decide +kernel
theorem dX11_isRead_75 : decode cX11_isRead 75 = .ok (.iconst 1, 1) := by decide +kernel
theorem dX11_isRead_76 : decode cX11_isRead 76 = .ok (.ireturn, 1) := by decide +kernel
theorem dX11_read_0 : decode cX11_read 0 = .ok (.aload_n 0, 1) := by decide +kernel
theorem dX11_read_1 : decode cX11_read 1 = .ok (.invokevirtual 132, 3) := by decide +kernel
theorem dX11_read_4 : decode cX11_read 4 = .ok (.ifCond .ne 11, 3) := by decide +kernel
theorem dX11_read_7 : decode cX11_read 7 = .ok (.bipush (-10), 2) := by decide +kernel
theorem dX11_read_9 : decode cX11_read 9 = .ok (.aload_n 0, 1) := by decide +kernel
theorem dX11_read_10 : decode cX11_read 10 = .ok (.getfield 78, 3) := by decide +kernel
theorem dX11_read_13 : decode cX11_read 13 = .ok (.isub, 1) := by decide +kernel
theorem dX11_read_14 : decode cX11_read 14 = .ok (.ireturn, 1) := by decide +kernel
theorem dX11_read_15 : decode cX11_read 15 = .ok (.aload_n 0, 1) := by decide +kernel
theorem dX11_read_16 : decode cX11_read 16 = .ok (.getfield 13, 3) := by decide +kernel
theorem dX11_read_19 : decode cX11_read 19 = .ok (.iconst 0, 1) := by decide +kernel
theorem dX11_read_20 : decode cX11_read 20 = .ok (.aload_n 0, 1) := by decide +kernel
theorem dX11_read_21 : decode cX11_read 21 = .ok (.getfield 7, 3) := by decide +kernel
theorem dX11_read_24 : decode cX11_read 24 = .ok (.iconst 0, 1) := by decide +kernel
theorem dX11_read_25 : decode cX11_read 25 = .ok (.sipush 181, 3) := by decide +kernel
theorem dX11_read_28 : decode cX11_read 28 = .ok (.invokestatic 135, 3) := by decide +kernel
theorem dX11_read_31 : decode cX11_read 31 = .ok (.aload_n 0, 1) := by decide +kernel
theorem dX11_read_32 : decode cX11_read 32 = .ok (.getfield 105, 3) := by decide +kernel
theorem dX11_read_35 : decode cX11_read 35 = .ok (.ireturn, 1) := by decide +kernel
theorem dX11_bring_0 : decode cX11_bring 0 = .ok (.iconst 0, 1) := by decide +kernel
theorem dX11_bring_1 : decode cX11_bring 1 = .ok (.istore 5, 2) := by decide +kernel
theorem dX11_bring_3 : decode cX11_bring 3 = .ok (.iload 5, 2) := by decide +kernel
theorem dX11_bring_5 : decode cX11_bring 5 = .ok (.iload 4, 2) := by decide +kernel
theorem dX11_bring_7 : decode cX11_bring 7 = .ok (.if_icmp .ge 21, 3) := by decide +kernel
theorem dX11_bring_10 : decode cX11_bring 10 = .ok (.aload_n 2, 1) := by decide +kernel
theorem dX11_bring_11 : decode cX11_bring 11 = .ok (.iload_n 3, 1) := by decide +kernel
theorem dX11_bring_12 : decode cX11_bring 12 = .ok (.iload 5, 2) := by decide +kernel
theorem dX11_bring_14 : decode cX11_bring 14 = .ok (.iadd, 1) := by decide +kernel
theorem dX11_bring_15 : decode cX11_bring 15 = .ok (.aload_n 0, 1) := by decide +kernel
theorem dX11_bring_16 : decode cX11_bring 16 = .ok (.iload_n 1, 1) := by decide +kernel
theorem dX11_bring_17 : decode cX11_bring 17 = .ok (.iload 5, 2) := by decide +kernel
theorem dX11_bring_19 : decode cX11_bring 19 = .ok (.iadd, 1) := by decide +kernel
theorem dX11_bring_20 : decode cX11_bring 20 = .ok (.iaload, 1) := by decide +kernel
theorem dX11_bring_21 : decode cX11_bring 21 = .ok (.iastore, 1) := by decide +kernel
theorem dX11_bring_22 : decode cX11_bring 22 = .ok (.iinc 5 1, 3) := by decide +kernel
theorem dX11_bring_25 : decode cX11_bring 25 = .ok (.goto (-22), 3) := by decide +kernel
theorem dX11_bring_28 : decode cX11_bring 28 = .ok (.return_, 1) := by decide +kernel
theorem dX11_keepBack_0 : decode cX11_keepBack 0 = .ok (.aload_n 0, 1) := by decide +kernel
theorem dX11_keepBack_1 : decode cX11_keepBack 1 = .ok (.getfield 7, 3) := by decide +kernel
theorem dX11_keepBack_4 : decode cX11_keepBack 4 = .ok (.bipush 100, 2) := by decide +kernel
theorem dX11_keepBack_6 : decode cX11_keepBack 6 = .ok (.iaload, 1) := by decide +kernel
theorem dX11_keepBack_7 : decode cX11_keepBack 7 = .ok (.bipush 8, 2) := by decide +kernel
theorem dX11_keepBack_9 : decode cX11_keepBack 9 = .ok (.if_icmp .ne 46, 3) := by decide +kernel
theorem dX11_keepBack_12 : decode cX11_keepBack 12 = .ok (.iconst 0, 1) := by decide +kernel
theorem dX11_keepBack_13 : decode cX11_keepBack 13 = .ok (.istore_n 1, 1) := by decide +kernel
theorem dX11_keepBack_14 : decode cX11_keepBack 14 = .ok (.iload_n 1, 1) := by decide +kernel
theorem dX11_keepBack_15 : decode cX11_keepBack 15 = .ok (.bipush 70, 2) := by decide +kernel
theorem dX11_keepBack_17 : decode cX11_keepBack 17 = .ok (.if_icmp .ge 27, 3) := by decide +kernel
theorem dX11_keepBack_20 : decode cX11_keepBack 20 = .ok (.aload_n 0, 1) := by decide +kernel
theorem dX11_keepBack_21 : decode cX11_keepBack 21 = .ok (.getfield 7, 3) := by decide +kernel
theorem dX11_keepBack_24 : decode cX11_keepBack 24 = .ok (.bipush 101, 2) := by decide +kernel
theorem dX11_keepBack_26 : decode cX11_keepBack 26 = .ok (.iload_n 1, 1) := by decide +kernel
theorem dX11_keepBack_27 : decode cX11_keepBack 27 = .ok (.iadd, 1) := by decide +kernel
theorem dX11_keepBack_28 : decode cX11_keepBack 28 = .ok (.aload_n 0, 1) := by decide +kernel
theorem dX11_keepBack_29 : decode cX11_keepBack 29 = .ok (.getfield 7, 3) := by decide +kernel
theorem dX11_keepBack_32 : decode cX11_keepBack 32 = .ok (.bipush 111, 2) := by decide +kernel
theorem dX11_keepBack_34 : decode cX11_keepBack 34 = .ok (.iload_n 1, 1) := by decide +kernel
theorem dX11_keepBack_35 : decode cX11_keepBack 35 = .ok (.iadd, 1) := by decide +kernel
theorem dX11_keepBack_36 : decode cX11_keepBack 36 = .ok (.iaload, 1) := by decide +kernel
theorem dX11_keepBack_37 : decode cX11_keepBack 37 = .ok (.iastore, 1) := by decide +kernel
theorem dX11_keepBack_38 : decode cX11_keepBack 38 = .ok (.iinc 1 1, 3) := by decide +kernel
theorem dX11_keepBack_41 : decode cX11_keepBack 41 = .ok (.goto (-27), 3) := by decide +kernel
theorem dX11_keepBack_44 : decode cX11_keepBack 44 = .ok (.aload_n 0, 1) := by decide +kernel
theorem dX11_keepBack_45 : decode cX11_keepBack 45 = .ok (.getfield 7, 3) := by decide +kernel
theorem dX11_keepBack_48 : decode cX11_keepBack 48 = .ok (.bipush 100, 2) := by decide +kernel
theorem dX11_keepBack_50 : decode cX11_keepBack 50 = .ok (.dup2, 1) := by decide +kernel
theorem dX11_keepBack_51 : decode cX11_keepBack 51 = .ok (.iaload, 1) := by decide +kernel
theorem dX11_keepBack_52 : decode cX11_keepBack 52 = .ok (.iconst 1, 1) := by decide +kernel
theorem dX11_keepBack_53 : decode cX11_keepBack 53 = .ok (.isub, 1) := by decide +kernel
theorem dX11_keepBack_54 : decode cX11_keepBack 54 = .ok (.iastore, 1) := by decide +kernel
theorem dX11_keepBack_55 : decode cX11_keepBack 55 = .ok (.aload_n 0, 1) := by decide +kernel
theorem dX11_keepBack_56 : decode cX11_keepBack 56 = .ok (.getfield 7, 3) := by decide +kernel
theorem dX11_keepBack_59 : decode cX11_keepBack 59 = .ok (.bipush 90, 2) := by decide +kernel
theorem dX11_keepBack_61 : decode cX11_keepBack 61 = .ok (.aload_n 0, 1) := by decide +kernel
theorem dX11_keepBack_62 : decode cX11_keepBack 62 = .ok (.getfield 7, 3) := by decide +kernel
theorem dX11_keepBack_65 : decode cX11_keepBack 65 = .ok (.bipush 101, 2) := by decide +kernel
theorem dX11_keepBack_67 : decode cX11_keepBack 67 = .ok (.bipush 10, 2) := by decide +kernel
theorem dX11_keepBack_69 : decode cX11_keepBack 69 = .ok (.aload_n 0, 1) := by decide +kernel
theorem dX11_keepBack_70 : decode cX11_keepBack 70 = .ok (.getfield 7, 3) := by decide +kernel
theorem dX11_keepBack_73 : decode cX11_keepBack 73 = .ok (.bipush 100, 2) := by decide +kernel
theorem dX11_keepBack_75 : decode cX11_keepBack 75 = .ok (.iaload, 1) := by decide +kernel
theorem dX11_keepBack_76 : decode cX11_keepBack 76 = .ok (.imul, 1) := by decide +kernel
theorem dX11_keepBack_77 : decode cX11_keepBack 77 = .ok (.iadd, 1) := by decide +kernel
theorem dX11_keepBack_78 : decode cX11_keepBack 78 = .ok (.bipush 10, 2) := by decide +kernel
theorem dX11_keepBack_80 : decode cX11_keepBack 80 = .ok (.invokestatic 135, 3) := by decide +kernel
theorem dX11_keepBack_83 : decode cX11_keepBack 83 = .ok (.aload_n 0, 1) := by decide +kernel
theorem dX11_keepBack_84 : decode cX11_keepBack 84 = .ok (.getfield 7, 3) := by decide +kernel
theorem dX11_keepBack_87 : decode cX11_keepBack 87 = .ok (.bipush 100, 2) := by decide +kernel
theorem dX11_keepBack_89 : decode cX11_keepBack 89 = .ok (.dup2, 1) := by decide +kernel
theorem dX11_keepBack_90 : decode cX11_keepBack 90 = .ok (.iaload, 1) := by decide +kernel
theorem dX11_keepBack_91 : decode cX11_keepBack 91 = .ok (.iconst 1, 1) := by decide +kernel
theorem dX11_keepBack_92 : decode cX11_keepBack 92 = .ok (.iadd, 1) := by decide +kernel
theorem dX11_keepBack_93 : decode cX11_keepBack 93 = .ok (.iastore, 1) := by decide +kernel
theorem dX11_keepBack_94 : decode cX11_keepBack 94 = .ok (.return_, 1) := by decide +kernel
theorem dX11_pass_0 : decode cX11_pass 0 = .ok (.aload_n 0, 1) := by decide +kernel
theorem dX11_pass_1 : decode cX11_pass 1 = .ok (.getfield 7, 3) := by decide +kernel
theorem dX11_pass_4 : decode cX11_pass 4 = .ok (.bipush 90, 2) := by decide +kernel
theorem dX11_pass_6 : decode cX11_pass 6 = .ok (.iaload, 1) := by decide +kernel
theorem dX11_pass_7 : decode cX11_pass 7 = .ok (.iload_n 1, 1) := by decide +kernel
theorem dX11_pass_8 : decode cX11_pass 8 = .ok (.iadd, 1) := by decide +kernel
theorem dX11_pass_9 : decode cX11_pass 9 = .ok (.istore_n 2, 1) := by decide +kernel
theorem dX11_pass_10 : decode cX11_pass 10 = .ok (.aload_n 0, 1) := by decide +kernel
theorem dX11_pass_11 : decode cX11_pass 11 = .ok (.getfield 7, 3) := by decide +kernel
theorem dX11_pass_14 : decode cX11_pass 14 = .ok (.bipush 90, 2) := by decide +kernel
theorem dX11_pass_16 : decode cX11_pass 16 = .ok (.iload_n 2, 1) := by decide +kernel
theorem dX11_pass_17 : decode cX11_pass 17 = .ok (.sipush 9999, 3) := by decide +kernel
theorem dX11_pass_20 : decode cX11_pass 20 = .ok (.if_icmp .le 9, 3) := by decide +kernel
theorem dX11_pass_23 : decode cX11_pass 23 = .ok (.sipush 9999, 3) := by decide +kernel
theorem dX11_pass_26 : decode cX11_pass 26 = .ok (.goto 4, 3) := by decide +kernel
theorem dX11_pass_29 : decode cX11_pass 29 = .ok (.iload_n 2, 1) := by decide +kernel
theorem dX11_pass_30 : decode cX11_pass 30 = .ok (.iastore, 1) := by decide +kernel
theorem dX11_pass_31 : decode cX11_pass 31 = .ok (.return_, 1) := by decide +kernel
theorem dX11_waits_0 : decode cX11_waits 0 = .ok (.iload_n 1, 1) := by decide +kernel
theorem dX11_waits_1 : decode cX11_waits 1 = .ok (.iconst 1, 1) := by decide +kernel
theorem dX11_waits_2 : decode cX11_waits 2 = .ok (.bipush 99, 2) := by decide +kernel
theorem dX11_waits_4 : decode cX11_waits 4 = .ok (.invokestatic 52, 3) := by decide +kernel
theorem dX11_waits_7 : decode cX11_waits 7 = .ok (.ifCond .ne 8, 3) := by decide +kernel
theorem dX11_waits_10 : decode cX11_waits 10 = .ok (.aload_n 0, 1) := by decide +kernel
theorem dX11_waits_11 : decode cX11_waits 11 = .ok (.invokevirtual 60, 3) := by decide +kernel
theorem dX11_waits_14 : decode cX11_waits 14 = .ok (.ireturn, 1) := by decide +kernel
theorem dX11_waits_15 : decode cX11_waits 15 = .ok (.aload_n 0, 1) := by decide +kernel
theorem dX11_waits_16 : decode cX11_waits 16 = .ok (.invokevirtual 139, 3) := by decide +kernel
theorem dX11_waits_19 : decode cX11_waits 19 = .ok (.aload_n 0, 1) := by decide +kernel
theorem dX11_waits_20 : decode cX11_waits 20 = .ok (.iload_n 1, 1) := by decide +kernel
theorem dX11_waits_21 : decode cX11_waits 21 = .ok (.invokevirtual 142, 3) := by decide +kernel
theorem dX11_waits_24 : decode cX11_waits 24 = .ok (.aload_n 0, 1) := by decide +kernel
theorem dX11_waits_25 : decode cX11_waits 25 = .ok (.invokevirtual 146, 3) := by decide +kernel
theorem dX11_waits_28 : decode cX11_waits 28 = .ok (.aload_n 0, 1) := by decide +kernel
theorem dX11_waits_29 : decode cX11_waits 29 = .ok (.aload_n 0, 1) := by decide +kernel
theorem dX11_waits_30 : decode cX11_waits 30 = .ok (.getfield 7, 3) := by decide +kernel
theorem dX11_waits_33 : decode cX11_waits 33 = .ok (.bipush 91, 2) := by decide +kernel
theorem dX11_waits_35 : decode cX11_waits 35 = .ok (.iaload, 1) := by decide +kernel
theorem dX11_waits_36 : decode cX11_waits 36 = .ok (.aload_n 0, 1) := by decide +kernel
theorem dX11_waits_37 : decode cX11_waits 37 = .ok (.getfield 7, 3) := by decide +kernel
theorem dX11_waits_40 : decode cX11_waits 40 = .ok (.bipush 90, 2) := by decide +kernel
theorem dX11_waits_42 : decode cX11_waits 42 = .ok (.iaload, 1) := by decide +kernel
theorem dX11_waits_43 : decode cX11_waits 43 = .ok (.aload_n 0, 1) := by decide +kernel
theorem dX11_waits_44 : decode cX11_waits 44 = .ok (.getfield 7, 3) := by decide +kernel
theorem dX11_waits_47 : decode cX11_waits 47 = .ok (.bipush 92, 2) := by decide +kernel
theorem dX11_waits_49 : decode cX11_waits 49 = .ok (.iaload, 1) := by decide +kernel
theorem dX11_waits_50 : decode cX11_waits 50 = .ok (.invokevirtual 149, 3) := by decide +kernel
theorem dX11_waits_53 : decode cX11_waits 53 = .ok (.ireturn, 1) := by decide +kernel
theorem dX11_walk_0 : decode cX11_walk 0 = .ok (.iload_n 1, 1) := by decide +kernel
theorem dX11_walk_1 : decode cX11_walk 1 = .ok (.invokestatic 56, 3) := by decide +kernel
theorem dX11_walk_4 : decode cX11_walk 4 = .ok (.ifCond .ne 8, 3) := by decide +kernel
theorem dX11_walk_7 : decode cX11_walk 7 = .ok (.aload_n 0, 1) := by decide +kernel
theorem dX11_walk_8 : decode cX11_walk 8 = .ok (.invokevirtual 60, 3) := by decide +kernel
theorem dX11_walk_11 : decode cX11_walk 11 = .ok (.ireturn, 1) := by decide +kernel
theorem dX11_walk_12 : decode cX11_walk 12 = .ok (.aload_n 0, 1) := by decide +kernel
theorem dX11_walk_13 : decode cX11_walk 13 = .ok (.invokevirtual 146, 3) := by decide +kernel
theorem dX11_walk_16 : decode cX11_walk 16 = .ok (.aload_n 0, 1) := by decide +kernel
theorem dX11_walk_17 : decode cX11_walk 17 = .ok (.aload_n 0, 1) := by decide +kernel
theorem dX11_walk_18 : decode cX11_walk 18 = .ok (.getfield 7, 3) := by decide +kernel
theorem dX11_walk_21 : decode cX11_walk 21 = .ok (.bipush 91, 2) := by decide +kernel
theorem dX11_walk_23 : decode cX11_walk 23 = .ok (.iaload, 1) := by decide +kernel
theorem dX11_walk_24 : decode cX11_walk 24 = .ok (.iload_n 1, 1) := by decide +kernel
theorem dX11_walk_25 : decode cX11_walk 25 = .ok (.invokevirtual 153, 3) := by decide +kernel
theorem dX11_walk_28 : decode cX11_walk 28 = .ok (.istore_n 2, 1) := by decide +kernel
theorem dX11_walk_29 : decode cX11_walk 29 = .ok (.iload_n 2, 1) := by decide +kernel
theorem dX11_walk_30 : decode cX11_walk 30 = .ok (.iconst (-1), 1) := by decide +kernel
theorem dX11_walk_31 : decode cX11_walk 31 = .ok (.if_icmp .ne 8, 3) := by decide +kernel
theorem dX11_walk_34 : decode cX11_walk 34 = .ok (.aload_n 0, 1) := by decide +kernel
theorem dX11_walk_35 : decode cX11_walk 35 = .ok (.invokevirtual 157, 3) := by decide +kernel
theorem dX11_walk_38 : decode cX11_walk 38 = .ok (.ireturn, 1) := by decide +kernel
theorem dX11_walk_39 : decode cX11_walk 39 = .ok (.aload_n 0, 1) := by decide +kernel
theorem dX11_walk_40 : decode cX11_walk 40 = .ok (.invokevirtual 139, 3) := by decide +kernel
theorem dX11_walk_43 : decode cX11_walk 43 = .ok (.aload_n 0, 1) := by decide +kernel
theorem dX11_walk_44 : decode cX11_walk 44 = .ok (.getfield 7, 3) := by decide +kernel
theorem dX11_walk_47 : decode cX11_walk 47 = .ok (.bipush 91, 2) := by decide +kernel
theorem dX11_walk_49 : decode cX11_walk 49 = .ok (.iload_n 1, 1) := by decide +kernel
theorem dX11_walk_50 : decode cX11_walk 50 = .ok (.iastore, 1) := by decide +kernel
theorem dX11_walk_51 : decode cX11_walk 51 = .ok (.aload_n 0, 1) := by decide +kernel
theorem dX11_walk_52 : decode cX11_walk 52 = .ok (.iload_n 2, 1) := by decide +kernel
theorem dX11_walk_53 : decode cX11_walk 53 = .ok (.invokevirtual 142, 3) := by decide +kernel
theorem dX11_walk_56 : decode cX11_walk 56 = .ok (.iload_n 2, 1) := by decide +kernel
theorem dX11_walk_57 : decode cX11_walk 57 = .ok (.ireturn, 1) := by decide +kernel
theorem dX11_take_0 : decode cX11_take 0 = .ok (.aload_n 0, 1) := by decide +kernel
theorem dX11_take_1 : decode cX11_take 1 = .ok (.iload_n 1, 1) := by decide +kernel
theorem dX11_take_2 : decode cX11_take 2 = .ok (.invokevirtual 160, 3) := by decide +kernel
theorem dX11_take_5 : decode cX11_take 5 = .ok (.ifCond .eq 12, 3) := by decide +kernel
theorem dX11_take_8 : decode cX11_take 8 = .ok (.iload_n 2, 1) := by decide +kernel
theorem dX11_take_9 : decode cX11_take 9 = .ok (.iconst 0, 1) := by decide +kernel
theorem dX11_take_10 : decode cX11_take 10 = .ok (.iconst 1, 1) := by decide +kernel
theorem dX11_take_11 : decode cX11_take 11 = .ok (.invokestatic 52, 3) := by decide +kernel
theorem dX11_take_14 : decode cX11_take 14 = .ok (.ifCond .ne 8, 3) := by decide +kernel
theorem dX11_take_17 : decode cX11_take 17 = .ok (.aload_n 0, 1) := by decide +kernel
theorem dX11_take_18 : decode cX11_take 18 = .ok (.invokevirtual 60, 3) := by decide +kernel
theorem dX11_take_21 : decode cX11_take 21 = .ok (.ireturn, 1) := by decide +kernel
theorem dX11_take_22 : decode cX11_take 22 = .ok (.aload_n 0, 1) := by decide +kernel
theorem dX11_take_23 : decode cX11_take 23 = .ok (.getfield 7, 3) := by decide +kernel
theorem dX11_take_26 : decode cX11_take 26 = .ok (.bipush 71, 2) := by decide +kernel
theorem dX11_take_28 : decode cX11_take 28 = .ok (.iload_n 1, 1) := by decide +kernel
theorem dX11_take_29 : decode cX11_take 29 = .ok (.iadd, 1) := by decide +kernel
theorem dX11_take_30 : decode cX11_take 30 = .ok (.iaload, 1) := by decide +kernel
theorem dX11_take_31 : decode cX11_take 31 = .ok (.aload_n 0, 1) := by decide +kernel
theorem dX11_take_32 : decode cX11_take 32 = .ok (.getfield 7, 3) := by decide +kernel
theorem dX11_take_35 : decode cX11_take 35 = .ok (.bipush 91, 2) := by decide +kernel
theorem dX11_take_37 : decode cX11_take 37 = .ok (.iaload, 1) := by decide +kernel
theorem dX11_take_38 : decode cX11_take 38 = .ok (.if_icmp .eq 8, 3) := by decide +kernel
theorem dX11_take_41 : decode cX11_take 41 = .ok (.aload_n 0, 1) := by decide +kernel
theorem dX11_take_42 : decode cX11_take 42 = .ok (.invokevirtual 157, 3) := by decide +kernel
theorem dX11_take_45 : decode cX11_take 45 = .ok (.ireturn, 1) := by decide +kernel
theorem dX11_take_46 : decode cX11_take 46 = .ok (.aload_n 0, 1) := by decide +kernel
theorem dX11_take_47 : decode cX11_take 47 = .ok (.invokevirtual 139, 3) := by decide +kernel
theorem dX11_take_50 : decode cX11_take 50 = .ok (.aload_n 0, 1) := by decide +kernel
theorem dX11_take_51 : decode cX11_take 51 = .ok (.getfield 7, 3) := by decide +kernel
theorem dX11_take_54 : decode cX11_take 54 = .ok (.bipush 93, 2) := by decide +kernel
theorem dX11_take_56 : decode cX11_take 56 = .ok (.aload_n 0, 1) := by decide +kernel
theorem dX11_take_57 : decode cX11_take 57 = .ok (.getfield 7, 3) := by decide +kernel
theorem dX11_take_60 : decode cX11_take 60 = .ok (.bipush 93, 2) := by decide +kernel
theorem dX11_take_62 : decode cX11_take 62 = .ok (.iaload, 1) := by decide +kernel
theorem dX11_take_63 : decode cX11_take 63 = .ok (.iconst 1, 1) := by decide +kernel
theorem dX11_take_64 : decode cX11_take 64 = .ok (.iload_n 1, 1) := by decide +kernel
theorem dX11_take_65 : decode cX11_take 65 = .ok (.ishl, 1) := by decide +kernel
theorem dX11_take_66 : decode cX11_take 66 = .ok (.iconst (-1), 1) := by decide +kernel
theorem dX11_take_67 : decode cX11_take 67 = .ok (.ixor, 1) := by decide +kernel
theorem dX11_take_68 : decode cX11_take 68 = .ok (.iand, 1) := by decide +kernel
theorem dX11_take_69 : decode cX11_take 69 = .ok (.iload_n 2, 1) := by decide +kernel
theorem dX11_take_70 : decode cX11_take 70 = .ok (.iload_n 1, 1) := by decide +kernel
theorem dX11_take_71 : decode cX11_take 71 = .ok (.ishl, 1) := by decide +kernel
theorem dX11_take_72 : decode cX11_take 72 = .ok (.ior, 1) := by decide +kernel
theorem dX11_take_73 : decode cX11_take 73 = .ok (.iastore, 1) := by decide +kernel
theorem dX11_take_74 : decode cX11_take 74 = .ok (.iconst 1, 1) := by decide +kernel
theorem dX11_take_75 : decode cX11_take 75 = .ok (.ireturn, 1) := by decide +kernel
theorem dX11_battery_0 : decode cX11_battery 0 = .ok (.aload_n 0, 1) := by decide +kernel
theorem dX11_battery_1 : decode cX11_battery 1 = .ok (.iload_n 1, 1) := by decide +kernel
theorem dX11_battery_2 : decode cX11_battery 2 = .ok (.invokevirtual 160, 3) := by decide +kernel
theorem dX11_battery_5 : decode cX11_battery 5 = .ok (.ifCond .eq 13, 3) := by decide +kernel
theorem dX11_battery_8 : decode cX11_battery 8 = .ok (.iload_n 2, 1) := by decide +kernel
theorem dX11_battery_9 : decode cX11_battery 9 = .ok (.iconst 0, 1) := by decide +kernel
theorem dX11_battery_10 : decode cX11_battery 10 = .ok (.bipush 99, 2) := by decide +kernel
theorem dX11_battery_12 : decode cX11_battery 12 = .ok (.invokestatic 52, 3) := by decide +kernel
theorem dX11_battery_15 : decode cX11_battery 15 = .ok (.ifCond .ne 8, 3) := by decide +kernel
theorem dX11_battery_18 : decode cX11_battery 18 = .ok (.aload_n 0, 1) := by decide +kernel
theorem dX11_battery_19 : decode cX11_battery 19 = .ok (.invokevirtual 60, 3) := by decide +kernel
theorem dX11_battery_22 : decode cX11_battery 22 = .ok (.ireturn, 1) := by decide +kernel
theorem dX11_battery_23 : decode cX11_battery 23 = .ok (.aload_n 0, 1) := by decide +kernel
theorem dX11_battery_24 : decode cX11_battery 24 = .ok (.invokevirtual 139, 3) := by decide +kernel
theorem dX11_battery_27 : decode cX11_battery 27 = .ok (.aload_n 0, 1) := by decide +kernel
theorem dX11_battery_28 : decode cX11_battery 28 = .ok (.getfield 7, 3) := by decide +kernel
theorem dX11_battery_31 : decode cX11_battery 31 = .ok (.bipush 94, 2) := by decide +kernel
theorem dX11_battery_33 : decode cX11_battery 33 = .ok (.iload_n 1, 1) := by decide +kernel
theorem dX11_battery_34 : decode cX11_battery 34 = .ok (.iadd, 1) := by decide +kernel
theorem dX11_battery_35 : decode cX11_battery 35 = .ok (.iaload, 1) := by decide +kernel
theorem dX11_battery_36 : decode cX11_battery 36 = .ok (.istore_n 3, 1) := by decide +kernel
theorem dX11_battery_37 : decode cX11_battery 37 = .ok (.aload_n 0, 1) := by decide +kernel
theorem dX11_battery_38 : decode cX11_battery 38 = .ok (.getfield 7, 3) := by decide +kernel
theorem dX11_battery_41 : decode cX11_battery 41 = .ok (.bipush 94, 2) := by decide +kernel
theorem dX11_battery_43 : decode cX11_battery 43 = .ok (.iload_n 1, 1) := by decide +kernel
theorem dX11_battery_44 : decode cX11_battery 44 = .ok (.iadd, 1) := by decide +kernel
theorem dX11_battery_45 : decode cX11_battery 45 = .ok (.iload_n 2, 1) := by decide +kernel
theorem dX11_battery_46 : decode cX11_battery 46 = .ok (.iastore, 1) := by decide +kernel
theorem dX11_battery_47 : decode cX11_battery 47 = .ok (.iload_n 3, 1) := by decide +kernel
theorem dX11_battery_48 : decode cX11_battery 48 = .ok (.ireturn, 1) := by decide +kernel
theorem dX11_cold_0 : decode cX11_cold 0 = .ok (.iload_n 1, 1) := by decide +kernel
theorem dX11_cold_1 : decode cX11_cold 1 = .ok (.iconst 0, 1) := by decide +kernel
theorem dX11_cold_2 : decode cX11_cold 2 = .ok (.bipush 9, 2) := by decide +kernel
theorem dX11_cold_4 : decode cX11_cold 4 = .ok (.invokestatic 52, 3) := by decide +kernel
theorem dX11_cold_7 : decode cX11_cold 7 = .ok (.ifCond .ne 8, 3) := by decide +kernel
theorem dX11_cold_10 : decode cX11_cold 10 = .ok (.aload_n 0, 1) := by decide +kernel
theorem dX11_cold_11 : decode cX11_cold 11 = .ok (.invokevirtual 60, 3) := by decide +kernel
theorem dX11_cold_14 : decode cX11_cold 14 = .ok (.ireturn, 1) := by decide +kernel
theorem dX11_cold_15 : decode cX11_cold 15 = .ok (.aload_n 0, 1) := by decide +kernel
theorem dX11_cold_16 : decode cX11_cold 16 = .ok (.invokevirtual 139, 3) := by decide +kernel
theorem dX11_cold_19 : decode cX11_cold 19 = .ok (.aload_n 0, 1) := by decide +kernel
theorem dX11_cold_20 : decode cX11_cold 20 = .ok (.getfield 7, 3) := by decide +kernel
theorem dX11_cold_23 : decode cX11_cold 23 = .ok (.bipush 92, 2) := by decide +kernel
theorem dX11_cold_25 : decode cX11_cold 25 = .ok (.iaload, 1) := by decide +kernel
theorem dX11_cold_26 : decode cX11_cold 26 = .ok (.istore_n 2, 1) := by decide +kernel
theorem dX11_cold_27 : decode cX11_cold 27 = .ok (.aload_n 0, 1) := by decide +kernel
theorem dX11_cold_28 : decode cX11_cold 28 = .ok (.getfield 7, 3) := by decide +kernel
theorem dX11_cold_31 : decode cX11_cold 31 = .ok (.bipush 92, 2) := by decide +kernel
theorem dX11_cold_33 : decode cX11_cold 33 = .ok (.iload_n 1, 1) := by decide +kernel
theorem dX11_cold_34 : decode cX11_cold 34 = .ok (.iastore, 1) := by decide +kernel
theorem dX11_cold_35 : decode cX11_cold 35 = .ok (.iload_n 2, 1) := by decide +kernel
theorem dX11_cold_36 : decode cX11_cold 36 = .ok (.ireturn, 1) := by decide +kernel
theorem dX11_undo_0 : decode cX11_undo 0 = .ok (.aload_n 0, 1) := by decide +kernel
theorem dX11_undo_1 : decode cX11_undo 1 = .ok (.getfield 7, 3) := by decide +kernel
theorem dX11_undo_4 : decode cX11_undo 4 = .ok (.bipush 100, 2) := by decide +kernel
theorem dX11_undo_6 : decode cX11_undo 6 = .ok (.iaload, 1) := by decide +kernel
theorem dX11_undo_7 : decode cX11_undo 7 = .ok (.ifCond .ne 8, 3) := by decide +kernel
theorem dX11_undo_10 : decode cX11_undo 10 = .ok (.aload_n 0, 1) := by decide +kernel
theorem dX11_undo_11 : decode cX11_undo 11 = .ok (.invokevirtual 157, 3) := by decide +kernel
theorem dX11_undo_14 : decode cX11_undo 14 = .ok (.ireturn, 1) := by decide +kernel
theorem dX11_undo_15 : decode cX11_undo 15 = .ok (.aload_n 0, 1) := by decide +kernel
theorem dX11_undo_16 : decode cX11_undo 16 = .ok (.getfield 7, 3) := by decide +kernel
theorem dX11_undo_19 : decode cX11_undo 19 = .ok (.bipush 100, 2) := by decide +kernel
theorem dX11_undo_21 : decode cX11_undo 21 = .ok (.dup2, 1) := by decide +kernel
theorem dX11_undo_22 : decode cX11_undo 22 = .ok (.iaload, 1) := by decide +kernel
theorem dX11_undo_23 : decode cX11_undo 23 = .ok (.iconst 1, 1) := by decide +kernel
theorem dX11_undo_24 : decode cX11_undo 24 = .ok (.isub, 1) := by decide +kernel
theorem dX11_undo_25 : decode cX11_undo 25 = .ok (.iastore, 1) := by decide +kernel
theorem dX11_undo_26 : decode cX11_undo 26 = .ok (.aload_n 0, 1) := by decide +kernel
theorem dX11_undo_27 : decode cX11_undo 27 = .ok (.getfield 7, 3) := by decide +kernel
theorem dX11_undo_30 : decode cX11_undo 30 = .ok (.bipush 101, 2) := by decide +kernel
theorem dX11_undo_32 : decode cX11_undo 32 = .ok (.bipush 10, 2) := by decide +kernel
theorem dX11_undo_34 : decode cX11_undo 34 = .ok (.aload_n 0, 1) := by decide +kernel
theorem dX11_undo_35 : decode cX11_undo 35 = .ok (.getfield 7, 3) := by decide +kernel
theorem dX11_undo_38 : decode cX11_undo 38 = .ok (.bipush 100, 2) := by decide +kernel
theorem dX11_undo_40 : decode cX11_undo 40 = .ok (.iaload, 1) := by decide +kernel
theorem dX11_undo_41 : decode cX11_undo 41 = .ok (.imul, 1) := by decide +kernel
theorem dX11_undo_42 : decode cX11_undo 42 = .ok (.iadd, 1) := by decide +kernel
theorem dX11_undo_43 : decode cX11_undo 43 = .ok (.aload_n 0, 1) := by decide +kernel
theorem dX11_undo_44 : decode cX11_undo 44 = .ok (.getfield 7, 3) := by decide +kernel
theorem dX11_undo_47 : decode cX11_undo 47 = .ok (.bipush 90, 2) := by decide +kernel
theorem dX11_undo_49 : decode cX11_undo 49 = .ok (.bipush 10, 2) := by decide +kernel
theorem dX11_undo_51 : decode cX11_undo 51 = .ok (.invokestatic 135, 3) := by decide +kernel
theorem dX11_undo_54 : decode cX11_undo 54 = .ok (.aload_n 0, 1) := by decide +kernel
theorem dX11_undo_55 : decode cX11_undo 55 = .ok (.getfield 7, 3) := by decide +kernel
theorem dX11_undo_58 : decode cX11_undo 58 = .ok (.bipush 90, 2) := by decide +kernel
theorem dX11_undo_60 : decode cX11_undo 60 = .ok (.iaload, 1) := by decide +kernel
theorem dX11_undo_61 : decode cX11_undo 61 = .ok (.ireturn, 1) := by decide +kernel
theorem dX11_loudOf_0 : decode cX11_loudOf 0 = .ok (.iload_n 0, 1) := by decide +kernel
theorem dX11_loudOf_1 : decode cX11_loudOf 1 = .ok (.iconst 2, 1) := by decide +kernel
theorem dX11_loudOf_2 : decode cX11_loudOf 2 = .ok (.if_icmp .ne 8, 3) := by decide +kernel
theorem dX11_loudOf_5 : decode cX11_loudOf 5 = .ok (.bipush 40, 2) := by decide +kernel
theorem dX11_loudOf_7 : decode cX11_loudOf 7 = .ok (.goto 25, 3) := by decide +kernel
theorem dX11_loudOf_10 : decode cX11_loudOf 10 = .ok (.iload_n 0, 1) := by decide +kernel
theorem dX11_loudOf_11 : decode cX11_loudOf 11 = .ok (.iconst 3, 1) := by decide +kernel
theorem dX11_loudOf_12 : decode cX11_loudOf 12 = .ok (.if_icmp .ne 8, 3) := by decide +kernel
theorem dX11_loudOf_15 : decode cX11_loudOf 15 = .ok (.bipush 8, 2) := by decide +kernel
theorem dX11_loudOf_17 : decode cX11_loudOf 17 = .ok (.goto 15, 3) := by decide +kernel
theorem dX11_loudOf_20 : decode cX11_loudOf 20 = .ok (.iload_n 0, 1) := by decide +kernel
theorem dX11_loudOf_21 : decode cX11_loudOf 21 = .ok (.iconst 4, 1) := by decide +kernel
theorem dX11_loudOf_22 : decode cX11_loudOf 22 = .ok (.if_icmp .ne 8, 3) := by decide +kernel
theorem dX11_loudOf_25 : decode cX11_loudOf 25 = .ok (.bipush 9, 2) := by decide +kernel
theorem dX11_loudOf_27 : decode cX11_loudOf 27 = .ok (.goto 5, 3) := by decide +kernel
theorem dX11_loudOf_30 : decode cX11_loudOf 30 = .ok (.bipush 20, 2) := by decide +kernel
theorem dX11_loudOf_32 : decode cX11_loudOf 32 = .ok (.ireturn, 1) := by decide +kernel
theorem dX11_of_0 : decode cX11_of 0 = .ok (.aload_n 0, 1) := by decide +kernel
theorem dX11_of_1 : decode cX11_of 1 = .ok (.iload_n 1, 1) := by decide +kernel
theorem dX11_of_2 : decode cX11_of 2 = .ok (.invokevirtual 160, 3) := by decide +kernel
theorem dX11_of_5 : decode cX11_of 5 = .ok (.ifCond .ne 8, 3) := by decide +kernel
theorem dX11_of_8 : decode cX11_of 8 = .ok (.aload_n 0, 1) := by decide +kernel
theorem dX11_of_9 : decode cX11_of 9 = .ok (.invokevirtual 60, 3) := by decide +kernel
theorem dX11_of_12 : decode cX11_of 12 = .ok (.ireturn, 1) := by decide +kernel
theorem dX11_of_13 : decode cX11_of 13 = .ok (.iload_n 2, 1) := by decide +kernel
theorem dX11_of_14 : decode cX11_of 14 = .ok (.tableswitch 89 0 4 #[34, 44, 54, 64, 76], 34) := by decide +kernel
theorem dX11_of_48 : decode cX11_of 48 = .ok (.aload_n 0, 1) := by decide +kernel
theorem dX11_of_49 : decode cX11_of 49 = .ok (.getfield 7, 3) := by decide +kernel
theorem dX11_of_52 : decode cX11_of 52 = .ok (.bipush 65, 2) := by decide +kernel
theorem dX11_of_54 : decode cX11_of 54 = .ok (.iload_n 1, 1) := by decide +kernel
theorem dX11_of_55 : decode cX11_of 55 = .ok (.iadd, 1) := by decide +kernel
theorem dX11_of_56 : decode cX11_of 56 = .ok (.iaload, 1) := by decide +kernel
theorem dX11_of_57 : decode cX11_of 57 = .ok (.ireturn, 1) := by decide +kernel
theorem dX11_of_58 : decode cX11_of 58 = .ok (.aload_n 0, 1) := by decide +kernel
theorem dX11_of_59 : decode cX11_of 59 = .ok (.getfield 7, 3) := by decide +kernel
theorem dX11_of_62 : decode cX11_of 62 = .ok (.bipush 71, 2) := by decide +kernel
theorem dX11_of_64 : decode cX11_of 64 = .ok (.iload_n 1, 1) := by decide +kernel
theorem dX11_of_65 : decode cX11_of 65 = .ok (.iadd, 1) := by decide +kernel
theorem dX11_of_66 : decode cX11_of 66 = .ok (.iaload, 1) := by decide +kernel
theorem dX11_of_67 : decode cX11_of 67 = .ok (.ireturn, 1) := by decide +kernel
theorem dX11_of_68 : decode cX11_of 68 = .ok (.aload_n 0, 1) := by decide +kernel
theorem dX11_of_69 : decode cX11_of 69 = .ok (.getfield 7, 3) := by decide +kernel
theorem dX11_of_72 : decode cX11_of 72 = .ok (.bipush 94, 2) := by decide +kernel
theorem dX11_of_74 : decode cX11_of 74 = .ok (.iload_n 1, 1) := by decide +kernel
theorem dX11_of_75 : decode cX11_of 75 = .ok (.iadd, 1) := by decide +kernel
theorem dX11_of_76 : decode cX11_of 76 = .ok (.iaload, 1) := by decide +kernel
theorem dX11_of_77 : decode cX11_of 77 = .ok (.ireturn, 1) := by decide +kernel
theorem dX11_of_78 : decode cX11_of 78 = .ok (.aload_n 0, 1) := by decide +kernel
theorem dX11_of_79 : decode cX11_of 79 = .ok (.getfield 7, 3) := by decide +kernel
theorem dX11_of_82 : decode cX11_of 82 = .ok (.bipush 93, 2) := by decide +kernel
theorem dX11_of_84 : decode cX11_of 84 = .ok (.iaload, 1) := by decide +kernel
theorem dX11_of_85 : decode cX11_of 85 = .ok (.iload_n 1, 1) := by decide +kernel
theorem dX11_of_86 : decode cX11_of 86 = .ok (.ishr, 1) := by decide +kernel
theorem dX11_of_87 : decode cX11_of 87 = .ok (.iconst 1, 1) := by decide +kernel
theorem dX11_of_88 : decode cX11_of 88 = .ok (.iand, 1) := by decide +kernel
theorem dX11_of_89 : decode cX11_of 89 = .ok (.ireturn, 1) := by decide +kernel
theorem dX11_of_90 : decode cX11_of 90 = .ok (.aload_n 0, 1) := by decide +kernel
theorem dX11_of_91 : decode cX11_of 91 = .ok (.getfield 7, 3) := by decide +kernel
theorem dX11_of_94 : decode cX11_of 94 = .ok (.bipush 65, 2) := by decide +kernel
theorem dX11_of_96 : decode cX11_of 96 = .ok (.iload_n 1, 1) := by decide +kernel
theorem dX11_of_97 : decode cX11_of 97 = .ok (.iadd, 1) := by decide +kernel
theorem dX11_of_98 : decode cX11_of 98 = .ok (.iaload, 1) := by decide +kernel
theorem dX11_of_99 : decode cX11_of 99 = .ok (.invokestatic 163, 3) := by decide +kernel
theorem dX11_of_102 : decode cX11_of 102 = .ok (.ireturn, 1) := by decide +kernel
theorem dX11_of_103 : decode cX11_of 103 = .ok (.aload_n 0, 1) := by decide +kernel
theorem dX11_of_104 : decode cX11_of 104 = .ok (.invokevirtual 60, 3) := by decide +kernel
theorem dX11_of_107 : decode cX11_of 107 = .ok (.ireturn, 1) := by decide +kernel
theorem dX11_farOf_0 : decode cX11_farOf 0 = .ok (.aload_n 0, 1) := by decide +kernel
theorem dX11_farOf_1 : decode cX11_farOf 1 = .ok (.getfield 33, 3) := by decide +kernel
theorem dX11_farOf_4 : decode cX11_farOf 4 = .ok (.bipush 8, 2) := by decide +kernel
theorem dX11_farOf_6 : decode cX11_farOf 6 = .ok (.iload_n 1, 1) := by decide +kernel
theorem dX11_farOf_7 : decode cX11_farOf 7 = .ok (.imul, 1) := by decide +kernel
theorem dX11_farOf_8 : decode cX11_farOf 8 = .ok (.iload_n 2, 1) := by decide +kernel
theorem dX11_farOf_9 : decode cX11_farOf 9 = .ok (.iadd, 1) := by decide +kernel
theorem dX11_farOf_10 : decode cX11_farOf 10 = .ok (.iaload, 1) := by decide +kernel
theorem dX11_farOf_11 : decode cX11_farOf 11 = .ok (.ireturn, 1) := by decide +kernel
theorem dX11_layFar_0 : decode cX11_layFar 0 = .ok (.iconst 0, 1) := by decide +kernel
theorem dX11_layFar_1 : decode cX11_layFar 1 = .ok (.istore_n 1, 1) := by decide +kernel
theorem dX11_layFar_2 : decode cX11_layFar 2 = .ok (.iload_n 1, 1) := by decide +kernel
theorem dX11_layFar_3 : decode cX11_layFar 3 = .ok (.bipush 8, 2) := by decide +kernel
theorem dX11_layFar_5 : decode cX11_layFar 5 = .ok (.if_icmp .ge 64, 3) := by decide +kernel
theorem dX11_layFar_8 : decode cX11_layFar 8 = .ok (.iconst 0, 1) := by decide +kernel
theorem dX11_layFar_9 : decode cX11_layFar 9 = .ok (.istore_n 2, 1) := by decide +kernel
theorem dX11_layFar_10 : decode cX11_layFar 10 = .ok (.iload_n 2, 1) := by decide +kernel
theorem dX11_layFar_11 : decode cX11_layFar 11 = .ok (.bipush 8, 2) := by decide +kernel
theorem dX11_layFar_13 : decode cX11_layFar 13 = .ok (.if_icmp .ge 50, 3) := by decide +kernel
theorem dX11_layFar_16 : decode cX11_layFar 16 = .ok (.aload_n 0, 1) := by decide +kernel
theorem dX11_layFar_17 : decode cX11_layFar 17 = .ok (.getfield 7, 3) := by decide +kernel
theorem dX11_layFar_20 : decode cX11_layFar 20 = .ok (.bipush 8, 2) := by decide +kernel
theorem dX11_layFar_22 : decode cX11_layFar 22 = .ok (.iload_n 1, 1) := by decide +kernel
theorem dX11_layFar_23 : decode cX11_layFar 23 = .ok (.imul, 1) := by decide +kernel
theorem dX11_layFar_24 : decode cX11_layFar 24 = .ok (.iload_n 2, 1) := by decide +kernel
theorem dX11_layFar_25 : decode cX11_layFar 25 = .ok (.iadd, 1) := by decide +kernel
theorem dX11_layFar_26 : decode cX11_layFar 26 = .ok (.iaload, 1) := by decide +kernel
theorem dX11_layFar_27 : decode cX11_layFar 27 = .ok (.istore_n 3, 1) := by decide +kernel
theorem dX11_layFar_28 : decode cX11_layFar 28 = .ok (.aload_n 0, 1) := by decide +kernel
theorem dX11_layFar_29 : decode cX11_layFar 29 = .ok (.getfield 33, 3) := by decide +kernel
theorem dX11_layFar_32 : decode cX11_layFar 32 = .ok (.bipush 8, 2) := by decide +kernel
theorem dX11_layFar_34 : decode cX11_layFar 34 = .ok (.iload_n 1, 1) := by decide +kernel
theorem dX11_layFar_35 : decode cX11_layFar 35 = .ok (.imul, 1) := by decide +kernel
theorem dX11_layFar_36 : decode cX11_layFar 36 = .ok (.iload_n 2, 1) := by decide +kernel
theorem dX11_layFar_37 : decode cX11_layFar 37 = .ok (.iadd, 1) := by decide +kernel
theorem dX11_layFar_38 : decode cX11_layFar 38 = .ok (.iload_n 1, 1) := by decide +kernel
theorem dX11_layFar_39 : decode cX11_layFar 39 = .ok (.iload_n 2, 1) := by decide +kernel
theorem dX11_layFar_40 : decode cX11_layFar 40 = .ok (.if_icmp .ne 7, 3) := by decide +kernel
theorem dX11_layFar_43 : decode cX11_layFar 43 = .ok (.iconst 0, 1) := by decide +kernel
theorem dX11_layFar_44 : decode cX11_layFar 44 = .ok (.goto 12, 3) := by decide +kernel
theorem dX11_layFar_47 : decode cX11_layFar 47 = .ok (.iload_n 3, 1) := by decide +kernel
theorem dX11_layFar_48 : decode cX11_layFar 48 = .ok (.ifCond .ne 7, 3) := by decide +kernel
theorem dX11_layFar_51 : decode cX11_layFar 51 = .ok (.iconst (-1), 1) := by decide +kernel
theorem dX11_layFar_52 : decode cX11_layFar 52 = .ok (.goto 4, 3) := by decide +kernel
theorem dX11_layFar_55 : decode cX11_layFar 55 = .ok (.iload_n 3, 1) := by decide +kernel
theorem dX11_layFar_56 : decode cX11_layFar 56 = .ok (.iastore, 1) := by decide +kernel
theorem dX11_layFar_57 : decode cX11_layFar 57 = .ok (.iinc 2 1, 3) := by decide +kernel
theorem dX11_layFar_60 : decode cX11_layFar 60 = .ok (.goto (-50), 3) := by decide +kernel
theorem dX11_layFar_63 : decode cX11_layFar 63 = .ok (.iinc 1 1, 3) := by decide +kernel
theorem dX11_layFar_66 : decode cX11_layFar 66 = .ok (.goto (-64), 3) := by decide +kernel
theorem dX11_layFar_69 : decode cX11_layFar 69 = .ok (.iconst 0, 1) := by decide +kernel
theorem dX11_layFar_70 : decode cX11_layFar 70 = .ok (.istore_n 1, 1) := by decide +kernel
theorem dX11_layFar_71 : decode cX11_layFar 71 = .ok (.iload_n 1, 1) := by decide +kernel
theorem dX11_layFar_72 : decode cX11_layFar 72 = .ok (.bipush 8, 2) := by decide +kernel
theorem dX11_layFar_74 : decode cX11_layFar 74 = .ok (.if_icmp .ge 133, 3) := by decide +kernel
theorem dX11_layFar_77 : decode cX11_layFar 77 = .ok (.iconst 0, 1) := by decide +kernel
theorem dX11_layFar_78 : decode cX11_layFar 78 = .ok (.istore_n 2, 1) := by decide +kernel
theorem dX11_layFar_79 : decode cX11_layFar 79 = .ok (.iload_n 2, 1) := by decide +kernel
theorem dX11_layFar_80 : decode cX11_layFar 80 = .ok (.bipush 8, 2) := by decide +kernel
theorem dX11_layFar_82 : decode cX11_layFar 82 = .ok (.if_icmp .ge 119, 3) := by decide +kernel
theorem dX11_layFar_85 : decode cX11_layFar 85 = .ok (.iconst 0, 1) := by decide +kernel
theorem dX11_layFar_86 : decode cX11_layFar 86 = .ok (.istore_n 3, 1) := by decide +kernel
theorem dX11_layFar_87 : decode cX11_layFar 87 = .ok (.iload_n 3, 1) := by decide +kernel
theorem dX11_layFar_88 : decode cX11_layFar 88 = .ok (.bipush 8, 2) := by decide +kernel
theorem dX11_layFar_90 : decode cX11_layFar 90 = .ok (.if_icmp .ge 105, 3) := by decide +kernel
theorem dX11_layFar_93 : decode cX11_layFar 93 = .ok (.aload_n 0, 1) := by decide +kernel
theorem dX11_layFar_94 : decode cX11_layFar 94 = .ok (.iload_n 2, 1) := by decide +kernel
theorem dX11_layFar_95 : decode cX11_layFar 95 = .ok (.iload_n 1, 1) := by decide +kernel
theorem dX11_layFar_96 : decode cX11_layFar 96 = .ok (.invokevirtual 153, 3) := by decide +kernel
theorem dX11_layFar_99 : decode cX11_layFar 99 = .ok (.ifCond .lt 12, 3) := by decide +kernel
theorem dX11_layFar_102 : decode cX11_layFar 102 = .ok (.aload_n 0, 1) := by decide +kernel
theorem dX11_layFar_103 : decode cX11_layFar 103 = .ok (.iload_n 1, 1) := by decide +kernel
theorem dX11_layFar_104 : decode cX11_layFar 104 = .ok (.iload_n 3, 1) := by decide +kernel
theorem dX11_layFar_105 : decode cX11_layFar 105 = .ok (.invokevirtual 153, 3) := by decide +kernel
theorem dX11_layFar_108 : decode cX11_layFar 108 = .ok (.ifCond .ge 7, 3) := by decide +kernel
theorem dX11_layFar_111 : decode cX11_layFar 111 = .ok (.iconst (-1), 1) := by decide +kernel
theorem dX11_layFar_112 : decode cX11_layFar 112 = .ok (.goto 16, 3) := by decide +kernel
theorem dX11_layFar_115 : decode cX11_layFar 115 = .ok (.aload_n 0, 1) := by decide +kernel
theorem dX11_layFar_116 : decode cX11_layFar 116 = .ok (.iload_n 2, 1) := by decide +kernel
theorem dX11_layFar_117 : decode cX11_layFar 117 = .ok (.iload_n 1, 1) := by decide +kernel
theorem dX11_layFar_118 : decode cX11_layFar 118 = .ok (.invokevirtual 153, 3) := by decide +kernel
theorem dX11_layFar_121 : decode cX11_layFar 121 = .ok (.aload_n 0, 1) := by decide +kernel
theorem dX11_layFar_122 : decode cX11_layFar 122 = .ok (.iload_n 1, 1) := by decide +kernel
theorem dX11_layFar_123 : decode cX11_layFar 123 = .ok (.iload_n 3, 1) := by decide +kernel
theorem dX11_layFar_124 : decode cX11_layFar 124 = .ok (.invokevirtual 153, 3) := by decide +kernel
theorem dX11_layFar_127 : decode cX11_layFar 127 = .ok (.iadd, 1) := by decide +kernel
theorem dX11_layFar_128 : decode cX11_layFar 128 = .ok (.istore 4, 2) := by decide +kernel
theorem dX11_layFar_130 : decode cX11_layFar 130 = .ok (.iload 4, 2) := by decide +kernel
theorem dX11_layFar_132 : decode cX11_layFar 132 = .ok (.ifCond .lt 27, 3) := by decide +kernel
theorem dX11_layFar_135 : decode cX11_layFar 135 = .ok (.aload_n 0, 1) := by decide +kernel
theorem dX11_layFar_136 : decode cX11_layFar 136 = .ok (.iload_n 2, 1) := by decide +kernel
theorem dX11_layFar_137 : decode cX11_layFar 137 = .ok (.iload_n 3, 1) := by decide +kernel
theorem dX11_layFar_138 : decode cX11_layFar 138 = .ok (.invokevirtual 153, 3) := by decide +kernel
theorem dX11_layFar_141 : decode cX11_layFar 141 = .ok (.ifCond .lt 14, 3) := by decide +kernel
theorem dX11_layFar_144 : decode cX11_layFar 144 = .ok (.iload 4, 2) := by decide +kernel
theorem dX11_layFar_146 : decode cX11_layFar 146 = .ok (.aload_n 0, 1) := by decide +kernel
theorem dX11_layFar_147 : decode cX11_layFar 147 = .ok (.iload_n 2, 1) := by decide +kernel
theorem dX11_layFar_148 : decode cX11_layFar 148 = .ok (.iload_n 3, 1) := by decide +kernel
theorem dX11_layFar_149 : decode cX11_layFar 149 = .ok (.invokevirtual 153, 3) := by decide +kernel
theorem dX11_layFar_152 : decode cX11_layFar 152 = .ok (.if_icmp .ge 7, 3) := by decide +kernel
theorem dX11_layFar_155 : decode cX11_layFar 155 = .ok (.iconst 1, 1) := by decide +kernel
theorem dX11_layFar_156 : decode cX11_layFar 156 = .ok (.goto 4, 3) := by decide +kernel
theorem dX11_layFar_159 : decode cX11_layFar 159 = .ok (.iconst 0, 1) := by decide +kernel
theorem dX11_layFar_160 : decode cX11_layFar 160 = .ok (.istore 5, 2) := by decide +kernel
theorem dX11_layFar_162 : decode cX11_layFar 162 = .ok (.aload_n 0, 1) := by decide +kernel
theorem dX11_layFar_163 : decode cX11_layFar 163 = .ok (.getfield 33, 3) := by decide +kernel
theorem dX11_layFar_166 : decode cX11_layFar 166 = .ok (.bipush 8, 2) := by decide +kernel
theorem dX11_layFar_168 : decode cX11_layFar 168 = .ok (.iload_n 2, 1) := by decide +kernel
theorem dX11_layFar_169 : decode cX11_layFar 169 = .ok (.imul, 1) := by decide +kernel
theorem dX11_layFar_170 : decode cX11_layFar 170 = .ok (.iload_n 3, 1) := by decide +kernel
theorem dX11_layFar_171 : decode cX11_layFar 171 = .ok (.iadd, 1) := by decide +kernel
theorem dX11_layFar_172 : decode cX11_layFar 172 = .ok (.iload 5, 2) := by decide +kernel
theorem dX11_layFar_174 : decode cX11_layFar 174 = .ok (.ifCond .eq 8, 3) := by decide +kernel
theorem dX11_layFar_177 : decode cX11_layFar 177 = .ok (.iload 4, 2) := by decide +kernel
theorem dX11_layFar_179 : decode cX11_layFar 179 = .ok (.goto 9, 3) := by decide +kernel
theorem dX11_layFar_182 : decode cX11_layFar 182 = .ok (.aload_n 0, 1) := by decide +kernel
theorem dX11_layFar_183 : decode cX11_layFar 183 = .ok (.iload_n 2, 1) := by decide +kernel
theorem dX11_layFar_184 : decode cX11_layFar 184 = .ok (.iload_n 3, 1) := by decide +kernel
theorem dX11_layFar_185 : decode cX11_layFar 185 = .ok (.invokevirtual 153, 3) := by decide +kernel
theorem dX11_layFar_188 : decode cX11_layFar 188 = .ok (.iastore, 1) := by decide +kernel
theorem dX11_layFar_189 : decode cX11_layFar 189 = .ok (.iinc 3 1, 3) := by decide +kernel
theorem dX11_layFar_192 : decode cX11_layFar 192 = .ok (.goto (-105), 3) := by decide +kernel
theorem dX11_layFar_195 : decode cX11_layFar 195 = .ok (.iinc 2 1, 3) := by decide +kernel
theorem dX11_layFar_198 : decode cX11_layFar 198 = .ok (.goto (-119), 3) := by decide +kernel
theorem dX11_layFar_201 : decode cX11_layFar 201 = .ok (.iinc 1 1, 3) := by decide +kernel
theorem dX11_layFar_204 : decode cX11_layFar 204 = .ok (.goto (-133), 3) := by decide +kernel
theorem dX11_layFar_207 : decode cX11_layFar 207 = .ok (.return_, 1) := by decide +kernel
theorem dX11_far_0 : decode cX11_far 0 = .ok (.iload_n 1, 1) := by decide +kernel
theorem dX11_far_1 : decode cX11_far 1 = .ok (.invokestatic 56, 3) := by decide +kernel
theorem dX11_far_4 : decode cX11_far 4 = .ok (.ifCond .eq 10, 3) := by decide +kernel
theorem dX11_far_7 : decode cX11_far 7 = .ok (.iload_n 2, 1) := by decide +kernel
theorem dX11_far_8 : decode cX11_far 8 = .ok (.invokestatic 56, 3) := by decide +kernel
theorem dX11_far_11 : decode cX11_far 11 = .ok (.ifCond .ne 8, 3) := by decide +kernel
theorem dX11_far_14 : decode cX11_far 14 = .ok (.aload_n 0, 1) := by decide +kernel
theorem dX11_far_15 : decode cX11_far 15 = .ok (.invokevirtual 60, 3) := by decide +kernel
theorem dX11_far_18 : decode cX11_far 18 = .ok (.ireturn, 1) := by decide +kernel
theorem dX11_far_19 : decode cX11_far 19 = .ok (.aload_n 0, 1) := by decide +kernel
theorem dX11_far_20 : decode cX11_far 20 = .ok (.invokevirtual 146, 3) := by decide +kernel
theorem dX11_far_23 : decode cX11_far 23 = .ok (.aload_n 0, 1) := by decide +kernel
theorem dX11_far_24 : decode cX11_far 24 = .ok (.iload_n 1, 1) := by decide +kernel
theorem dX11_far_25 : decode cX11_far 25 = .ok (.iload_n 2, 1) := by decide +kernel
theorem dX11_far_26 : decode cX11_far 26 = .ok (.invokevirtual 153, 3) := by decide +kernel
theorem dX11_far_29 : decode cX11_far 29 = .ok (.ireturn, 1) := by decide +kernel
theorem dX11_beepsBy_0 : decode cX11_beepsBy 0 = .ok (.iload_n 1, 1) := by decide +kernel
theorem dX11_beepsBy_1 : decode cX11_beepsBy 1 = .ok (.iload_n 3, 1) := by decide +kernel
theorem dX11_beepsBy_2 : decode cX11_beepsBy 2 = .ok (.isub, 1) := by decide +kernel
theorem dX11_beepsBy_3 : decode cX11_beepsBy 3 = .ok (.istore 4, 2) := by decide +kernel
theorem dX11_beepsBy_5 : decode cX11_beepsBy 5 = .ok (.iload_n 2, 1) := by decide +kernel
theorem dX11_beepsBy_6 : decode cX11_beepsBy 6 = .ok (.bipush 41, 2) := by decide +kernel
theorem dX11_beepsBy_8 : decode cX11_beepsBy 8 = .ok (.irem, 1) := by decide +kernel
theorem dX11_beepsBy_9 : decode cX11_beepsBy 9 = .ok (.ifCond .ne 7, 3) := by decide +kernel
theorem dX11_beepsBy_12 : decode cX11_beepsBy 12 = .ok (.iconst 1, 1) := by decide +kernel
theorem dX11_beepsBy_13 : decode cX11_beepsBy 13 = .ok (.goto 4, 3) := by decide +kernel
theorem dX11_beepsBy_16 : decode cX11_beepsBy 16 = .ok (.iconst 0, 1) := by decide +kernel
theorem dX11_beepsBy_17 : decode cX11_beepsBy 17 = .ok (.istore 5, 2) := by decide +kernel
theorem dX11_beepsBy_19 : decode cX11_beepsBy 19 = .ok (.iload_n 0, 1) := by decide +kernel
theorem dX11_beepsBy_20 : decode cX11_beepsBy 20 = .ok (.tableswitch 126 1 5 #[36, 54, 126, 88, 103], 36) := by decide +kernel
theorem dX11_beepsBy_56 : decode cX11_beepsBy 56 = .ok (.iload 5, 2) := by decide +kernel
theorem dX11_beepsBy_58 : decode cX11_beepsBy 58 = .ok (.ifCond .eq 14, 3) := by decide +kernel
theorem dX11_beepsBy_61 : decode cX11_beepsBy 61 = .ok (.iload 4, 2) := by decide +kernel
theorem dX11_beepsBy_63 : decode cX11_beepsBy 63 = .ok (.bipush 30, 2) := by decide +kernel
theorem dX11_beepsBy_65 : decode cX11_beepsBy 65 = .ok (.if_icmp .ge 7, 3) := by decide +kernel
theorem dX11_beepsBy_68 : decode cX11_beepsBy 68 = .ok (.iconst 1, 1) := by decide +kernel
theorem dX11_beepsBy_69 : decode cX11_beepsBy 69 = .ok (.goto 4, 3) := by decide +kernel
theorem dX11_beepsBy_72 : decode cX11_beepsBy 72 = .ok (.iconst 0, 1) := by decide +kernel
theorem dX11_beepsBy_73 : decode cX11_beepsBy 73 = .ok (.ireturn, 1) := by decide +kernel
theorem dX11_beepsBy_74 : decode cX11_beepsBy 74 = .ok (.iload 5, 2) := by decide +kernel
theorem dX11_beepsBy_76 : decode cX11_beepsBy 76 = .ok (.ifCond .eq 10, 3) := by decide +kernel
theorem dX11_beepsBy_79 : decode cX11_beepsBy 79 = .ok (.iload 4, 2) := by decide +kernel
theorem dX11_beepsBy_81 : decode cX11_beepsBy 81 = .ok (.bipush 20, 2) := by decide +kernel
theorem dX11_beepsBy_83 : decode cX11_beepsBy 83 = .ok (.if_icmp .lt 19, 3) := by decide +kernel
theorem dX11_beepsBy_86 : decode cX11_beepsBy 86 = .ok (.iload_n 2, 1) := by decide +kernel
theorem dX11_beepsBy_87 : decode cX11_beepsBy 87 = .ok (.bipush 41, 2) := by decide +kernel
theorem dX11_beepsBy_89 : decode cX11_beepsBy 89 = .ok (.irem, 1) := by decide +kernel
theorem dX11_beepsBy_90 : decode cX11_beepsBy 90 = .ok (.bipush 20, 2) := by decide +kernel
theorem dX11_beepsBy_92 : decode cX11_beepsBy 92 = .ok (.if_icmp .ne 14, 3) := by decide +kernel
theorem dX11_beepsBy_95 : decode cX11_beepsBy 95 = .ok (.iload 4, 2) := by decide +kernel
theorem dX11_beepsBy_97 : decode cX11_beepsBy 97 = .ok (.bipush 10, 2) := by decide +kernel
theorem dX11_beepsBy_99 : decode cX11_beepsBy 99 = .ok (.if_icmp .ge 7, 3) := by decide +kernel
theorem dX11_beepsBy_102 : decode cX11_beepsBy 102 = .ok (.iconst 1, 1) := by decide +kernel
theorem dX11_beepsBy_103 : decode cX11_beepsBy 103 = .ok (.goto 4, 3) := by decide +kernel
theorem dX11_beepsBy_106 : decode cX11_beepsBy 106 = .ok (.iconst 0, 1) := by decide +kernel
theorem dX11_beepsBy_107 : decode cX11_beepsBy 107 = .ok (.ireturn, 1) := by decide +kernel
theorem dX11_beepsBy_108 : decode cX11_beepsBy 108 = .ok (.iload_n 2, 1) := by decide +kernel
theorem dX11_beepsBy_109 : decode cX11_beepsBy 109 = .ok (.bipush 30, 2) := by decide +kernel
theorem dX11_beepsBy_111 : decode cX11_beepsBy 111 = .ok (.irem, 1) := by decide +kernel
theorem dX11_beepsBy_112 : decode cX11_beepsBy 112 = .ok (.bipush 7, 2) := by decide +kernel
theorem dX11_beepsBy_114 : decode cX11_beepsBy 114 = .ok (.if_icmp .ne 7, 3) := by decide +kernel
theorem dX11_beepsBy_117 : decode cX11_beepsBy 117 = .ok (.iconst 1, 1) := by decide +kernel
theorem dX11_beepsBy_118 : decode cX11_beepsBy 118 = .ok (.goto 4, 3) := by decide +kernel
theorem dX11_beepsBy_121 : decode cX11_beepsBy 121 = .ok (.iconst 0, 1) := by decide +kernel
theorem dX11_beepsBy_122 : decode cX11_beepsBy 122 = .ok (.ireturn, 1) := by decide +kernel
theorem dX11_beepsBy_123 : decode cX11_beepsBy 123 = .ok (.iload 5, 2) := by decide +kernel
theorem dX11_beepsBy_125 : decode cX11_beepsBy 125 = .ok (.ifCond .eq 19, 3) := by decide +kernel
theorem dX11_beepsBy_128 : decode cX11_beepsBy 128 = .ok (.iload 4, 2) := by decide +kernel
theorem dX11_beepsBy_130 : decode cX11_beepsBy 130 = .ok (.bipush 30, 2) := by decide +kernel
theorem dX11_beepsBy_132 : decode cX11_beepsBy 132 = .ok (.if_icmp .ge 12, 3) := by decide +kernel
theorem dX11_beepsBy_135 : decode cX11_beepsBy 135 = .ok (.iload_n 3, 1) := by decide +kernel
theorem dX11_beepsBy_136 : decode cX11_beepsBy 136 = .ok (.iconst 5, 1) := by decide +kernel
theorem dX11_beepsBy_137 : decode cX11_beepsBy 137 = .ok (.if_icmp .lt 7, 3) := by decide +kernel
theorem dX11_beepsBy_140 : decode cX11_beepsBy 140 = .ok (.iconst 1, 1) := by decide +kernel
theorem dX11_beepsBy_141 : decode cX11_beepsBy 141 = .ok (.goto 4, 3) := by decide +kernel
theorem dX11_beepsBy_144 : decode cX11_beepsBy 144 = .ok (.iconst 0, 1) := by decide +kernel
theorem dX11_beepsBy_145 : decode cX11_beepsBy 145 = .ok (.ireturn, 1) := by decide +kernel
theorem dX11_beepsBy_146 : decode cX11_beepsBy 146 = .ok (.iload 5, 2) := by decide +kernel
theorem dX11_beepsBy_148 : decode cX11_beepsBy 148 = .ok (.ifCond .eq 14, 3) := by decide +kernel
theorem dX11_beepsBy_151 : decode cX11_beepsBy 151 = .ok (.iload 4, 2) := by decide +kernel
theorem dX11_beepsBy_153 : decode cX11_beepsBy 153 = .ok (.bipush 20, 2) := by decide +kernel
theorem dX11_beepsBy_155 : decode cX11_beepsBy 155 = .ok (.if_icmp .ge 7, 3) := by decide +kernel
theorem dX11_beepsBy_158 : decode cX11_beepsBy 158 = .ok (.iconst 1, 1) := by decide +kernel
theorem dX11_beepsBy_159 : decode cX11_beepsBy 159 = .ok (.goto 4, 3) := by decide +kernel
theorem dX11_beepsBy_162 : decode cX11_beepsBy 162 = .ok (.iconst 0, 1) := by decide +kernel
theorem dX11_beepsBy_163 : decode cX11_beepsBy 163 = .ok (.ireturn, 1) := by decide +kernel
theorem dX11_isSilent_0 : decode cX11_isSilent 0 = .ok (.aload_n 0, 1) := by decide +kernel
theorem dX11_isSilent_1 : decode cX11_isSilent 1 = .ok (.getfield 7, 3) := by decide +kernel
theorem dX11_isSilent_4 : decode cX11_isSilent 4 = .ok (.bipush 93, 2) := by decide +kernel
theorem dX11_isSilent_6 : decode cX11_isSilent 6 = .ok (.iaload, 1) := by decide +kernel
theorem dX11_isSilent_7 : decode cX11_isSilent 7 = .ok (.iload_n 1, 1) := by decide +kernel
theorem dX11_isSilent_8 : decode cX11_isSilent 8 = .ok (.invokestatic 166, 3) := by decide +kernel
theorem dX11_isSilent_11 : decode cX11_isSilent 11 = .ok (.ifCond .eq 33, 3) := by decide +kernel
theorem dX11_isSilent_14 : decode cX11_isSilent 14 = .ok (.aload_n 0, 1) := by decide +kernel
theorem dX11_isSilent_15 : decode cX11_isSilent 15 = .ok (.getfield 7, 3) := by decide +kernel
theorem dX11_isSilent_18 : decode cX11_isSilent 18 = .ok (.bipush 65, 2) := by decide +kernel
theorem dX11_isSilent_20 : decode cX11_isSilent 20 = .ok (.iload_n 1, 1) := by decide +kernel
theorem dX11_isSilent_21 : decode cX11_isSilent 21 = .ok (.iadd, 1) := by decide +kernel
theorem dX11_isSilent_22 : decode cX11_isSilent 22 = .ok (.iaload, 1) := by decide +kernel
theorem dX11_isSilent_23 : decode cX11_isSilent 23 = .ok (.iconst 3, 1) := by decide +kernel
theorem dX11_isSilent_24 : decode cX11_isSilent 24 = .ok (.if_icmp .eq 20, 3) := by decide +kernel
theorem dX11_isSilent_27 : decode cX11_isSilent 27 = .ok (.aload_n 0, 1) := by decide +kernel
theorem dX11_isSilent_28 : decode cX11_isSilent 28 = .ok (.getfield 7, 3) := by decide +kernel
theorem dX11_isSilent_31 : decode cX11_isSilent 31 = .ok (.bipush 65, 2) := by decide +kernel
theorem dX11_isSilent_33 : decode cX11_isSilent 33 = .ok (.iload_n 1, 1) := by decide +kernel
theorem dX11_isSilent_34 : decode cX11_isSilent 34 = .ok (.iadd, 1) := by decide +kernel
theorem dX11_isSilent_35 : decode cX11_isSilent 35 = .ok (.iaload, 1) := by decide +kernel
theorem dX11_isSilent_36 : decode cX11_isSilent 36 = .ok (.iconst 4, 1) := by decide +kernel
theorem dX11_isSilent_37 : decode cX11_isSilent 37 = .ok (.if_icmp .eq 7, 3) := by decide +kernel
theorem dX11_isSilent_40 : decode cX11_isSilent 40 = .ok (.iconst 1, 1) := by decide +kernel
theorem dX11_isSilent_41 : decode cX11_isSilent 41 = .ok (.goto 4, 3) := by decide +kernel
theorem dX11_isSilent_44 : decode cX11_isSilent 44 = .ok (.iconst 0, 1) := by decide +kernel
theorem dX11_isSilent_45 : decode cX11_isSilent 45 = .ok (.ireturn, 1) := by decide +kernel
theorem dX11_beepsNow_0 : decode cX11_beepsNow 0 = .ok (.aload_n 0, 1) := by decide +kernel
theorem dX11_beepsNow_1 : decode cX11_beepsNow 1 = .ok (.iload_n 1, 1) := by decide +kernel
theorem dX11_beepsNow_2 : decode cX11_beepsNow 2 = .ok (.invokevirtual 169, 3) := by decide +kernel
theorem dX11_beepsNow_5 : decode cX11_beepsNow 5 = .ok (.ifCond .ne 33, 3) := by decide +kernel
theorem dX11_beepsNow_8 : decode cX11_beepsNow 8 = .ok (.aload_n 0, 1) := by decide +kernel
theorem dX11_beepsNow_9 : decode cX11_beepsNow 9 = .ok (.getfield 7, 3) := by decide +kernel
theorem dX11_beepsNow_12 : decode cX11_beepsNow 12 = .ok (.bipush 65, 2) := by decide +kernel
theorem dX11_beepsNow_14 : decode cX11_beepsNow 14 = .ok (.iload_n 1, 1) := by decide +kernel
theorem dX11_beepsNow_15 : decode cX11_beepsNow 15 = .ok (.iadd, 1) := by decide +kernel
theorem dX11_beepsNow_16 : decode cX11_beepsNow 16 = .ok (.iaload, 1) := by decide +kernel
theorem dX11_beepsNow_17 : decode cX11_beepsNow 17 = .ok (.aload_n 0, 1) := by decide +kernel
theorem dX11_beepsNow_18 : decode cX11_beepsNow 18 = .ok (.getfield 7, 3) := by decide +kernel
theorem dX11_beepsNow_21 : decode cX11_beepsNow 21 = .ok (.bipush 94, 2) := by decide +kernel
theorem dX11_beepsNow_23 : decode cX11_beepsNow 23 = .ok (.iload_n 1, 1) := by decide +kernel
theorem dX11_beepsNow_24 : decode cX11_beepsNow 24 = .ok (.iadd, 1) := by decide +kernel
theorem dX11_beepsNow_25 : decode cX11_beepsNow 25 = .ok (.iaload, 1) := by decide +kernel
theorem dX11_beepsNow_26 : decode cX11_beepsNow 26 = .ok (.iload_n 2, 1) := by decide +kernel
theorem dX11_beepsNow_27 : decode cX11_beepsNow 27 = .ok (.iload_n 3, 1) := by decide +kernel
theorem dX11_beepsNow_28 : decode cX11_beepsNow 28 = .ok (.invokestatic 172, 3) := by decide +kernel
theorem dX11_beepsNow_31 : decode cX11_beepsNow 31 = .ok (.ifCond .eq 7, 3) := by decide +kernel
theorem dX11_beepsNow_34 : decode cX11_beepsNow 34 = .ok (.iconst 1, 1) := by decide +kernel
theorem dX11_beepsNow_35 : decode cX11_beepsNow 35 = .ok (.goto 4, 3) := by decide +kernel
theorem dX11_beepsNow_38 : decode cX11_beepsNow 38 = .ok (.iconst 0, 1) := by decide +kernel
theorem dX11_beepsNow_39 : decode cX11_beepsNow 39 = .ok (.ireturn, 1) := by decide +kernel
theorem dX11_beeps_0 : decode cX11_beeps 0 = .ok (.aload_n 0, 1) := by decide +kernel
theorem dX11_beeps_1 : decode cX11_beeps 1 = .ok (.iload_n 1, 1) := by decide +kernel
theorem dX11_beeps_2 : decode cX11_beeps 2 = .ok (.invokevirtual 160, 3) := by decide +kernel
theorem dX11_beeps_5 : decode cX11_beeps 5 = .ok (.ifCond .eq 14, 3) := by decide +kernel
theorem dX11_beeps_8 : decode cX11_beeps 8 = .ok (.iload_n 2, 1) := by decide +kernel
theorem dX11_beeps_9 : decode cX11_beeps 9 = .ok (.iconst 0, 1) := by decide +kernel
theorem dX11_beeps_10 : decode cX11_beeps 10 = .ok (.sipush 9999, 3) := by decide +kernel
theorem dX11_beeps_13 : decode cX11_beeps 13 = .ok (.invokestatic 52, 3) := by decide +kernel
theorem dX11_beeps_16 : decode cX11_beeps 16 = .ok (.ifCond .ne 8, 3) := by decide +kernel
theorem dX11_beeps_19 : decode cX11_beeps 19 = .ok (.aload_n 0, 1) := by decide +kernel
theorem dX11_beeps_20 : decode cX11_beeps 20 = .ok (.invokevirtual 60, 3) := by decide +kernel
theorem dX11_beeps_23 : decode cX11_beeps 23 = .ok (.ireturn, 1) := by decide +kernel
theorem dX11_beeps_24 : decode cX11_beeps 24 = .ok (.aload_n 0, 1) := by decide +kernel
theorem dX11_beeps_25 : decode cX11_beeps 25 = .ok (.iload_n 1, 1) := by decide +kernel
theorem dX11_beeps_26 : decode cX11_beeps 26 = .ok (.iload_n 2, 1) := by decide +kernel
theorem dX11_beeps_27 : decode cX11_beeps 27 = .ok (.aload_n 0, 1) := by decide +kernel
theorem dX11_beeps_28 : decode cX11_beeps 28 = .ok (.getfield 7, 3) := by decide +kernel
theorem dX11_beeps_31 : decode cX11_beeps 31 = .ok (.bipush 92, 2) := by decide +kernel
theorem dX11_beeps_33 : decode cX11_beeps 33 = .ok (.iaload, 1) := by decide +kernel
theorem dX11_beeps_34 : decode cX11_beeps 34 = .ok (.invokevirtual 176, 3) := by decide +kernel
theorem dX11_beeps_37 : decode cX11_beeps 37 = .ok (.ifCond .eq 7, 3) := by decide +kernel
theorem dX11_beeps_40 : decode cX11_beeps 40 = .ok (.iconst 1, 1) := by decide +kernel
theorem dX11_beeps_41 : decode cX11_beeps 41 = .ok (.goto 4, 3) := by decide +kernel
theorem dX11_beeps_44 : decode cX11_beeps 44 = .ok (.iconst 0, 1) := by decide +kernel
theorem dX11_beeps_45 : decode cX11_beeps 45 = .ok (.ireturn, 1) := by decide +kernel
theorem dX11_reaches_0 : decode cX11_reaches 0 = .ok (.aload_n 0, 1) := by decide +kernel
theorem dX11_reaches_1 : decode cX11_reaches 1 = .ok (.iload_n 1, 1) := by decide +kernel
theorem dX11_reaches_2 : decode cX11_reaches 2 = .ok (.aload_n 0, 1) := by decide +kernel
theorem dX11_reaches_3 : decode cX11_reaches 3 = .ok (.getfield 7, 3) := by decide +kernel
theorem dX11_reaches_6 : decode cX11_reaches 6 = .ok (.bipush 71, 2) := by decide +kernel
theorem dX11_reaches_8 : decode cX11_reaches 8 = .ok (.iload_n 2, 1) := by decide +kernel
theorem dX11_reaches_9 : decode cX11_reaches 9 = .ok (.iadd, 1) := by decide +kernel
theorem dX11_reaches_10 : decode cX11_reaches 10 = .ok (.iaload, 1) := by decide +kernel
theorem dX11_reaches_11 : decode cX11_reaches 11 = .ok (.invokevirtual 153, 3) := by decide +kernel
theorem dX11_reaches_14 : decode cX11_reaches 14 = .ok (.istore_n 3, 1) := by decide +kernel
theorem dX11_reaches_15 : decode cX11_reaches 15 = .ok (.iload_n 3, 1) := by decide +kernel
theorem dX11_reaches_16 : decode cX11_reaches 16 = .ok (.ifCond .lt 23, 3) := by decide +kernel
theorem dX11_reaches_19 : decode cX11_reaches 19 = .ok (.aload_n 0, 1) := by decide +kernel
theorem dX11_reaches_20 : decode cX11_reaches 20 = .ok (.getfield 7, 3) := by decide +kernel
theorem dX11_reaches_23 : decode cX11_reaches 23 = .ok (.bipush 65, 2) := by decide +kernel
theorem dX11_reaches_25 : decode cX11_reaches 25 = .ok (.iload_n 2, 1) := by decide +kernel
theorem dX11_reaches_26 : decode cX11_reaches 26 = .ok (.iadd, 1) := by decide +kernel
theorem dX11_reaches_27 : decode cX11_reaches 27 = .ok (.iaload, 1) := by decide +kernel
theorem dX11_reaches_28 : decode cX11_reaches 28 = .ok (.invokestatic 163, 3) := by decide +kernel
theorem dX11_reaches_31 : decode cX11_reaches 31 = .ok (.iload_n 3, 1) := by decide +kernel
theorem dX11_reaches_32 : decode cX11_reaches 32 = .ok (.if_icmp .le 7, 3) := by decide +kernel
theorem dX11_reaches_35 : decode cX11_reaches 35 = .ok (.iconst 1, 1) := by decide +kernel
theorem dX11_reaches_36 : decode cX11_reaches 36 = .ok (.goto 4, 3) := by decide +kernel
theorem dX11_reaches_39 : decode cX11_reaches 39 = .ok (.iconst 0, 1) := by decide +kernel
theorem dX11_reaches_40 : decode cX11_reaches 40 = .ok (.ireturn, 1) := by decide +kernel
theorem dX11_heardBy_0 : decode cX11_heardBy 0 = .ok (.iconst 0, 1) := by decide +kernel
theorem dX11_heardBy_1 : decode cX11_heardBy 1 = .ok (.istore 4, 2) := by decide +kernel
theorem dX11_heardBy_3 : decode cX11_heardBy 3 = .ok (.iconst 0, 1) := by decide +kernel
theorem dX11_heardBy_4 : decode cX11_heardBy 4 = .ok (.istore 5, 2) := by decide +kernel
theorem dX11_heardBy_6 : decode cX11_heardBy 6 = .ok (.iload 5, 2) := by decide +kernel
theorem dX11_heardBy_8 : decode cX11_heardBy 8 = .ok (.aload_n 0, 1) := by decide +kernel
theorem dX11_heardBy_9 : decode cX11_heardBy 9 = .ok (.getfield 7, 3) := by decide +kernel
theorem dX11_heardBy_12 : decode cX11_heardBy 12 = .ok (.bipush 64, 2) := by decide +kernel
theorem dX11_heardBy_14 : decode cX11_heardBy 14 = .ok (.iaload, 1) := by decide +kernel
theorem dX11_heardBy_15 : decode cX11_heardBy 15 = .ok (.if_icmp .ge 43, 3) := by decide +kernel
theorem dX11_heardBy_18 : decode cX11_heardBy 18 = .ok (.iload 4, 2) := by decide +kernel
theorem dX11_heardBy_20 : decode cX11_heardBy 20 = .ok (.aload_n 0, 1) := by decide +kernel
theorem dX11_heardBy_21 : decode cX11_heardBy 21 = .ok (.iload 5, 2) := by decide +kernel
theorem dX11_heardBy_23 : decode cX11_heardBy 23 = .ok (.iload_n 2, 1) := by decide +kernel
theorem dX11_heardBy_24 : decode cX11_heardBy 24 = .ok (.iload_n 3, 1) := by decide +kernel
theorem dX11_heardBy_25 : decode cX11_heardBy 25 = .ok (.invokevirtual 176, 3) := by decide +kernel
theorem dX11_heardBy_28 : decode cX11_heardBy 28 = .ok (.ifCond .eq 20, 3) := by decide +kernel
theorem dX11_heardBy_31 : decode cX11_heardBy 31 = .ok (.aload_n 0, 1) := by decide +kernel
theorem dX11_heardBy_32 : decode cX11_heardBy 32 = .ok (.iload_n 1, 1) := by decide +kernel
theorem dX11_heardBy_33 : decode cX11_heardBy 33 = .ok (.iload 5, 2) := by decide +kernel
theorem dX11_heardBy_35 : decode cX11_heardBy 35 = .ok (.invokevirtual 179, 3) := by decide +kernel
theorem dX11_heardBy_38 : decode cX11_heardBy 38 = .ok (.ifCond .eq 10, 3) := by decide +kernel
theorem dX11_heardBy_41 : decode cX11_heardBy 41 = .ok (.iconst 1, 1) := by decide +kernel
theorem dX11_heardBy_42 : decode cX11_heardBy 42 = .ok (.iload 5, 2) := by decide +kernel
theorem dX11_heardBy_44 : decode cX11_heardBy 44 = .ok (.ishl, 1) := by decide +kernel
theorem dX11_heardBy_45 : decode cX11_heardBy 45 = .ok (.goto 4, 3) := by decide +kernel
theorem dX11_heardBy_48 : decode cX11_heardBy 48 = .ok (.iconst 0, 1) := by decide +kernel
theorem dX11_heardBy_49 : decode cX11_heardBy 49 = .ok (.ior, 1) := by decide +kernel
theorem dX11_heardBy_50 : decode cX11_heardBy 50 = .ok (.istore 4, 2) := by decide +kernel
theorem dX11_heardBy_52 : decode cX11_heardBy 52 = .ok (.iinc 5 1, 3) := by decide +kernel
theorem dX11_heardBy_55 : decode cX11_heardBy 55 = .ok (.goto (-49), 3) := by decide +kernel
theorem dX11_heardBy_58 : decode cX11_heardBy 58 = .ok (.iload 4, 2) := by decide +kernel
theorem dX11_heardBy_60 : decode cX11_heardBy 60 = .ok (.ireturn, 1) := by decide +kernel
theorem dX11_heard_0 : decode cX11_heard 0 = .ok (.iload_n 1, 1) := by decide +kernel
theorem dX11_heard_1 : decode cX11_heard 1 = .ok (.invokestatic 56, 3) := by decide +kernel
theorem dX11_heard_4 : decode cX11_heard 4 = .ok (.ifCond .eq 14, 3) := by decide +kernel
theorem dX11_heard_7 : decode cX11_heard 7 = .ok (.iload_n 2, 1) := by decide +kernel
theorem dX11_heard_8 : decode cX11_heard 8 = .ok (.iconst 0, 1) := by decide +kernel
theorem dX11_heard_9 : decode cX11_heard 9 = .ok (.sipush 9999, 3) := by decide +kernel
theorem dX11_heard_12 : decode cX11_heard 12 = .ok (.invokestatic 52, 3) := by decide +kernel
theorem dX11_heard_15 : decode cX11_heard 15 = .ok (.ifCond .ne 8, 3) := by decide +kernel
theorem dX11_heard_18 : decode cX11_heard 18 = .ok (.aload_n 0, 1) := by decide +kernel
theorem dX11_heard_19 : decode cX11_heard 19 = .ok (.invokevirtual 60, 3) := by decide +kernel
theorem dX11_heard_22 : decode cX11_heard 22 = .ok (.ireturn, 1) := by decide +kernel
theorem dX11_heard_23 : decode cX11_heard 23 = .ok (.aload_n 0, 1) := by decide +kernel
theorem dX11_heard_24 : decode cX11_heard 24 = .ok (.invokevirtual 146, 3) := by decide +kernel
theorem dX11_heard_27 : decode cX11_heard 27 = .ok (.aload_n 0, 1) := by decide +kernel
theorem dX11_heard_28 : decode cX11_heard 28 = .ok (.iload_n 1, 1) := by decide +kernel
theorem dX11_heard_29 : decode cX11_heard 29 = .ok (.iload_n 2, 1) := by decide +kernel
theorem dX11_heard_30 : decode cX11_heard 30 = .ok (.aload_n 0, 1) := by decide +kernel
theorem dX11_heard_31 : decode cX11_heard 31 = .ok (.getfield 7, 3) := by decide +kernel
theorem dX11_heard_34 : decode cX11_heard 34 = .ok (.bipush 92, 2) := by decide +kernel
theorem dX11_heard_36 : decode cX11_heard 36 = .ok (.iaload, 1) := by decide +kernel
theorem dX11_heard_37 : decode cX11_heard 37 = .ok (.invokevirtual 149, 3) := by decide +kernel
theorem dX11_heard_40 : decode cX11_heard 40 = .ok (.ireturn, 1) := by decide +kernel
theorem dX11_throughBy_0 : decode cX11_throughBy 0 = .ok (.aload_n 0, 1) := by decide +kernel
theorem dX11_throughBy_1 : decode cX11_throughBy 1 = .ok (.getfield 7, 3) := by decide +kernel
theorem dX11_throughBy_4 : decode cX11_throughBy 4 = .ok (.bipush 71, 2) := by decide +kernel
theorem dX11_throughBy_6 : decode cX11_throughBy 6 = .ok (.iload_n 2, 1) := by decide +kernel
theorem dX11_throughBy_7 : decode cX11_throughBy 7 = .ok (.iadd, 1) := by decide +kernel
theorem dX11_throughBy_8 : decode cX11_throughBy 8 = .ok (.iaload, 1) := by decide +kernel
theorem dX11_throughBy_9 : decode cX11_throughBy 9 = .ok (.istore_n 3, 1) := by decide +kernel
theorem dX11_throughBy_10 : decode cX11_throughBy 10 = .ok (.aload_n 0, 1) := by decide +kernel
theorem dX11_throughBy_11 : decode cX11_throughBy 11 = .ok (.iload_n 1, 1) := by decide +kernel
theorem dX11_throughBy_12 : decode cX11_throughBy 12 = .ok (.iload_n 2, 1) := by decide +kernel
theorem dX11_throughBy_13 : decode cX11_throughBy 13 = .ok (.invokevirtual 179, 3) := by decide +kernel
theorem dX11_throughBy_16 : decode cX11_throughBy 16 = .ok (.ifCond .ne 5, 3) := by decide +kernel
theorem dX11_throughBy_19 : decode cX11_throughBy 19 = .ok (.iconst (-1), 1) := by decide +kernel
theorem dX11_throughBy_20 : decode cX11_throughBy 20 = .ok (.ireturn, 1) := by decide +kernel
theorem dX11_throughBy_21 : decode cX11_throughBy 21 = .ok (.iload_n 3, 1) := by decide +kernel
theorem dX11_throughBy_22 : decode cX11_throughBy 22 = .ok (.iload_n 1, 1) := by decide +kernel
theorem dX11_throughBy_23 : decode cX11_throughBy 23 = .ok (.if_icmp .ne 5, 3) := by decide +kernel
theorem dX11_throughBy_26 : decode cX11_throughBy 26 = .ok (.iload_n 1, 1) := by decide +kernel
theorem dX11_throughBy_27 : decode cX11_throughBy 27 = .ok (.ireturn, 1) := by decide +kernel
theorem dX11_throughBy_28 : decode cX11_throughBy 28 = .ok (.iconst (-1), 1) := by decide +kernel
theorem dX11_throughBy_29 : decode cX11_throughBy 29 = .ok (.istore 4, 2) := by decide +kernel
theorem dX11_throughBy_31 : decode cX11_throughBy 31 = .ok (.bipush 7, 2) := by decide +kernel
theorem dX11_throughBy_33 : decode cX11_throughBy 33 = .ok (.istore 5, 2) := by decide +kernel
theorem dX11_throughBy_35 : decode cX11_throughBy 35 = .ok (.iload 5, 2) := by decide +kernel
theorem dX11_throughBy_37 : decode cX11_throughBy 37 = .ok (.ifCond .lt 78, 3) := by decide +kernel
theorem dX11_throughBy_40 : decode cX11_throughBy 40 = .ok (.aload_n 0, 1) := by decide +kernel
theorem dX11_throughBy_41 : decode cX11_throughBy 41 = .ok (.getfield 7, 3) := by decide +kernel
theorem dX11_throughBy_44 : decode cX11_throughBy 44 = .ok (.bipush 8, 2) := by decide +kernel
theorem dX11_throughBy_46 : decode cX11_throughBy 46 = .ok (.iload_n 1, 1) := by decide +kernel
theorem dX11_throughBy_47 : decode cX11_throughBy 47 = .ok (.imul, 1) := by decide +kernel
theorem dX11_throughBy_48 : decode cX11_throughBy 48 = .ok (.iload 5, 2) := by decide +kernel
theorem dX11_throughBy_50 : decode cX11_throughBy 50 = .ok (.iadd, 1) := by decide +kernel
theorem dX11_throughBy_51 : decode cX11_throughBy 51 = .ok (.iaload, 1) := by decide +kernel
theorem dX11_throughBy_52 : decode cX11_throughBy 52 = .ok (.istore 6, 2) := by decide +kernel
theorem dX11_throughBy_54 : decode cX11_throughBy 54 = .ok (.iload 6, 2) := by decide +kernel
theorem dX11_throughBy_56 : decode cX11_throughBy 56 = .ok (.ifCond .le 36, 3) := by decide +kernel
theorem dX11_throughBy_59 : decode cX11_throughBy 59 = .ok (.aload_n 0, 1) := by decide +kernel
theorem dX11_throughBy_60 : decode cX11_throughBy 60 = .ok (.iload 5, 2) := by decide +kernel
theorem dX11_throughBy_62 : decode cX11_throughBy 62 = .ok (.iload_n 3, 1) := by decide +kernel
theorem dX11_throughBy_63 : decode cX11_throughBy 63 = .ok (.invokevirtual 153, 3) := by decide +kernel
theorem dX11_throughBy_66 : decode cX11_throughBy 66 = .ok (.ifCond .lt 26, 3) := by decide +kernel
theorem dX11_throughBy_69 : decode cX11_throughBy 69 = .ok (.iload 6, 2) := by decide +kernel
theorem dX11_throughBy_71 : decode cX11_throughBy 71 = .ok (.aload_n 0, 1) := by decide +kernel
theorem dX11_throughBy_72 : decode cX11_throughBy 72 = .ok (.iload 5, 2) := by decide +kernel
theorem dX11_throughBy_74 : decode cX11_throughBy 74 = .ok (.iload_n 3, 1) := by decide +kernel
theorem dX11_throughBy_75 : decode cX11_throughBy 75 = .ok (.invokevirtual 153, 3) := by decide +kernel
theorem dX11_throughBy_78 : decode cX11_throughBy 78 = .ok (.iadd, 1) := by decide +kernel
theorem dX11_throughBy_79 : decode cX11_throughBy 79 = .ok (.aload_n 0, 1) := by decide +kernel
theorem dX11_throughBy_80 : decode cX11_throughBy 80 = .ok (.iload_n 1, 1) := by decide +kernel
theorem dX11_throughBy_81 : decode cX11_throughBy 81 = .ok (.iload_n 3, 1) := by decide +kernel
theorem dX11_throughBy_82 : decode cX11_throughBy 82 = .ok (.invokevirtual 153, 3) := by decide +kernel
theorem dX11_throughBy_85 : decode cX11_throughBy 85 = .ok (.if_icmp .ne 7, 3) := by decide +kernel
theorem dX11_throughBy_88 : decode cX11_throughBy 88 = .ok (.iconst 1, 1) := by decide +kernel
theorem dX11_throughBy_89 : decode cX11_throughBy 89 = .ok (.goto 4, 3) := by decide +kernel
theorem dX11_throughBy_92 : decode cX11_throughBy 92 = .ok (.iconst 0, 1) := by decide +kernel
theorem dX11_throughBy_93 : decode cX11_throughBy 93 = .ok (.istore 7, 2) := by decide +kernel
theorem dX11_throughBy_95 : decode cX11_throughBy 95 = .ok (.iload 7, 2) := by decide +kernel
theorem dX11_throughBy_97 : decode cX11_throughBy 97 = .ok (.ifCond .eq 8, 3) := by decide +kernel
theorem dX11_throughBy_100 : decode cX11_throughBy 100 = .ok (.iload 5, 2) := by decide +kernel
theorem dX11_throughBy_102 : decode cX11_throughBy 102 = .ok (.goto 5, 3) := by decide +kernel
theorem dX11_throughBy_105 : decode cX11_throughBy 105 = .ok (.iload 4, 2) := by decide +kernel
theorem dX11_throughBy_107 : decode cX11_throughBy 107 = .ok (.istore 4, 2) := by decide +kernel
theorem dX11_throughBy_109 : decode cX11_throughBy 109 = .ok (.iinc 5 (-1), 3) := by decide +kernel
theorem dX11_throughBy_112 : decode cX11_throughBy 112 = .ok (.goto (-77), 3) := by decide +kernel
theorem dX11_throughBy_115 : decode cX11_throughBy 115 = .ok (.iload 4, 2) := by decide +kernel
theorem dX11_throughBy_117 : decode cX11_throughBy 117 = .ok (.ireturn, 1) := by decide +kernel
theorem dX11_through_0 : decode cX11_through 0 = .ok (.iload_n 1, 1) := by decide +kernel
theorem dX11_through_1 : decode cX11_through 1 = .ok (.invokestatic 56, 3) := by decide +kernel
theorem dX11_through_4 : decode cX11_through 4 = .ok (.ifCond .eq 11, 3) := by decide +kernel
theorem dX11_through_7 : decode cX11_through 7 = .ok (.aload_n 0, 1) := by decide +kernel
theorem dX11_through_8 : decode cX11_through 8 = .ok (.iload_n 2, 1) := by decide +kernel
theorem dX11_through_9 : decode cX11_through 9 = .ok (.invokevirtual 160, 3) := by decide +kernel
theorem dX11_through_12 : decode cX11_through 12 = .ok (.ifCond .ne 8, 3) := by decide +kernel
