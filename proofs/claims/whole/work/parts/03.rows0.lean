theorem dX0_init_0 : decode cX0_init 0 = .ok (.aload_n 0, 1) := by decide +kernel
theorem dX0_init_1 : decode cX0_init 1 = .ok (.invokespecial 3, 3) := by decide +kernel
theorem dX0_init_4 : decode cX0_init 4 = .ok (.aload_n 0, 1) := by decide +kernel
theorem dX0_init_5 : decode cX0_init 5 = .ok (.bipush 16, 2) := by decide +kernel
theorem dX0_init_7 : decode cX0_init 7 = .ok (.newarray .int, 2) := by decide +kernel
theorem dX0_init_9 : decode cX0_init 9 = .ok (.putfield 11, 3) := by decide +kernel
theorem dX0_init_12 : decode cX0_init 12 = .ok (.aload_n 0, 1) := by decide +kernel
theorem dX0_init_13 : decode cX0_init 13 = .ok (.iconst 0, 1) := by decide +kernel
theorem dX0_init_14 : decode cX0_init 14 = .ok (.putfield 15, 3) := by decide +kernel
theorem dX0_init_17 : decode cX0_init 17 = .ok (.return_, 1) := by decide +kernel
theorem dX0_begin_0 : decode cX0_begin 0 = .ok (.aload_n 0, 1) := by decide +kernel
theorem dX0_begin_1 : decode cX0_begin 1 = .ok (.iconst 0, 1) := by decide +kernel
theorem dX0_begin_2 : decode cX0_begin 2 = .ok (.putfield 15, 3) := by decide +kernel
theorem dX0_begin_5 : decode cX0_begin 5 = .ok (.aload_n 0, 1) := by decide +kernel
theorem dX0_begin_6 : decode cX0_begin 6 = .ok (.aload_n 1, 1) := by decide +kernel
theorem dX0_begin_7 : decode cX0_begin 7 = .ok (.iload_n 2, 1) := by decide +kernel
theorem dX0_begin_8 : decode cX0_begin 8 = .ok (.iload_n 3, 1) := by decide +kernel
theorem dX0_begin_9 : decode cX0_begin 9 = .ok (.iconst 0, 1) := by decide +kernel
theorem dX0_begin_10 : decode cX0_begin 10 = .ok (.invokevirtual 19, 3) := by decide +kernel
theorem dX0_begin_13 : decode cX0_begin 13 = .ok (.ireturn, 1) := by decide +kernel
theorem dX0_traced_0 : decode cX0_traced 0 = .ok (.iload_n 1, 1) := by decide +kernel
theorem dX0_traced_1 : decode cX0_traced 1 = .ok (.ifCond .lt 20, 3) := by decide +kernel
theorem dX0_traced_4 : decode cX0_traced 4 = .ok (.iload_n 1, 1) := by decide +kernel
theorem dX0_traced_5 : decode cX0_traced 5 = .ok (.aload_n 0, 1) := by decide +kernel
theorem dX0_traced_6 : decode cX0_traced 6 = .ok (.getfield 15, 3) := by decide +kernel
theorem dX0_traced_9 : decode cX0_traced 9 = .ok (.if_icmp .ge 12, 3) := by decide +kernel
theorem dX0_traced_12 : decode cX0_traced 12 = .ok (.aload_n 0, 1) := by decide +kernel
theorem dX0_traced_13 : decode cX0_traced 13 = .ok (.getfield 11, 3) := by decide +kernel
theorem dX0_traced_16 : decode cX0_traced 16 = .ok (.iload_n 1, 1) := by decide +kernel
theorem dX0_traced_17 : decode cX0_traced 17 = .ok (.iaload, 1) := by decide +kernel
theorem dX0_traced_18 : decode cX0_traced 18 = .ok (.goto 5, 3) := by decide +kernel
theorem dX0_traced_21 : decode cX0_traced 21 = .ok (.ldc 23, 2) := by decide +kernel
theorem dX0_traced_23 : decode cX0_traced 23 = .ok (.ireturn, 1) := by decide +kernel
theorem dX0_asked_0 : decode cX0_asked 0 = .ok (.aload_n 0, 1) := by decide +kernel
theorem dX0_asked_1 : decode cX0_asked 1 = .ok (.aload_n 1, 1) := by decide +kernel
theorem dX0_asked_2 : decode cX0_asked 2 = .ok (.iload_n 2, 1) := by decide +kernel
theorem dX0_asked_3 : decode cX0_asked 3 = .ok (.aload_n 0, 1) := by decide +kernel
theorem dX0_asked_4 : decode cX0_asked 4 = .ok (.aload_n 1, 1) := by decide +kernel
theorem dX0_asked_5 : decode cX0_asked 5 = .ok (.getfield 24, 3) := by decide +kernel
theorem dX0_asked_8 : decode cX0_asked 8 = .ok (.iload_n 2, 1) := by decide +kernel
theorem dX0_asked_9 : decode cX0_asked 9 = .ok (.iaload, 1) := by decide +kernel
theorem dX0_asked_10 : decode cX0_asked 10 = .ok (.iload_n 3, 1) := by decide +kernel
theorem dX0_asked_11 : decode cX0_asked 11 = .ok (.invokevirtual 29, 3) := by decide +kernel
theorem dX0_asked_14 : decode cX0_asked 14 = .ok (.iload 4, 2) := by decide +kernel
theorem dX0_asked_16 : decode cX0_asked 16 = .ok (.iconst 1, 1) := by decide +kernel
theorem dX0_asked_17 : decode cX0_asked 17 = .ok (.iadd, 1) := by decide +kernel
theorem dX0_asked_18 : decode cX0_asked 18 = .ok (.invokevirtual 33, 3) := by decide +kernel
theorem dX0_asked_21 : decode cX0_asked 21 = .ok (.ireturn, 1) := by decide +kernel
theorem dX0_bodyFor_0 : decode cX0_bodyFor 0 = .ok (.iload_n 1, 1) := by decide +kernel
theorem dX0_bodyFor_1 : decode cX0_bodyFor 1 = .ok (.istore_n 3, 1) := by decide +kernel
theorem dX0_bodyFor_2 : decode cX0_bodyFor 2 = .ok (.iconst 0, 1) := by decide +kernel
theorem dX0_bodyFor_3 : decode cX0_bodyFor 3 = .ok (.istore 4, 2) := by decide +kernel
theorem dX0_bodyFor_5 : decode cX0_bodyFor 5 = .ok (.iload 4, 2) := by decide +kernel
theorem dX0_bodyFor_7 : decode cX0_bodyFor 7 = .ok (.bipush 6, 2) := by decide +kernel
theorem dX0_bodyFor_9 : decode cX0_bodyFor 9 = .ok (.if_icmp .ge 41, 3) := by decide +kernel
theorem dX0_bodyFor_12 : decode cX0_bodyFor 12 = .ok (.iload_n 2, 1) := by decide +kernel
theorem dX0_bodyFor_13 : decode cX0_bodyFor 13 = .ok (.ifCond .ne 11, 3) := by decide +kernel
theorem dX0_bodyFor_16 : decode cX0_bodyFor 16 = .ok (.getstatic 38, 3) := by decide +kernel
theorem dX0_bodyFor_19 : decode cX0_bodyFor 19 = .ok (.iload_n 3, 1) := by decide +kernel
theorem dX0_bodyFor_20 : decode cX0_bodyFor 20 = .ok (.iaload, 1) := by decide +kernel
theorem dX0_bodyFor_21 : decode cX0_bodyFor 21 = .ok (.goto 8, 3) := by decide +kernel
theorem dX0_bodyFor_24 : decode cX0_bodyFor 24 = .ok (.getstatic 41, 3) := by decide +kernel
theorem dX0_bodyFor_27 : decode cX0_bodyFor 27 = .ok (.iload_n 3, 1) := by decide +kernel
theorem dX0_bodyFor_28 : decode cX0_bodyFor 28 = .ok (.iaload, 1) := by decide +kernel
theorem dX0_bodyFor_29 : decode cX0_bodyFor 29 = .ok (.istore 5, 2) := by decide +kernel
theorem dX0_bodyFor_31 : decode cX0_bodyFor 31 = .ok (.iload 5, 2) := by decide +kernel
theorem dX0_bodyFor_33 : decode cX0_bodyFor 33 = .ok (.ifCond .eq 6, 3) := by decide +kernel
theorem dX0_bodyFor_36 : decode cX0_bodyFor 36 = .ok (.iload 5, 2) := by decide +kernel
theorem dX0_bodyFor_38 : decode cX0_bodyFor 38 = .ok (.ireturn, 1) := by decide +kernel
theorem dX0_bodyFor_39 : decode cX0_bodyFor 39 = .ok (.iload_n 3, 1) := by decide +kernel
theorem dX0_bodyFor_40 : decode cX0_bodyFor 40 = .ok (.invokestatic 44, 3) := by decide +kernel
theorem dX0_bodyFor_43 : decode cX0_bodyFor 43 = .ok (.istore_n 3, 1) := by decide +kernel
theorem dX0_bodyFor_44 : decode cX0_bodyFor 44 = .ok (.iinc 4 1, 3) := by decide +kernel
theorem dX0_bodyFor_47 : decode cX0_bodyFor 47 = .ok (.goto (-42), 3) := by decide +kernel
theorem dX0_bodyFor_50 : decode cX0_bodyFor 50 = .ok (.iconst 0, 1) := by decide +kernel
theorem dX0_bodyFor_51 : decode cX0_bodyFor 51 = .ok (.ireturn, 1) := by decide +kernel
theorem dX0_given_0 : decode cX0_given 0 = .ok (.iload 4, 2) := by decide +kernel
theorem dX0_given_2 : decode cX0_given 2 = .ok (.bipush 40, 2) := by decide +kernel
theorem dX0_given_4 : decode cX0_given 4 = .ok (.if_icmp .le 5, 3) := by decide +kernel
theorem dX0_given_7 : decode cX0_given 7 = .ok (.iconst 0, 1) := by decide +kernel
theorem dX0_given_8 : decode cX0_given 8 = .ok (.ireturn, 1) := by decide +kernel
theorem dX0_given_9 : decode cX0_given 9 = .ok (.aload_n 0, 1) := by decide +kernel
theorem dX0_given_10 : decode cX0_given 10 = .ok (.iload_n 3, 1) := by decide +kernel
theorem dX0_given_11 : decode cX0_given 11 = .ok (.invokevirtual 48, 3) := by decide +kernel
theorem dX0_given_14 : decode cX0_given 14 = .ok (.iload_n 3, 1) := by decide +kernel
theorem dX0_given_15 : decode cX0_given 15 = .ok (.tableswitch 235 10 24 #[73, 87, 110, 124, 140, 235, 235, 235, 235, 235, 155, 157, 180, 197, 220], 73) := by decide +kernel
theorem dX0_given_88 : decode cX0_given 88 = .ok (.aload_n 1, 1) := by decide +kernel
theorem dX0_given_89 : decode cX0_given 89 = .ok (.getfield 52, 3) := by decide +kernel
theorem dX0_given_92 : decode cX0_given 92 = .ok (.iload_n 2, 1) := by decide +kernel
theorem dX0_given_93 : decode cX0_given 93 = .ok (.iaload, 1) := by decide +kernel
theorem dX0_given_94 : decode cX0_given 94 = .ok (.aload_n 1, 1) := by decide +kernel
theorem dX0_given_95 : decode cX0_given 95 = .ok (.getfield 55, 3) := by decide +kernel
theorem dX0_given_98 : decode cX0_given 98 = .ok (.iload_n 2, 1) := by decide +kernel
theorem dX0_given_99 : decode cX0_given 99 = .ok (.iaload, 1) := by decide +kernel
theorem dX0_given_100 : decode cX0_given 100 = .ok (.imul, 1) := by decide +kernel
theorem dX0_given_101 : decode cX0_given 101 = .ok (.ireturn, 1) := by decide +kernel
theorem dX0_given_102 : decode cX0_given 102 = .ok (.aload_n 0, 1) := by decide +kernel
theorem dX0_given_103 : decode cX0_given 103 = .ok (.aload_n 1, 1) := by decide +kernel
theorem dX0_given_104 : decode cX0_given 104 = .ok (.iload_n 2, 1) := by decide +kernel
theorem dX0_given_105 : decode cX0_given 105 = .ok (.bipush 10, 2) := by decide +kernel
theorem dX0_given_107 : decode cX0_given 107 = .ok (.iload 4, 2) := by decide +kernel
theorem dX0_given_109 : decode cX0_given 109 = .ok (.iconst 1, 1) := by decide +kernel
theorem dX0_given_110 : decode cX0_given 110 = .ok (.iadd, 1) := by decide +kernel
theorem dX0_given_111 : decode cX0_given 111 = .ok (.invokevirtual 33, 3) := by decide +kernel
theorem dX0_given_114 : decode cX0_given 114 = .ok (.aload_n 0, 1) := by decide +kernel
theorem dX0_given_115 : decode cX0_given 115 = .ok (.aload_n 1, 1) := by decide +kernel
theorem dX0_given_116 : decode cX0_given 116 = .ok (.iload_n 2, 1) := by decide +kernel
theorem dX0_given_117 : decode cX0_given 117 = .ok (.iconst 1, 1) := by decide +kernel
theorem dX0_given_118 : decode cX0_given 118 = .ok (.iload 4, 2) := by decide +kernel
theorem dX0_given_120 : decode cX0_given 120 = .ok (.invokevirtual 19, 3) := by decide +kernel
theorem dX0_given_123 : decode cX0_given 123 = .ok (.iadd, 1) := by decide +kernel
theorem dX0_given_124 : decode cX0_given 124 = .ok (.ireturn, 1) := by decide +kernel
theorem dX0_given_125 : decode cX0_given 125 = .ok (.aload_n 0, 1) := by decide +kernel
theorem dX0_given_126 : decode cX0_given 126 = .ok (.aload_n 1, 1) := by decide +kernel
theorem dX0_given_127 : decode cX0_given 127 = .ok (.iload_n 2, 1) := by decide +kernel
theorem dX0_given_128 : decode cX0_given 128 = .ok (.bipush 11, 2) := by decide +kernel
theorem dX0_given_130 : decode cX0_given 130 = .ok (.iload 4, 2) := by decide +kernel
theorem dX0_given_132 : decode cX0_given 132 = .ok (.iconst 1, 1) := by decide +kernel
theorem dX0_given_133 : decode cX0_given 133 = .ok (.iadd, 1) := by decide +kernel
theorem dX0_given_134 : decode cX0_given 134 = .ok (.invokevirtual 33, 3) := by decide +kernel
theorem dX0_given_137 : decode cX0_given 137 = .ok (.ineg, 1) := by decide +kernel
theorem dX0_given_138 : decode cX0_given 138 = .ok (.ireturn, 1) := by decide +kernel
theorem dX0_given_139 : decode cX0_given 139 = .ok (.aload_n 0, 1) := by decide +kernel
theorem dX0_given_140 : decode cX0_given 140 = .ok (.aload_n 1, 1) := by decide +kernel
theorem dX0_given_141 : decode cX0_given 141 = .ok (.iload_n 2, 1) := by decide +kernel
theorem dX0_given_142 : decode cX0_given 142 = .ok (.bipush 10, 2) := by decide +kernel
theorem dX0_given_144 : decode cX0_given 144 = .ok (.iload 4, 2) := by decide +kernel
theorem dX0_given_146 : decode cX0_given 146 = .ok (.iconst 1, 1) := by decide +kernel
theorem dX0_given_147 : decode cX0_given 147 = .ok (.iadd, 1) := by decide +kernel
theorem dX0_given_148 : decode cX0_given 148 = .ok (.invokevirtual 33, 3) := by decide +kernel
theorem dX0_given_151 : decode cX0_given 151 = .ok (.bipush 100, 2) := by decide +kernel
theorem dX0_given_153 : decode cX0_given 153 = .ok (.isub, 1) := by decide +kernel
theorem dX0_given_154 : decode cX0_given 154 = .ok (.ireturn, 1) := by decide +kernel
theorem dX0_given_155 : decode cX0_given 155 = .ok (.iconst 2, 1) := by decide +kernel
theorem dX0_given_156 : decode cX0_given 156 = .ok (.aload_n 0, 1) := by decide +kernel
theorem dX0_given_157 : decode cX0_given 157 = .ok (.aload_n 1, 1) := by decide +kernel
theorem dX0_given_158 : decode cX0_given 158 = .ok (.iload_n 2, 1) := by decide +kernel
theorem dX0_given_159 : decode cX0_given 159 = .ok (.bipush 11, 2) := by decide +kernel
theorem dX0_given_161 : decode cX0_given 161 = .ok (.iload 4, 2) := by decide +kernel
theorem dX0_given_163 : decode cX0_given 163 = .ok (.iconst 1, 1) := by decide +kernel
theorem dX0_given_164 : decode cX0_given 164 = .ok (.iadd, 1) := by decide +kernel
theorem dX0_given_165 : decode cX0_given 165 = .ok (.invokevirtual 33, 3) := by decide +kernel
theorem dX0_given_168 : decode cX0_given 168 = .ok (.imul, 1) := by decide +kernel
theorem dX0_given_169 : decode cX0_given 169 = .ok (.ireturn, 1) := by decide +kernel
theorem dX0_given_170 : decode cX0_given 170 = .ok (.iload_n 2, 1) := by decide +kernel
theorem dX0_given_171 : decode cX0_given 171 = .ok (.ireturn, 1) := by decide +kernel
theorem dX0_given_172 : decode cX0_given 172 = .ok (.aload_n 0, 1) := by decide +kernel
theorem dX0_given_173 : decode cX0_given 173 = .ok (.aload_n 1, 1) := by decide +kernel
theorem dX0_given_174 : decode cX0_given 174 = .ok (.iload_n 2, 1) := by decide +kernel
theorem dX0_given_175 : decode cX0_given 175 = .ok (.bipush 20, 2) := by decide +kernel
theorem dX0_given_177 : decode cX0_given 177 = .ok (.iload 4, 2) := by decide +kernel
theorem dX0_given_179 : decode cX0_given 179 = .ok (.iconst 1, 1) := by decide +kernel
theorem dX0_given_180 : decode cX0_given 180 = .ok (.iadd, 1) := by decide +kernel
theorem dX0_given_181 : decode cX0_given 181 = .ok (.invokevirtual 33, 3) := by decide +kernel
theorem dX0_given_184 : decode cX0_given 184 = .ok (.aload_n 1, 1) := by decide +kernel
theorem dX0_given_185 : decode cX0_given 185 = .ok (.aload_n 1, 1) := by decide +kernel
theorem dX0_given_186 : decode cX0_given 186 = .ok (.getfield 58, 3) := by decide +kernel
theorem dX0_given_189 : decode cX0_given 189 = .ok (.iload_n 2, 1) := by decide +kernel
theorem dX0_given_190 : decode cX0_given 190 = .ok (.invokevirtual 61, 3) := by decide +kernel
theorem dX0_given_193 : decode cX0_given 193 = .ok (.iadd, 1) := by decide +kernel
theorem dX0_given_194 : decode cX0_given 194 = .ok (.ireturn, 1) := by decide +kernel
theorem dX0_given_195 : decode cX0_given 195 = .ok (.aload_n 0, 1) := by decide +kernel
theorem dX0_given_196 : decode cX0_given 196 = .ok (.aload_n 1, 1) := by decide +kernel
theorem dX0_given_197 : decode cX0_given 197 = .ok (.iload_n 2, 1) := by decide +kernel
theorem dX0_given_198 : decode cX0_given 198 = .ok (.bipush 21, 2) := by decide +kernel
theorem dX0_given_200 : decode cX0_given 200 = .ok (.iload 4, 2) := by decide +kernel
theorem dX0_given_202 : decode cX0_given 202 = .ok (.iconst 1, 1) := by decide +kernel
theorem dX0_given_203 : decode cX0_given 203 = .ok (.iadd, 1) := by decide +kernel
theorem dX0_given_204 : decode cX0_given 204 = .ok (.invokevirtual 33, 3) := by decide +kernel
theorem dX0_given_207 : decode cX0_given 207 = .ok (.sipush 1000, 3) := by decide +kernel
theorem dX0_given_210 : decode cX0_given 210 = .ok (.isub, 1) := by decide +kernel
theorem dX0_given_211 : decode cX0_given 211 = .ok (.ireturn, 1) := by decide +kernel
theorem dX0_given_212 : decode cX0_given 212 = .ok (.aload_n 0, 1) := by decide +kernel
theorem dX0_given_213 : decode cX0_given 213 = .ok (.aload_n 1, 1) := by decide +kernel
theorem dX0_given_214 : decode cX0_given 214 = .ok (.iload_n 2, 1) := by decide +kernel
theorem dX0_given_215 : decode cX0_given 215 = .ok (.bipush 20, 2) := by decide +kernel
theorem dX0_given_217 : decode cX0_given 217 = .ok (.iload 4, 2) := by decide +kernel
theorem dX0_given_219 : decode cX0_given 219 = .ok (.iconst 1, 1) := by decide +kernel
theorem dX0_given_220 : decode cX0_given 220 = .ok (.iadd, 1) := by decide +kernel
theorem dX0_given_221 : decode cX0_given 221 = .ok (.invokevirtual 33, 3) := by decide +kernel
theorem dX0_given_224 : decode cX0_given 224 = .ok (.aload_n 0, 1) := by decide +kernel
theorem dX0_given_225 : decode cX0_given 225 = .ok (.aload_n 1, 1) := by decide +kernel
theorem dX0_given_226 : decode cX0_given 226 = .ok (.iload_n 2, 1) := by decide +kernel
theorem dX0_given_227 : decode cX0_given 227 = .ok (.iconst 0, 1) := by decide +kernel
theorem dX0_given_228 : decode cX0_given 228 = .ok (.iload 4, 2) := by decide +kernel
theorem dX0_given_230 : decode cX0_given 230 = .ok (.invokevirtual 19, 3) := by decide +kernel
theorem dX0_given_233 : decode cX0_given 233 = .ok (.isub, 1) := by decide +kernel
theorem dX0_given_234 : decode cX0_given 234 = .ok (.ireturn, 1) := by decide +kernel
theorem dX0_given_235 : decode cX0_given 235 = .ok (.iconst 2, 1) := by decide +kernel
theorem dX0_given_236 : decode cX0_given 236 = .ok (.aload_n 0, 1) := by decide +kernel
theorem dX0_given_237 : decode cX0_given 237 = .ok (.aload_n 1, 1) := by decide +kernel
theorem dX0_given_238 : decode cX0_given 238 = .ok (.iload_n 2, 1) := by decide +kernel
theorem dX0_given_239 : decode cX0_given 239 = .ok (.bipush 22, 2) := by decide +kernel
theorem dX0_given_241 : decode cX0_given 241 = .ok (.iload 4, 2) := by decide +kernel
theorem dX0_given_243 : decode cX0_given 243 = .ok (.iconst 1, 1) := by decide +kernel
theorem dX0_given_244 : decode cX0_given 244 = .ok (.iadd, 1) := by decide +kernel
theorem dX0_given_245 : decode cX0_given 245 = .ok (.invokevirtual 33, 3) := by decide +kernel
theorem dX0_given_248 : decode cX0_given 248 = .ok (.imul, 1) := by decide +kernel
theorem dX0_given_249 : decode cX0_given 249 = .ok (.ireturn, 1) := by decide +kernel
theorem dX0_given_250 : decode cX0_given 250 = .ok (.iconst 0, 1) := by decide +kernel
theorem dX0_given_251 : decode cX0_given 251 = .ok (.ireturn, 1) := by decide +kernel
theorem dX0_leaveTrace_0 : decode cX0_leaveTrace 0 = .ok (.aload_n 0, 1) := by decide +kernel
theorem dX0_leaveTrace_1 : decode cX0_leaveTrace 1 = .ok (.getfield 15, 3) := by decide +kernel
theorem dX0_leaveTrace_4 : decode cX0_leaveTrace 4 = .ok (.bipush 16, 2) := by decide +kernel
theorem dX0_leaveTrace_6 : decode cX0_leaveTrace 6 = .ok (.if_icmp .ge 23, 3) := by decide +kernel
theorem dX0_leaveTrace_9 : decode cX0_leaveTrace 9 = .ok (.aload_n 0, 1) := by decide +kernel
theorem dX0_leaveTrace_10 : decode cX0_leaveTrace 10 = .ok (.getfield 11, 3) := by decide +kernel
theorem dX0_leaveTrace_13 : decode cX0_leaveTrace 13 = .ok (.aload_n 0, 1) := by decide +kernel
theorem dX0_leaveTrace_14 : decode cX0_leaveTrace 14 = .ok (.getfield 15, 3) := by decide +kernel
theorem dX0_leaveTrace_17 : decode cX0_leaveTrace 17 = .ok (.iload_n 1, 1) := by decide +kernel
theorem dX0_leaveTrace_18 : decode cX0_leaveTrace 18 = .ok (.iastore, 1) := by decide +kernel
theorem dX0_leaveTrace_19 : decode cX0_leaveTrace 19 = .ok (.aload_n 0, 1) := by decide +kernel
theorem dX0_leaveTrace_20 : decode cX0_leaveTrace 20 = .ok (.dup, 1) := by decide +kernel
theorem dX0_leaveTrace_21 : decode cX0_leaveTrace 21 = .ok (.getfield 15, 3) := by decide +kernel
theorem dX0_leaveTrace_24 : decode cX0_leaveTrace 24 = .ok (.iconst 1, 1) := by decide +kernel
theorem dX0_leaveTrace_25 : decode cX0_leaveTrace 25 = .ok (.iadd, 1) := by decide +kernel
theorem dX0_leaveTrace_26 : decode cX0_leaveTrace 26 = .ok (.putfield 15, 3) := by decide +kernel
theorem dX0_leaveTrace_29 : decode cX0_leaveTrace 29 = .ok (.return_, 1) := by decide +kernel
theorem dX1_init_0 : decode cX1_init 0 = .ok (.aload_n 0, 1) := by decide +kernel
theorem dX1_init_1 : decode cX1_init 1 = .ok (.invokespecial 3, 3) := by decide +kernel
theorem dX1_init_4 : decode cX1_init 4 = .ok (.aload_n 0, 1) := by decide +kernel
theorem dX1_init_5 : decode cX1_init 5 = .ok (.iconst 0, 1) := by decide +kernel
theorem dX1_init_6 : decode cX1_init 6 = .ok (.putfield 9, 3) := by decide +kernel
theorem dX1_init_9 : decode cX1_init 9 = .ok (.aload_n 0, 1) := by decide +kernel
theorem dX1_init_10 : decode cX1_init 10 = .ok (.iconst 0, 1) := by decide +kernel
theorem dX1_init_11 : decode cX1_init 11 = .ok (.putfield 15, 3) := by decide +kernel
theorem dX1_init_14 : decode cX1_init 14 = .ok (.aload_n 0, 1) := by decide +kernel
theorem dX1_init_15 : decode cX1_init 15 = .ok (.iconst 0, 1) := by decide +kernel
theorem dX1_init_16 : decode cX1_init 16 = .ok (.putfield 18, 3) := by decide +kernel
theorem dX1_init_19 : decode cX1_init 19 = .ok (.aload_n 0, 1) := by decide +kernel
theorem dX1_init_20 : decode cX1_init 20 = .ok (.iconst 0, 1) := by decide +kernel
theorem dX1_init_21 : decode cX1_init 21 = .ok (.putfield 21, 3) := by decide +kernel
theorem dX1_init_24 : decode cX1_init 24 = .ok (.aload_n 0, 1) := by decide +kernel
theorem dX1_init_25 : decode cX1_init 25 = .ok (.bipush 8, 2) := by decide +kernel
theorem dX1_init_27 : decode cX1_init 27 = .ok (.newarray .int, 2) := by decide +kernel
theorem dX1_init_29 : decode cX1_init 29 = .ok (.putfield 24, 3) := by decide +kernel
theorem dX1_init_32 : decode cX1_init 32 = .ok (.aload_n 0, 1) := by decide +kernel
theorem dX1_init_33 : decode cX1_init 33 = .ok (.bipush 8, 2) := by decide +kernel
theorem dX1_init_35 : decode cX1_init 35 = .ok (.newarray .int, 2) := by decide +kernel
theorem dX1_init_37 : decode cX1_init 37 = .ok (.putfield 28, 3) := by decide +kernel
theorem dX1_init_40 : decode cX1_init 40 = .ok (.aload_n 0, 1) := by decide +kernel
theorem dX1_init_41 : decode cX1_init 41 = .ok (.bipush 6, 2) := by decide +kernel
theorem dX1_init_43 : decode cX1_init 43 = .ok (.newarray .int, 2) := by decide +kernel
theorem dX1_init_45 : decode cX1_init 45 = .ok (.putfield 31, 3) := by decide +kernel
theorem dX1_init_48 : decode cX1_init 48 = .ok (.aload_n 0, 1) := by decide +kernel
theorem dX1_init_49 : decode cX1_init 49 = .ok (.bipush 6, 2) := by decide +kernel
theorem dX1_init_51 : decode cX1_init 51 = .ok (.newarray .int, 2) := by decide +kernel
theorem dX1_init_53 : decode cX1_init 53 = .ok (.putfield 34, 3) := by decide +kernel
theorem dX1_init_56 : decode cX1_init 56 = .ok (.aload_n 0, 1) := by decide +kernel
theorem dX1_init_57 : decode cX1_init 57 = .ok (.bipush 6, 2) := by decide +kernel
theorem dX1_init_59 : decode cX1_init 59 = .ok (.newarray .int, 2) := by decide +kernel
theorem dX1_init_61 : decode cX1_init 61 = .ok (.putfield 37, 3) := by decide +kernel
theorem dX1_init_64 : decode cX1_init 64 = .ok (.aload_n 0, 1) := by decide +kernel
theorem dX1_init_65 : decode cX1_init 65 = .ok (.bipush 6, 2) := by decide +kernel
theorem dX1_init_67 : decode cX1_init 67 = .ok (.newarray .int, 2) := by decide +kernel
theorem dX1_init_69 : decode cX1_init 69 = .ok (.putfield 40, 3) := by decide +kernel
theorem dX1_init_72 : decode cX1_init 72 = .ok (.aload_n 0, 1) := by decide +kernel
theorem dX1_init_73 : decode cX1_init 73 = .ok (.bipush 6, 2) := by decide +kernel
theorem dX1_init_75 : decode cX1_init 75 = .ok (.newarray .int, 2) := by decide +kernel
theorem dX1_init_77 : decode cX1_init 77 = .ok (.putfield 43, 3) := by decide +kernel
theorem dX1_init_80 : decode cX1_init 80 = .ok (.return_, 1) := by decide +kernel
theorem dX1_isThere_0 : decode cX1_isThere 0 = .ok (.aload_n 0, 1) := by decide +kernel
theorem dX1_isThere_1 : decode cX1_isThere 1 = .ok (.getfield 18, 3) := by decide +kernel
theorem dX1_isThere_4 : decode cX1_isThere 4 = .ok (.ifCond .le 7, 3) := by decide +kernel
theorem dX1_isThere_7 : decode cX1_isThere 7 = .ok (.iconst 1, 1) := by decide +kernel
theorem dX1_isThere_8 : decode cX1_isThere 8 = .ok (.goto 4, 3) := by decide +kernel
theorem dX1_isThere_11 : decode cX1_isThere 11 = .ok (.iconst 0, 1) := by decide +kernel
theorem dX1_isThere_12 : decode cX1_isThere 12 = .ok (.ireturn, 1) := by decide +kernel
theorem dX1_isHouse_0 : decode cX1_isHouse 0 = .ok (.iload_n 1, 1) := by decide +kernel
theorem dX1_isHouse_1 : decode cX1_isHouse 1 = .ok (.ifCond .lt 15, 3) := by decide +kernel
theorem dX1_isHouse_4 : decode cX1_isHouse 4 = .ok (.iload_n 1, 1) := by decide +kernel
theorem dX1_isHouse_5 : decode cX1_isHouse 5 = .ok (.aload_n 0, 1) := by decide +kernel
theorem dX1_isHouse_6 : decode cX1_isHouse 6 = .ok (.getfield 18, 3) := by decide +kernel
theorem dX1_isHouse_9 : decode cX1_isHouse 9 = .ok (.if_icmp .ge 7, 3) := by decide +kernel
theorem dX1_isHouse_12 : decode cX1_isHouse 12 = .ok (.iconst 1, 1) := by decide +kernel
theorem dX1_isHouse_13 : decode cX1_isHouse 13 = .ok (.goto 4, 3) := by decide +kernel
theorem dX1_isHouse_16 : decode cX1_isHouse 16 = .ok (.iconst 0, 1) := by decide +kernel
theorem dX1_isHouse_17 : decode cX1_isHouse 17 = .ok (.ireturn, 1) := by decide +kernel
theorem dX1_clear_0 : decode cX1_clear 0 = .ok (.aload_n 0, 1) := by decide +kernel
theorem dX1_clear_1 : decode cX1_clear 1 = .ok (.iconst 0, 1) := by decide +kernel
theorem dX1_clear_2 : decode cX1_clear 2 = .ok (.putfield 9, 3) := by decide +kernel
theorem dX1_clear_5 : decode cX1_clear 5 = .ok (.aload_n 0, 1) := by decide +kernel
theorem dX1_clear_6 : decode cX1_clear 6 = .ok (.iconst 0, 1) := by decide +kernel
theorem dX1_clear_7 : decode cX1_clear 7 = .ok (.putfield 15, 3) := by decide +kernel
theorem dX1_clear_10 : decode cX1_clear 10 = .ok (.aload_n 0, 1) := by decide +kernel
theorem dX1_clear_11 : decode cX1_clear 11 = .ok (.iconst 0, 1) := by decide +kernel
theorem dX1_clear_12 : decode cX1_clear 12 = .ok (.putfield 18, 3) := by decide +kernel
theorem dX1_clear_15 : decode cX1_clear 15 = .ok (.aload_n 0, 1) := by decide +kernel
theorem dX1_clear_16 : decode cX1_clear 16 = .ok (.iconst 0, 1) := by decide +kernel
theorem dX1_clear_17 : decode cX1_clear 17 = .ok (.putfield 21, 3) := by decide +kernel
theorem dX1_clear_20 : decode cX1_clear 20 = .ok (.iconst 0, 1) := by decide +kernel
theorem dX1_clear_21 : decode cX1_clear 21 = .ok (.istore_n 1, 1) := by decide +kernel
theorem dX1_clear_22 : decode cX1_clear 22 = .ok (.iload_n 1, 1) := by decide +kernel
theorem dX1_clear_23 : decode cX1_clear 23 = .ok (.bipush 8, 2) := by decide +kernel
theorem dX1_clear_25 : decode cX1_clear 25 = .ok (.if_icmp .ge 23, 3) := by decide +kernel
theorem dX1_clear_28 : decode cX1_clear 28 = .ok (.aload_n 0, 1) := by decide +kernel
theorem dX1_clear_29 : decode cX1_clear 29 = .ok (.getfield 24, 3) := by decide +kernel
theorem dX1_clear_32 : decode cX1_clear 32 = .ok (.iload_n 1, 1) := by decide +kernel
theorem dX1_clear_33 : decode cX1_clear 33 = .ok (.iconst 0, 1) := by decide +kernel
theorem dX1_clear_34 : decode cX1_clear 34 = .ok (.iastore, 1) := by decide +kernel
theorem dX1_clear_35 : decode cX1_clear 35 = .ok (.aload_n 0, 1) := by decide +kernel
theorem dX1_clear_36 : decode cX1_clear 36 = .ok (.getfield 28, 3) := by decide +kernel
theorem dX1_clear_39 : decode cX1_clear 39 = .ok (.iload_n 1, 1) := by decide +kernel
theorem dX1_clear_40 : decode cX1_clear 40 = .ok (.iconst 0, 1) := by decide +kernel
theorem dX1_clear_41 : decode cX1_clear 41 = .ok (.iastore, 1) := by decide +kernel
theorem dX1_clear_42 : decode cX1_clear 42 = .ok (.iinc 1 1, 3) := by decide +kernel
theorem dX1_clear_45 : decode cX1_clear 45 = .ok (.goto (-23), 3) := by decide +kernel
theorem dX1_clear_48 : decode cX1_clear 48 = .ok (.return_, 1) := by decide +kernel
theorem dX1_become_0 : decode cX1_become 0 = .ok (.aload_n 0, 1) := by decide +kernel
theorem dX1_become_1 : decode cX1_become 1 = .ok (.aload_n 1, 1) := by decide +kernel
theorem dX1_become_2 : decode cX1_become 2 = .ok (.getfield 9, 3) := by decide +kernel
theorem dX1_become_5 : decode cX1_become 5 = .ok (.putfield 9, 3) := by decide +kernel
theorem dX1_become_8 : decode cX1_become 8 = .ok (.aload_n 0, 1) := by decide +kernel
theorem dX1_become_9 : decode cX1_become 9 = .ok (.aload_n 1, 1) := by decide +kernel
theorem dX1_become_10 : decode cX1_become 10 = .ok (.getfield 15, 3) := by decide +kernel
theorem dX1_become_13 : decode cX1_become 13 = .ok (.putfield 15, 3) := by decide +kernel
theorem dX1_become_16 : decode cX1_become 16 = .ok (.aload_n 0, 1) := by decide +kernel
theorem dX1_become_17 : decode cX1_become 17 = .ok (.aload_n 1, 1) := by decide +kernel
theorem dX1_become_18 : decode cX1_become 18 = .ok (.getfield 18, 3) := by decide +kernel
theorem dX1_become_21 : decode cX1_become 21 = .ok (.putfield 18, 3) := by decide +kernel
theorem dX1_become_24 : decode cX1_become 24 = .ok (.aload_n 0, 1) := by decide +kernel
theorem dX1_become_25 : decode cX1_become 25 = .ok (.aload_n 1, 1) := by decide +kernel
theorem dX1_become_26 : decode cX1_become 26 = .ok (.getfield 21, 3) := by decide +kernel
theorem dX1_become_29 : decode cX1_become 29 = .ok (.putfield 21, 3) := by decide +kernel
theorem dX1_become_32 : decode cX1_become 32 = .ok (.aload_n 1, 1) := by decide +kernel
theorem dX1_become_33 : decode cX1_become 33 = .ok (.getfield 24, 3) := by decide +kernel
theorem dX1_become_36 : decode cX1_become 36 = .ok (.iconst 0, 1) := by decide +kernel
theorem dX1_become_37 : decode cX1_become 37 = .ok (.aload_n 0, 1) := by decide +kernel
theorem dX1_become_38 : decode cX1_become 38 = .ok (.getfield 24, 3) := by decide +kernel
theorem dX1_become_41 : decode cX1_become 41 = .ok (.iconst 0, 1) := by decide +kernel
theorem dX1_become_42 : decode cX1_become 42 = .ok (.bipush 8, 2) := by decide +kernel
theorem dX1_become_44 : decode cX1_become 44 = .ok (.invokestatic 46, 3) := by decide +kernel
theorem dX1_become_47 : decode cX1_become 47 = .ok (.aload_n 1, 1) := by decide +kernel
theorem dX1_become_48 : decode cX1_become 48 = .ok (.getfield 28, 3) := by decide +kernel
theorem dX1_become_51 : decode cX1_become 51 = .ok (.iconst 0, 1) := by decide +kernel
theorem dX1_become_52 : decode cX1_become 52 = .ok (.aload_n 0, 1) := by decide +kernel
theorem dX1_become_53 : decode cX1_become 53 = .ok (.getfield 28, 3) := by decide +kernel
theorem dX1_become_56 : decode cX1_become 56 = .ok (.iconst 0, 1) := by decide +kernel
theorem dX1_become_57 : decode cX1_become 57 = .ok (.bipush 8, 2) := by decide +kernel
theorem dX1_become_59 : decode cX1_become 59 = .ok (.invokestatic 46, 3) := by decide +kernel
theorem dX1_become_62 : decode cX1_become 62 = .ok (.aload_n 1, 1) := by decide +kernel
theorem dX1_become_63 : decode cX1_become 63 = .ok (.getfield 31, 3) := by decide +kernel
theorem dX1_become_66 : decode cX1_become 66 = .ok (.iconst 0, 1) := by decide +kernel
theorem dX1_become_67 : decode cX1_become 67 = .ok (.aload_n 0, 1) := by decide +kernel
theorem dX1_become_68 : decode cX1_become 68 = .ok (.getfield 31, 3) := by decide +kernel
theorem dX1_become_71 : decode cX1_become 71 = .ok (.iconst 0, 1) := by decide +kernel
theorem dX1_become_72 : decode cX1_become 72 = .ok (.bipush 6, 2) := by decide +kernel
theorem dX1_become_74 : decode cX1_become 74 = .ok (.invokestatic 46, 3) := by decide +kernel
theorem dX1_become_77 : decode cX1_become 77 = .ok (.aload_n 1, 1) := by decide +kernel
theorem dX1_become_78 : decode cX1_become 78 = .ok (.getfield 34, 3) := by decide +kernel
theorem dX1_become_81 : decode cX1_become 81 = .ok (.iconst 0, 1) := by decide +kernel
theorem dX1_become_82 : decode cX1_become 82 = .ok (.aload_n 0, 1) := by decide +kernel
theorem dX1_become_83 : decode cX1_become 83 = .ok (.getfield 34, 3) := by decide +kernel
theorem dX1_become_86 : decode cX1_become 86 = .ok (.iconst 0, 1) := by decide +kernel
theorem dX1_become_87 : decode cX1_become 87 = .ok (.bipush 6, 2) := by decide +kernel
theorem dX1_become_89 : decode cX1_become 89 = .ok (.invokestatic 46, 3) := by decide +kernel
theorem dX1_become_92 : decode cX1_become 92 = .ok (.aload_n 1, 1) := by decide +kernel
theorem dX1_become_93 : decode cX1_become 93 = .ok (.getfield 37, 3) := by decide +kernel
theorem dX1_become_96 : decode cX1_become 96 = .ok (.iconst 0, 1) := by decide +kernel
theorem dX1_become_97 : decode cX1_become 97 = .ok (.aload_n 0, 1) := by decide +kernel
theorem dX1_become_98 : decode cX1_become 98 = .ok (.getfield 37, 3) := by decide +kernel
theorem dX1_become_101 : decode cX1_become 101 = .ok (.iconst 0, 1) := by decide +kernel
theorem dX1_become_102 : decode cX1_become 102 = .ok (.bipush 6, 2) := by decide +kernel
theorem dX1_become_104 : decode cX1_become 104 = .ok (.invokestatic 46, 3) := by decide +kernel
theorem dX1_become_107 : decode cX1_become 107 = .ok (.aload_n 1, 1) := by decide +kernel
theorem dX1_become_108 : decode cX1_become 108 = .ok (.getfield 40, 3) := by decide +kernel
theorem dX1_become_111 : decode cX1_become 111 = .ok (.iconst 0, 1) := by decide +kernel
theorem dX1_become_112 : decode cX1_become 112 = .ok (.aload_n 0, 1) := by decide +kernel
theorem dX1_become_113 : decode cX1_become 113 = .ok (.getfield 40, 3) := by decide +kernel
theorem dX1_become_116 : decode cX1_become 116 = .ok (.iconst 0, 1) := by decide +kernel
theorem dX1_become_117 : decode cX1_become 117 = .ok (.bipush 6, 2) := by decide +kernel
theorem dX1_become_119 : decode cX1_become 119 = .ok (.invokestatic 46, 3) := by decide +kernel
theorem dX1_become_122 : decode cX1_become 122 = .ok (.aload_n 1, 1) := by decide +kernel
theorem dX1_become_123 : decode cX1_become 123 = .ok (.getfield 43, 3) := by decide +kernel
theorem dX1_become_126 : decode cX1_become 126 = .ok (.iconst 0, 1) := by decide +kernel
theorem dX1_become_127 : decode cX1_become 127 = .ok (.aload_n 0, 1) := by decide +kernel
theorem dX1_become_128 : decode cX1_become 128 = .ok (.getfield 43, 3) := by decide +kernel
theorem dX1_become_131 : decode cX1_become 131 = .ok (.iconst 0, 1) := by decide +kernel
theorem dX1_become_132 : decode cX1_become 132 = .ok (.bipush 6, 2) := by decide +kernel
theorem dX1_become_134 : decode cX1_become 134 = .ok (.invokestatic 46, 3) := by decide +kernel
theorem dX1_become_137 : decode cX1_become 137 = .ok (.return_, 1) := by decide +kernel
theorem dX1_addHouse_0 : decode cX1_addHouse 0 = .ok (.aload_n 0, 1) := by decide +kernel
theorem dX1_addHouse_1 : decode cX1_addHouse 1 = .ok (.getfield 31, 3) := by decide +kernel
theorem dX1_addHouse_4 : decode cX1_addHouse 4 = .ok (.aload_n 0, 1) := by decide +kernel
theorem dX1_addHouse_5 : decode cX1_addHouse 5 = .ok (.getfield 18, 3) := by decide +kernel
theorem dX1_addHouse_8 : decode cX1_addHouse 8 = .ok (.iload_n 1, 1) := by decide +kernel
theorem dX1_addHouse_9 : decode cX1_addHouse 9 = .ok (.iastore, 1) := by decide +kernel
theorem dX1_addHouse_10 : decode cX1_addHouse 10 = .ok (.aload_n 0, 1) := by decide +kernel
theorem dX1_addHouse_11 : decode cX1_addHouse 11 = .ok (.getfield 34, 3) := by decide +kernel
theorem dX1_addHouse_14 : decode cX1_addHouse 14 = .ok (.aload_n 0, 1) := by decide +kernel
theorem dX1_addHouse_15 : decode cX1_addHouse 15 = .ok (.getfield 18, 3) := by decide +kernel
theorem dX1_addHouse_18 : decode cX1_addHouse 18 = .ok (.iload_n 3, 1) := by decide +kernel
theorem dX1_addHouse_19 : decode cX1_addHouse 19 = .ok (.iastore, 1) := by decide +kernel
theorem dX1_addHouse_20 : decode cX1_addHouse 20 = .ok (.aload_n 0, 1) := by decide +kernel
theorem dX1_addHouse_21 : decode cX1_addHouse 21 = .ok (.getfield 37, 3) := by decide +kernel
theorem dX1_addHouse_24 : decode cX1_addHouse 24 = .ok (.aload_n 0, 1) := by decide +kernel
theorem dX1_addHouse_25 : decode cX1_addHouse 25 = .ok (.getfield 18, 3) := by decide +kernel
theorem dX1_addHouse_28 : decode cX1_addHouse 28 = .ok (.iload 4, 2) := by decide +kernel
theorem dX1_addHouse_30 : decode cX1_addHouse 30 = .ok (.iastore, 1) := by decide +kernel
theorem dX1_addHouse_31 : decode cX1_addHouse 31 = .ok (.aload_n 0, 1) := by decide +kernel
theorem dX1_addHouse_32 : decode cX1_addHouse 32 = .ok (.getfield 40, 3) := by decide +kernel
theorem dX1_addHouse_35 : decode cX1_addHouse 35 = .ok (.aload_n 0, 1) := by decide +kernel
theorem dX1_addHouse_36 : decode cX1_addHouse 36 = .ok (.getfield 18, 3) := by decide +kernel
theorem dX1_addHouse_39 : decode cX1_addHouse 39 = .ok (.iload 5, 2) := by decide +kernel
theorem dX1_addHouse_41 : decode cX1_addHouse 41 = .ok (.iastore, 1) := by decide +kernel
theorem dX1_addHouse_42 : decode cX1_addHouse 42 = .ok (.aload_n 0, 1) := by decide +kernel
theorem dX1_addHouse_43 : decode cX1_addHouse 43 = .ok (.getfield 43, 3) := by decide +kernel
theorem dX1_addHouse_46 : decode cX1_addHouse 46 = .ok (.aload_n 0, 1) := by decide +kernel
theorem dX1_addHouse_47 : decode cX1_addHouse 47 = .ok (.getfield 18, 3) := by decide +kernel
theorem dX1_addHouse_50 : decode cX1_addHouse 50 = .ok (.iconst 0, 1) := by decide +kernel
theorem dX1_addHouse_51 : decode cX1_addHouse 51 = .ok (.iastore, 1) := by decide +kernel
theorem dX1_addHouse_52 : decode cX1_addHouse 52 = .ok (.aload_n 0, 1) := by decide +kernel
theorem dX1_addHouse_53 : decode cX1_addHouse 53 = .ok (.dup, 1) := by decide +kernel
theorem dX1_addHouse_54 : decode cX1_addHouse 54 = .ok (.getfield 21, 3) := by decide +kernel
theorem dX1_addHouse_57 : decode cX1_addHouse 57 = .ok (.iload_n 2, 1) := by decide +kernel
theorem dX1_addHouse_58 : decode cX1_addHouse 58 = .ok (.iconst 4, 1) := by decide +kernel
theorem dX1_addHouse_59 : decode cX1_addHouse 59 = .ok (.aload_n 0, 1) := by decide +kernel
theorem dX1_addHouse_60 : decode cX1_addHouse 60 = .ok (.getfield 18, 3) := by decide +kernel
theorem dX1_addHouse_63 : decode cX1_addHouse 63 = .ok (.imul, 1) := by decide +kernel
theorem dX1_addHouse_64 : decode cX1_addHouse 64 = .ok (.ishl, 1) := by decide +kernel
theorem dX1_addHouse_65 : decode cX1_addHouse 65 = .ok (.ior, 1) := by decide +kernel
theorem dX1_addHouse_66 : decode cX1_addHouse 66 = .ok (.putfield 21, 3) := by decide +kernel
theorem dX1_addHouse_69 : decode cX1_addHouse 69 = .ok (.aload_n 0, 1) := by decide +kernel
theorem dX1_addHouse_70 : decode cX1_addHouse 70 = .ok (.dup, 1) := by decide +kernel
theorem dX1_addHouse_71 : decode cX1_addHouse 71 = .ok (.getfield 18, 3) := by decide +kernel
theorem dX1_addHouse_74 : decode cX1_addHouse 74 = .ok (.iconst 1, 1) := by decide +kernel
theorem dX1_addHouse_75 : decode cX1_addHouse 75 = .ok (.iadd, 1) := by decide +kernel
theorem dX1_addHouse_76 : decode cX1_addHouse 76 = .ok (.putfield 18, 3) := by decide +kernel
theorem dX1_addHouse_79 : decode cX1_addHouse 79 = .ok (.return_, 1) := by decide +kernel
theorem dX1_hasRoomFor_0 : decode cX1_hasRoomFor 0 = .ok (.iload_n 1, 1) := by decide +kernel
theorem dX1_hasRoomFor_1 : decode cX1_hasRoomFor 1 = .ok (.iload_n 3, 1) := by decide +kernel
theorem dX1_hasRoomFor_2 : decode cX1_hasRoomFor 2 = .ok (.iadd, 1) := by decide +kernel
theorem dX1_hasRoomFor_3 : decode cX1_hasRoomFor 3 = .ok (.bipush 16, 2) := by decide +kernel
theorem dX1_hasRoomFor_5 : decode cX1_hasRoomFor 5 = .ok (.if_icmp .gt 12, 3) := by decide +kernel
theorem dX1_hasRoomFor_8 : decode cX1_hasRoomFor 8 = .ok (.iload_n 2, 1) := by decide +kernel
theorem dX1_hasRoomFor_9 : decode cX1_hasRoomFor 9 = .ok (.iload 4, 2) := by decide +kernel
theorem dX1_hasRoomFor_11 : decode cX1_hasRoomFor 11 = .ok (.iadd, 1) := by decide +kernel
theorem dX1_hasRoomFor_12 : decode cX1_hasRoomFor 12 = .ok (.bipush 8, 2) := by decide +kernel
theorem dX1_hasRoomFor_14 : decode cX1_hasRoomFor 14 = .ok (.if_icmp .le 5, 3) := by decide +kernel
theorem dX1_hasRoomFor_17 : decode cX1_hasRoomFor 17 = .ok (.iconst 0, 1) := by decide +kernel
theorem dX1_hasRoomFor_18 : decode cX1_hasRoomFor 18 = .ok (.ireturn, 1) := by decide +kernel
theorem dX1_hasRoomFor_19 : decode cX1_hasRoomFor 19 = .ok (.iload_n 2, 1) := by decide +kernel
theorem dX1_hasRoomFor_20 : decode cX1_hasRoomFor 20 = .ok (.istore 5, 2) := by decide +kernel
theorem dX1_hasRoomFor_22 : decode cX1_hasRoomFor 22 = .ok (.iload 5, 2) := by decide +kernel
theorem dX1_hasRoomFor_24 : decode cX1_hasRoomFor 24 = .ok (.iload_n 2, 1) := by decide +kernel
theorem dX1_hasRoomFor_25 : decode cX1_hasRoomFor 25 = .ok (.iload 4, 2) := by decide +kernel
theorem dX1_hasRoomFor_27 : decode cX1_hasRoomFor 27 = .ok (.iadd, 1) := by decide +kernel
theorem dX1_hasRoomFor_28 : decode cX1_hasRoomFor 28 = .ok (.if_icmp .ge 50, 3) := by decide +kernel
theorem dX1_hasRoomFor_31 : decode cX1_hasRoomFor 31 = .ok (.iload_n 1, 1) := by decide +kernel
theorem dX1_hasRoomFor_32 : decode cX1_hasRoomFor 32 = .ok (.istore 6, 2) := by decide +kernel
theorem dX1_hasRoomFor_34 : decode cX1_hasRoomFor 34 = .ok (.iload 6, 2) := by decide +kernel
theorem dX1_hasRoomFor_36 : decode cX1_hasRoomFor 36 = .ok (.iload_n 1, 1) := by decide +kernel
theorem dX1_hasRoomFor_37 : decode cX1_hasRoomFor 37 = .ok (.iload_n 3, 1) := by decide +kernel
theorem dX1_hasRoomFor_38 : decode cX1_hasRoomFor 38 = .ok (.iadd, 1) := by decide +kernel
theorem dX1_hasRoomFor_39 : decode cX1_hasRoomFor 39 = .ok (.if_icmp .ge 33, 3) := by decide +kernel
theorem dX1_hasRoomFor_42 : decode cX1_hasRoomFor 42 = .ok (.aload_n 0, 1) := by decide +kernel
theorem dX1_hasRoomFor_43 : decode cX1_hasRoomFor 43 = .ok (.iload 6, 2) := by decide +kernel
theorem dX1_hasRoomFor_45 : decode cX1_hasRoomFor 45 = .ok (.iload 5, 2) := by decide +kernel
theorem dX1_hasRoomFor_47 : decode cX1_hasRoomFor 47 = .ok (.invokevirtual 52, 3) := by decide +kernel
theorem dX1_hasRoomFor_50 : decode cX1_hasRoomFor 50 = .ok (.ifCond .ne 14, 3) := by decide +kernel
theorem dX1_hasRoomFor_53 : decode cX1_hasRoomFor 53 = .ok (.aload_n 0, 1) := by decide +kernel
theorem dX1_hasRoomFor_54 : decode cX1_hasRoomFor 54 = .ok (.iload 6, 2) := by decide +kernel
theorem dX1_hasRoomFor_56 : decode cX1_hasRoomFor 56 = .ok (.iload 5, 2) := by decide +kernel
theorem dX1_hasRoomFor_58 : decode cX1_hasRoomFor 58 = .ok (.invokevirtual 56, 3) := by decide +kernel
theorem dX1_hasRoomFor_61 : decode cX1_hasRoomFor 61 = .ok (.ifCond .lt 5, 3) := by decide +kernel
theorem dX1_hasRoomFor_64 : decode cX1_hasRoomFor 64 = .ok (.iconst 0, 1) := by decide +kernel
theorem dX1_hasRoomFor_65 : decode cX1_hasRoomFor 65 = .ok (.ireturn, 1) := by decide +kernel
theorem dX1_hasRoomFor_66 : decode cX1_hasRoomFor 66 = .ok (.iinc 6 1, 3) := by decide +kernel
theorem dX1_hasRoomFor_69 : decode cX1_hasRoomFor 69 = .ok (.goto (-35), 3) := by decide +kernel
theorem dX1_hasRoomFor_72 : decode cX1_hasRoomFor 72 = .ok (.iinc 5 1, 3) := by decide +kernel
theorem dX1_hasRoomFor_75 : decode cX1_hasRoomFor 75 = .ok (.goto (-53), 3) := by decide +kernel
theorem dX1_hasRoomFor_78 : decode cX1_hasRoomFor 78 = .ok (.iconst 1, 1) := by decide +kernel
theorem dX1_hasRoomFor_79 : decode cX1_hasRoomFor 79 = .ok (.ireturn, 1) := by decide +kernel
theorem dX1_isLie_0 : decode cX1_isLie 0 = .ok (.aload_n 0, 1) := by decide +kernel
theorem dX1_isLie_1 : decode cX1_isLie 1 = .ok (.getfield 9, 3) := by decide +kernel
theorem dX1_isLie_4 : decode cX1_isLie 4 = .ok (.iload_n 1, 1) := by decide +kernel
theorem dX1_isLie_5 : decode cX1_isLie 5 = .ok (.iconst 2, 1) := by decide +kernel
theorem dX1_isLie_6 : decode cX1_isLie 6 = .ok (.idiv, 1) := by decide +kernel
theorem dX1_isLie_7 : decode cX1_isLie 7 = .ok (.ishr, 1) := by decide +kernel
theorem dX1_isLie_8 : decode cX1_isLie 8 = .ok (.iconst 1, 1) := by decide +kernel
theorem dX1_isLie_9 : decode cX1_isLie 9 = .ok (.iand, 1) := by decide +kernel
theorem dX1_isLie_10 : decode cX1_isLie 10 = .ok (.iload_n 1, 1) := by decide +kernel
theorem dX1_isLie_11 : decode cX1_isLie 11 = .ok (.iconst 2, 1) := by decide +kernel
theorem dX1_isLie_12 : decode cX1_isLie 12 = .ok (.irem, 1) := by decide +kernel
theorem dX1_isLie_13 : decode cX1_isLie 13 = .ok (.if_icmp .eq 7, 3) := by decide +kernel
theorem dX1_isLie_16 : decode cX1_isLie 16 = .ok (.iconst 1, 1) := by decide +kernel
theorem dX1_isLie_17 : decode cX1_isLie 17 = .ok (.goto 4, 3) := by decide +kernel
theorem dX1_isLie_20 : decode cX1_isLie 20 = .ok (.iconst 0, 1) := by decide +kernel
theorem dX1_isLie_21 : decode cX1_isLie 21 = .ok (.ireturn, 1) := by decide +kernel
theorem dX1_xOf_0 : decode cX1_xOf 0 = .ok (.iload_n 1, 1) := by decide +kernel
theorem dX1_xOf_1 : decode cX1_xOf 1 = .ok (.iconst 4, 1) := by decide +kernel
theorem dX1_xOf_2 : decode cX1_xOf 2 = .ok (.iload_n 2, 1) := by decide +kernel
theorem dX1_xOf_3 : decode cX1_xOf 3 = .ok (.imul, 1) := by decide +kernel
theorem dX1_xOf_4 : decode cX1_xOf 4 = .ok (.ishr, 1) := by decide +kernel
theorem dX1_xOf_5 : decode cX1_xOf 5 = .ok (.bipush 15, 2) := by decide +kernel
theorem dX1_xOf_7 : decode cX1_xOf 7 = .ok (.iand, 1) := by decide +kernel
theorem dX1_xOf_8 : decode cX1_xOf 8 = .ok (.ireturn, 1) := by decide +kernel
theorem dX1_eastOf_0 : decode cX1_eastOf 0 = .ok (.aload_n 0, 1) := by decide +kernel
theorem dX1_eastOf_1 : decode cX1_eastOf 1 = .ok (.iload_n 1, 1) := by decide +kernel
theorem dX1_eastOf_2 : decode cX1_eastOf 2 = .ok (.iload_n 2, 1) := by decide +kernel
theorem dX1_eastOf_3 : decode cX1_eastOf 3 = .ok (.invokevirtual 60, 3) := by decide +kernel
theorem dX1_eastOf_6 : decode cX1_eastOf 6 = .ok (.aload_n 0, 1) := by decide +kernel
theorem dX1_eastOf_7 : decode cX1_eastOf 7 = .ok (.getfield 37, 3) := by decide +kernel
theorem dX1_eastOf_10 : decode cX1_eastOf 10 = .ok (.iload_n 2, 1) := by decide +kernel
theorem dX1_eastOf_11 : decode cX1_eastOf 11 = .ok (.iaload, 1) := by decide +kernel
theorem dX1_eastOf_12 : decode cX1_eastOf 12 = .ok (.iadd, 1) := by decide +kernel
theorem dX1_eastOf_13 : decode cX1_eastOf 13 = .ok (.ireturn, 1) := by decide +kernel
theorem dX1_isDrowned_0 : decode cX1_isDrowned 0 = .ok (.aload_n 0, 1) := by decide +kernel
theorem dX1_isDrowned_1 : decode cX1_isDrowned 1 = .ok (.iload_n 1, 1) := by decide +kernel
theorem dX1_isDrowned_2 : decode cX1_isDrowned 2 = .ok (.iload_n 2, 1) := by decide +kernel
theorem dX1_isDrowned_3 : decode cX1_isDrowned 3 = .ok (.invokevirtual 63, 3) := by decide +kernel
theorem dX1_isDrowned_6 : decode cX1_isDrowned 6 = .ok (.aload_n 0, 1) := by decide +kernel
theorem dX1_isDrowned_7 : decode cX1_isDrowned 7 = .ok (.getfield 15, 3) := by decide +kernel
theorem dX1_isDrowned_10 : decode cX1_isDrowned 10 = .ok (.if_icmp .le 7, 3) := by decide +kernel
theorem dX1_isDrowned_13 : decode cX1_isDrowned 13 = .ok (.iconst 1, 1) := by decide +kernel
theorem dX1_isDrowned_14 : decode cX1_isDrowned 14 = .ok (.goto 4, 3) := by decide +kernel
theorem dX1_isDrowned_17 : decode cX1_isDrowned 17 = .ok (.iconst 0, 1) := by decide +kernel
theorem dX1_isDrowned_18 : decode cX1_isDrowned 18 = .ok (.ireturn, 1) := by decide +kernel
theorem dX1_isWall_0 : decode cX1_isWall 0 = .ok (.aload_n 0, 1) := by decide +kernel
theorem dX1_isWall_1 : decode cX1_isWall 1 = .ok (.getfield 24, 3) := by decide +kernel
theorem dX1_isWall_4 : decode cX1_isWall 4 = .ok (.iload_n 2, 1) := by decide +kernel
theorem dX1_isWall_5 : decode cX1_isWall 5 = .ok (.iaload, 1) := by decide +kernel
theorem dX1_isWall_6 : decode cX1_isWall 6 = .ok (.iload_n 1, 1) := by decide +kernel
theorem dX1_isWall_7 : decode cX1_isWall 7 = .ok (.ishr, 1) := by decide +kernel
theorem dX1_isWall_8 : decode cX1_isWall 8 = .ok (.iconst 1, 1) := by decide +kernel
theorem dX1_isWall_9 : decode cX1_isWall 9 = .ok (.iand, 1) := by decide +kernel
theorem dX1_isWall_10 : decode cX1_isWall 10 = .ok (.ifCond .eq 7, 3) := by decide +kernel
theorem dX1_isWall_13 : decode cX1_isWall 13 = .ok (.iconst 1, 1) := by decide +kernel
theorem dX1_isWall_14 : decode cX1_isWall 14 = .ok (.goto 4, 3) := by decide +kernel
theorem dX1_isWall_17 : decode cX1_isWall 17 = .ok (.iconst 0, 1) := by decide +kernel
theorem dX1_isWall_18 : decode cX1_isWall 18 = .ok (.ireturn, 1) := by decide +kernel
theorem dX1_isPath_0 : decode cX1_isPath 0 = .ok (.aload_n 0, 1) := by decide +kernel
theorem dX1_isPath_1 : decode cX1_isPath 1 = .ok (.getfield 28, 3) := by decide +kernel
theorem dX1_isPath_4 : decode cX1_isPath 4 = .ok (.iload_n 2, 1) := by decide +kernel
theorem dX1_isPath_5 : decode cX1_isPath 5 = .ok (.iaload, 1) := by decide +kernel
theorem dX1_isPath_6 : decode cX1_isPath 6 = .ok (.iload_n 1, 1) := by decide +kernel
theorem dX1_isPath_7 : decode cX1_isPath 7 = .ok (.ishr, 1) := by decide +kernel
theorem dX1_isPath_8 : decode cX1_isPath 8 = .ok (.iconst 1, 1) := by decide +kernel
theorem dX1_isPath_9 : decode cX1_isPath 9 = .ok (.iand, 1) := by decide +kernel
theorem dX1_isPath_10 : decode cX1_isPath 10 = .ok (.ifCond .eq 7, 3) := by decide +kernel
theorem dX1_isPath_13 : decode cX1_isPath 13 = .ok (.iconst 1, 1) := by decide +kernel
theorem dX1_isPath_14 : decode cX1_isPath 14 = .ok (.goto 4, 3) := by decide +kernel
theorem dX1_isPath_17 : decode cX1_isPath 17 = .ok (.iconst 0, 1) := by decide +kernel
theorem dX1_isPath_18 : decode cX1_isPath 18 = .ok (.ireturn, 1) := by decide +kernel
theorem dX1_hasColumn_0 : decode cX1_hasColumn 0 = .ok (.aload_n 0, 1) := by decide +kernel
theorem dX1_hasColumn_1 : decode cX1_hasColumn 1 = .ok (.iload_n 1, 1) := by decide +kernel
theorem dX1_hasColumn_2 : decode cX1_hasColumn 2 = .ok (.iload_n 2, 1) := by decide +kernel
theorem dX1_hasColumn_3 : decode cX1_hasColumn 3 = .ok (.invokevirtual 60, 3) := by decide +kernel
theorem dX1_hasColumn_6 : decode cX1_hasColumn 6 = .ok (.istore 4, 2) := by decide +kernel
theorem dX1_hasColumn_8 : decode cX1_hasColumn 8 = .ok (.iload_n 3, 1) := by decide +kernel
theorem dX1_hasColumn_9 : decode cX1_hasColumn 9 = .ok (.iload 4, 2) := by decide +kernel
theorem dX1_hasColumn_11 : decode cX1_hasColumn 11 = .ok (.if_icmp .lt 20, 3) := by decide +kernel
theorem dX1_hasColumn_14 : decode cX1_hasColumn 14 = .ok (.iload_n 3, 1) := by decide +kernel
theorem dX1_hasColumn_15 : decode cX1_hasColumn 15 = .ok (.iload 4, 2) := by decide +kernel
theorem dX1_hasColumn_17 : decode cX1_hasColumn 17 = .ok (.aload_n 0, 1) := by decide +kernel
theorem dX1_hasColumn_18 : decode cX1_hasColumn 18 = .ok (.getfield 37, 3) := by decide +kernel
theorem dX1_hasColumn_21 : decode cX1_hasColumn 21 = .ok (.iload_n 2, 1) := by decide +kernel
theorem dX1_hasColumn_22 : decode cX1_hasColumn 22 = .ok (.iaload, 1) := by decide +kernel
theorem dX1_hasColumn_23 : decode cX1_hasColumn 23 = .ok (.iadd, 1) := by decide +kernel
theorem dX1_hasColumn_24 : decode cX1_hasColumn 24 = .ok (.if_icmp .ge 7, 3) := by decide +kernel
theorem dX1_hasColumn_27 : decode cX1_hasColumn 27 = .ok (.iconst 1, 1) := by decide +kernel
theorem dX1_hasColumn_28 : decode cX1_hasColumn 28 = .ok (.goto 4, 3) := by decide +kernel
theorem dX1_hasColumn_31 : decode cX1_hasColumn 31 = .ok (.iconst 0, 1) := by decide +kernel
theorem dX1_hasColumn_32 : decode cX1_hasColumn 32 = .ok (.ireturn, 1) := by decide +kernel
theorem dX1_houseAt_0 : decode cX1_houseAt 0 = .ok (.iconst 0, 1) := by decide +kernel
theorem dX1_houseAt_1 : decode cX1_houseAt 1 = .ok (.istore_n 3, 1) := by decide +kernel
theorem dX1_houseAt_2 : decode cX1_houseAt 2 = .ok (.iload_n 3, 1) := by decide +kernel
theorem dX1_houseAt_3 : decode cX1_houseAt 3 = .ok (.aload_n 0, 1) := by decide +kernel
theorem dX1_houseAt_4 : decode cX1_houseAt 4 = .ok (.getfield 18, 3) := by decide +kernel
theorem dX1_houseAt_7 : decode cX1_houseAt 7 = .ok (.if_icmp .ge 68, 3) := by decide +kernel
theorem dX1_houseAt_10 : decode cX1_houseAt 10 = .ok (.aload_n 0, 1) := by decide +kernel
theorem dX1_houseAt_11 : decode cX1_houseAt 11 = .ok (.aload_n 0, 1) := by decide +kernel
theorem dX1_houseAt_12 : decode cX1_houseAt 12 = .ok (.getfield 21, 3) := by decide +kernel
theorem dX1_houseAt_15 : decode cX1_houseAt 15 = .ok (.iload_n 3, 1) := by decide +kernel
theorem dX1_houseAt_16 : decode cX1_houseAt 16 = .ok (.invokevirtual 60, 3) := by decide +kernel
theorem dX1_houseAt_19 : decode cX1_houseAt 19 = .ok (.istore 4, 2) := by decide +kernel
theorem dX1_houseAt_21 : decode cX1_houseAt 21 = .ok (.iload_n 1, 1) := by decide +kernel
theorem dX1_houseAt_22 : decode cX1_houseAt 22 = .ok (.iload 4, 2) := by decide +kernel
theorem dX1_houseAt_24 : decode cX1_houseAt 24 = .ok (.if_icmp .lt 45, 3) := by decide +kernel
theorem dX1_houseAt_27 : decode cX1_houseAt 27 = .ok (.iload_n 1, 1) := by decide +kernel
theorem dX1_houseAt_28 : decode cX1_houseAt 28 = .ok (.iload 4, 2) := by decide +kernel
theorem dX1_houseAt_30 : decode cX1_houseAt 30 = .ok (.aload_n 0, 1) := by decide +kernel
theorem dX1_houseAt_31 : decode cX1_houseAt 31 = .ok (.getfield 37, 3) := by decide +kernel
theorem dX1_houseAt_34 : decode cX1_houseAt 34 = .ok (.iload_n 3, 1) := by decide +kernel
theorem dX1_houseAt_35 : decode cX1_houseAt 35 = .ok (.iaload, 1) := by decide +kernel
theorem dX1_houseAt_36 : decode cX1_houseAt 36 = .ok (.iadd, 1) := by decide +kernel
theorem dX1_houseAt_37 : decode cX1_houseAt 37 = .ok (.if_icmp .ge 32, 3) := by decide +kernel
theorem dX1_houseAt_40 : decode cX1_houseAt 40 = .ok (.iload_n 2, 1) := by decide +kernel
theorem dX1_houseAt_41 : decode cX1_houseAt 41 = .ok (.aload_n 0, 1) := by decide +kernel
theorem dX1_houseAt_42 : decode cX1_houseAt 42 = .ok (.getfield 34, 3) := by decide +kernel
theorem dX1_houseAt_45 : decode cX1_houseAt 45 = .ok (.iload_n 3, 1) := by decide +kernel
theorem dX1_houseAt_46 : decode cX1_houseAt 46 = .ok (.iaload, 1) := by decide +kernel
theorem dX1_houseAt_47 : decode cX1_houseAt 47 = .ok (.if_icmp .lt 22, 3) := by decide +kernel
theorem dX1_houseAt_50 : decode cX1_houseAt 50 = .ok (.iload_n 2, 1) := by decide +kernel
theorem dX1_houseAt_51 : decode cX1_houseAt 51 = .ok (.aload_n 0, 1) := by decide +kernel
theorem dX1_houseAt_52 : decode cX1_houseAt 52 = .ok (.getfield 34, 3) := by decide +kernel
theorem dX1_houseAt_55 : decode cX1_houseAt 55 = .ok (.iload_n 3, 1) := by decide +kernel
theorem dX1_houseAt_56 : decode cX1_houseAt 56 = .ok (.iaload, 1) := by decide +kernel
theorem dX1_houseAt_57 : decode cX1_houseAt 57 = .ok (.aload_n 0, 1) := by decide +kernel
theorem dX1_houseAt_58 : decode cX1_houseAt 58 = .ok (.getfield 40, 3) := by decide +kernel
theorem dX1_houseAt_61 : decode cX1_houseAt 61 = .ok (.iload_n 3, 1) := by decide +kernel
theorem dX1_houseAt_62 : decode cX1_houseAt 62 = .ok (.iaload, 1) := by decide +kernel
theorem dX1_houseAt_63 : decode cX1_houseAt 63 = .ok (.iadd, 1) := by decide +kernel
theorem dX1_houseAt_64 : decode cX1_houseAt 64 = .ok (.if_icmp .ge 5, 3) := by decide +kernel
theorem dX1_houseAt_67 : decode cX1_houseAt 67 = .ok (.iload_n 3, 1) := by decide +kernel
theorem dX1_houseAt_68 : decode cX1_houseAt 68 = .ok (.ireturn, 1) := by decide +kernel
theorem dX1_houseAt_69 : decode cX1_houseAt 69 = .ok (.iinc 3 1, 3) := by decide +kernel
theorem dX1_houseAt_72 : decode cX1_houseAt 72 = .ok (.goto (-70), 3) := by decide +kernel
theorem dX1_houseAt_75 : decode cX1_houseAt 75 = .ok (.iconst (-1), 1) := by decide +kernel
theorem dX1_houseAt_76 : decode cX1_houseAt 76 = .ok (.ireturn, 1) := by decide +kernel
theorem dX1_contentOf_0 : decode cX1_contentOf 0 = .ok (.aload_n 0, 1) := by decide +kernel
theorem dX1_contentOf_1 : decode cX1_contentOf 1 = .ok (.iload_n 1, 1) := by decide +kernel
theorem dX1_contentOf_2 : decode cX1_contentOf 2 = .ok (.iload_n 2, 1) := by decide +kernel
theorem dX1_contentOf_3 : decode cX1_contentOf 3 = .ok (.invokevirtual 56, 3) := by decide +kernel
theorem dX1_contentOf_6 : decode cX1_contentOf 6 = .ok (.istore_n 3, 1) := by decide +kernel
theorem dX1_contentOf_7 : decode cX1_contentOf 7 = .ok (.iload_n 3, 1) := by decide +kernel
theorem dX1_contentOf_8 : decode cX1_contentOf 8 = .ok (.ifCond .lt 5, 3) := by decide +kernel
theorem dX1_contentOf_11 : decode cX1_contentOf 11 = .ok (.iload_n 3, 1) := by decide +kernel
theorem dX1_contentOf_12 : decode cX1_contentOf 12 = .ok (.ireturn, 1) := by decide +kernel
theorem dX1_contentOf_13 : decode cX1_contentOf 13 = .ok (.aload_n 0, 1) := by decide +kernel
theorem dX1_contentOf_14 : decode cX1_contentOf 14 = .ok (.iload_n 1, 1) := by decide +kernel
theorem dX1_contentOf_15 : decode cX1_contentOf 15 = .ok (.iload_n 2, 1) := by decide +kernel
theorem dX1_contentOf_16 : decode cX1_contentOf 16 = .ok (.invokevirtual 52, 3) := by decide +kernel
theorem dX1_contentOf_19 : decode cX1_contentOf 19 = .ok (.ifCond .eq 5, 3) := by decide +kernel
theorem dX1_contentOf_22 : decode cX1_contentOf 22 = .ok (.iconst (-1), 1) := by decide +kernel
theorem dX1_contentOf_23 : decode cX1_contentOf 23 = .ok (.ireturn, 1) := by decide +kernel
theorem dX1_contentOf_24 : decode cX1_contentOf 24 = .ok (.aload_n 0, 1) := by decide +kernel
theorem dX1_contentOf_25 : decode cX1_contentOf 25 = .ok (.iload_n 1, 1) := by decide +kernel
theorem dX1_contentOf_26 : decode cX1_contentOf 26 = .ok (.iload_n 2, 1) := by decide +kernel
theorem dX1_contentOf_27 : decode cX1_contentOf 27 = .ok (.invokevirtual 66, 3) := by decide +kernel
theorem dX1_contentOf_30 : decode cX1_contentOf 30 = .ok (.ifCond .eq 6, 3) := by decide +kernel
theorem dX1_contentOf_33 : decode cX1_contentOf 33 = .ok (.bipush (-2), 2) := by decide +kernel
theorem dX1_contentOf_35 : decode cX1_contentOf 35 = .ok (.ireturn, 1) := by decide +kernel
theorem dX1_contentOf_36 : decode cX1_contentOf 36 = .ok (.iload_n 1, 1) := by decide +kernel
theorem dX1_contentOf_37 : decode cX1_contentOf 37 = .ok (.aload_n 0, 1) := by decide +kernel
theorem dX1_contentOf_38 : decode cX1_contentOf 38 = .ok (.getfield 15, 3) := by decide +kernel
theorem dX1_contentOf_41 : decode cX1_contentOf 41 = .ok (.if_icmp .lt 8, 3) := by decide +kernel
theorem dX1_contentOf_44 : decode cX1_contentOf 44 = .ok (.bipush (-3), 2) := by decide +kernel
theorem dX1_contentOf_46 : decode cX1_contentOf 46 = .ok (.goto 5, 3) := by decide +kernel
theorem dX1_contentOf_49 : decode cX1_contentOf 49 = .ok (.bipush (-4), 2) := by decide +kernel
theorem dX1_contentOf_51 : decode cX1_contentOf 51 = .ok (.ireturn, 1) := by decide +kernel
theorem dX1_isOpen_0 : decode cX1_isOpen 0 = .ok (.aload_n 0, 1) := by decide +kernel
theorem dX1_isOpen_1 : decode cX1_isOpen 1 = .ok (.aload_n 0, 1) := by decide +kernel
theorem dX1_isOpen_2 : decode cX1_isOpen 2 = .ok (.getfield 21, 3) := by decide +kernel
theorem dX1_isOpen_5 : decode cX1_isOpen 5 = .ok (.iload_n 1, 1) := by decide +kernel
theorem dX1_isOpen_6 : decode cX1_isOpen 6 = .ok (.invokevirtual 60, 3) := by decide +kernel
theorem dX1_isOpen_9 : decode cX1_isOpen 9 = .ok (.istore_n 2, 1) := by decide +kernel
theorem dX1_isOpen_10 : decode cX1_isOpen 10 = .ok (.aload_n 0, 1) := by decide +kernel
theorem dX1_isOpen_11 : decode cX1_isOpen 11 = .ok (.getfield 34, 3) := by decide +kernel
theorem dX1_isOpen_14 : decode cX1_isOpen 14 = .ok (.iload_n 1, 1) := by decide +kernel
theorem dX1_isOpen_15 : decode cX1_isOpen 15 = .ok (.iaload, 1) := by decide +kernel
theorem dX1_isOpen_16 : decode cX1_isOpen 16 = .ok (.aload_n 0, 1) := by decide +kernel
theorem dX1_isOpen_17 : decode cX1_isOpen 17 = .ok (.getfield 40, 3) := by decide +kernel
theorem dX1_isOpen_20 : decode cX1_isOpen 20 = .ok (.iload_n 1, 1) := by decide +kernel
theorem dX1_isOpen_21 : decode cX1_isOpen 21 = .ok (.iaload, 1) := by decide +kernel
theorem dX1_isOpen_22 : decode cX1_isOpen 22 = .ok (.iadd, 1) := by decide +kernel
theorem dX1_isOpen_23 : decode cX1_isOpen 23 = .ok (.istore_n 3, 1) := by decide +kernel
theorem dX1_isOpen_24 : decode cX1_isOpen 24 = .ok (.iload_n 3, 1) := by decide +kernel
theorem dX1_isOpen_25 : decode cX1_isOpen 25 = .ok (.bipush 8, 2) := by decide +kernel
theorem dX1_isOpen_27 : decode cX1_isOpen 27 = .ok (.if_icmp .ge 34, 3) := by decide +kernel
theorem dX1_isOpen_30 : decode cX1_isOpen 30 = .ok (.aload_n 0, 1) := by decide +kernel
theorem dX1_isOpen_31 : decode cX1_isOpen 31 = .ok (.iload_n 2, 1) := by decide +kernel
theorem dX1_isOpen_32 : decode cX1_isOpen 32 = .ok (.iload_n 3, 1) := by decide +kernel
theorem dX1_isOpen_33 : decode cX1_isOpen 33 = .ok (.invokevirtual 66, 3) := by decide +kernel
theorem dX1_isOpen_36 : decode cX1_isOpen 36 = .ok (.ifCond .eq 25, 3) := by decide +kernel
theorem dX1_isOpen_39 : decode cX1_isOpen 39 = .ok (.aload_n 0, 1) := by decide +kernel
theorem dX1_isOpen_40 : decode cX1_isOpen 40 = .ok (.iload_n 2, 1) := by decide +kernel
theorem dX1_isOpen_41 : decode cX1_isOpen 41 = .ok (.iload_n 3, 1) := by decide +kernel
theorem dX1_isOpen_42 : decode cX1_isOpen 42 = .ok (.invokevirtual 52, 3) := by decide +kernel
theorem dX1_isOpen_45 : decode cX1_isOpen 45 = .ok (.ifCond .ne 16, 3) := by decide +kernel
theorem dX1_isOpen_48 : decode cX1_isOpen 48 = .ok (.aload_n 0, 1) := by decide +kernel
theorem dX1_isOpen_49 : decode cX1_isOpen 49 = .ok (.iload_n 2, 1) := by decide +kernel
theorem dX1_isOpen_50 : decode cX1_isOpen 50 = .ok (.iload_n 3, 1) := by decide +kernel
theorem dX1_isOpen_51 : decode cX1_isOpen 51 = .ok (.invokevirtual 56, 3) := by decide +kernel
theorem dX1_isOpen_54 : decode cX1_isOpen 54 = .ok (.ifCond .ge 7, 3) := by decide +kernel
theorem dX1_isOpen_57 : decode cX1_isOpen 57 = .ok (.iconst 1, 1) := by decide +kernel
theorem dX1_isOpen_58 : decode cX1_isOpen 58 = .ok (.goto 4, 3) := by decide +kernel
theorem dX1_isOpen_61 : decode cX1_isOpen 61 = .ok (.iconst 0, 1) := by decide +kernel
theorem dX1_isOpen_62 : decode cX1_isOpen 62 = .ok (.ireturn, 1) := by decide +kernel
theorem dX1_isBoxed_0 : decode cX1_isBoxed 0 = .ok (.aload_n 0, 1) := by decide +kernel
theorem dX1_isBoxed_1 : decode cX1_isBoxed 1 = .ok (.aload_n 0, 1) := by decide +kernel
theorem dX1_isBoxed_2 : decode cX1_isBoxed 2 = .ok (.getfield 21, 3) := by decide +kernel
theorem dX1_isBoxed_5 : decode cX1_isBoxed 5 = .ok (.iload_n 1, 1) := by decide +kernel
theorem dX1_isBoxed_6 : decode cX1_isBoxed 6 = .ok (.invokevirtual 60, 3) := by decide +kernel
theorem dX1_isBoxed_9 : decode cX1_isBoxed 9 = .ok (.iconst 1, 1) := by decide +kernel
theorem dX1_isBoxed_10 : decode cX1_isBoxed 10 = .ok (.isub, 1) := by decide +kernel
theorem dX1_isBoxed_11 : decode cX1_isBoxed 11 = .ok (.istore_n 2, 1) := by decide +kernel
theorem dX1_isBoxed_12 : decode cX1_isBoxed 12 = .ok (.aload_n 0, 1) := by decide +kernel
theorem dX1_isBoxed_13 : decode cX1_isBoxed 13 = .ok (.aload_n 0, 1) := by decide +kernel
theorem dX1_isBoxed_14 : decode cX1_isBoxed 14 = .ok (.getfield 21, 3) := by decide +kernel
theorem dX1_isBoxed_17 : decode cX1_isBoxed 17 = .ok (.iload_n 1, 1) := by decide +kernel
theorem dX1_isBoxed_18 : decode cX1_isBoxed 18 = .ok (.invokevirtual 63, 3) := by decide +kernel
theorem dX1_isBoxed_21 : decode cX1_isBoxed 21 = .ok (.istore_n 3, 1) := by decide +kernel
theorem dX1_isBoxed_22 : decode cX1_isBoxed 22 = .ok (.aload_n 0, 1) := by decide +kernel
theorem dX1_isBoxed_23 : decode cX1_isBoxed 23 = .ok (.getfield 34, 3) := by decide +kernel
theorem dX1_isBoxed_26 : decode cX1_isBoxed 26 = .ok (.iload_n 1, 1) := by decide +kernel
theorem dX1_isBoxed_27 : decode cX1_isBoxed 27 = .ok (.iaload, 1) := by decide +kernel
theorem dX1_isBoxed_28 : decode cX1_isBoxed 28 = .ok (.istore 4, 2) := by decide +kernel
theorem dX1_isBoxed_30 : decode cX1_isBoxed 30 = .ok (.iload 4, 2) := by decide +kernel
theorem dX1_isBoxed_32 : decode cX1_isBoxed 32 = .ok (.aload_n 0, 1) := by decide +kernel
theorem dX1_isBoxed_33 : decode cX1_isBoxed 33 = .ok (.getfield 34, 3) := by decide +kernel
theorem dX1_isBoxed_36 : decode cX1_isBoxed 36 = .ok (.iload_n 1, 1) := by decide +kernel
theorem dX1_isBoxed_37 : decode cX1_isBoxed 37 = .ok (.iaload, 1) := by decide +kernel
theorem dX1_isBoxed_38 : decode cX1_isBoxed 38 = .ok (.aload_n 0, 1) := by decide +kernel
theorem dX1_isBoxed_39 : decode cX1_isBoxed 39 = .ok (.getfield 40, 3) := by decide +kernel
theorem dX1_isBoxed_42 : decode cX1_isBoxed 42 = .ok (.iload_n 1, 1) := by decide +kernel
theorem dX1_isBoxed_43 : decode cX1_isBoxed 43 = .ok (.iaload, 1) := by decide +kernel
theorem dX1_isBoxed_44 : decode cX1_isBoxed 44 = .ok (.iadd, 1) := by decide +kernel
theorem dX1_isBoxed_45 : decode cX1_isBoxed 45 = .ok (.if_icmp .ge 31, 3) := by decide +kernel
theorem dX1_isBoxed_48 : decode cX1_isBoxed 48 = .ok (.aload_n 0, 1) := by decide +kernel
theorem dX1_isBoxed_49 : decode cX1_isBoxed 49 = .ok (.iload_n 2, 1) := by decide +kernel
theorem dX1_isBoxed_50 : decode cX1_isBoxed 50 = .ok (.iload 4, 2) := by decide +kernel
theorem dX1_isBoxed_52 : decode cX1_isBoxed 52 = .ok (.invokevirtual 56, 3) := by decide +kernel
theorem dX1_isBoxed_55 : decode cX1_isBoxed 55 = .ok (.ifCond .lt 13, 3) := by decide +kernel
theorem dX1_isBoxed_58 : decode cX1_isBoxed 58 = .ok (.aload_n 0, 1) := by decide +kernel
theorem dX1_isBoxed_59 : decode cX1_isBoxed 59 = .ok (.iload_n 3, 1) := by decide +kernel
theorem dX1_isBoxed_60 : decode cX1_isBoxed 60 = .ok (.iload 4, 2) := by decide +kernel
theorem dX1_isBoxed_62 : decode cX1_isBoxed 62 = .ok (.invokevirtual 56, 3) := by decide +kernel
theorem dX1_isBoxed_65 : decode cX1_isBoxed 65 = .ok (.ifCond .ge 5, 3) := by decide +kernel
theorem dX1_isBoxed_68 : decode cX1_isBoxed 68 = .ok (.iconst 0, 1) := by decide +kernel
theorem dX1_isBoxed_69 : decode cX1_isBoxed 69 = .ok (.ireturn, 1) := by decide +kernel
theorem dX1_isBoxed_70 : decode cX1_isBoxed 70 = .ok (.iinc 4 1, 3) := by decide +kernel
theorem dX1_isBoxed_73 : decode cX1_isBoxed 73 = .ok (.goto (-43), 3) := by decide +kernel
theorem dX1_isBoxed_76 : decode cX1_isBoxed 76 = .ok (.iconst 1, 1) := by decide +kernel
theorem dX1_isBoxed_77 : decode cX1_isBoxed 77 = .ok (.ireturn, 1) := by decide +kernel
theorem dX1_rentOf_0 : decode cX1_rentOf 0 = .ok (.aload_n 0, 1) := by decide +kernel
theorem dX1_rentOf_1 : decode cX1_rentOf 1 = .ok (.aload_n 0, 1) := by decide +kernel
theorem dX1_rentOf_2 : decode cX1_rentOf 2 = .ok (.getfield 21, 3) := by decide +kernel
theorem dX1_rentOf_5 : decode cX1_rentOf 5 = .ok (.iload_n 1, 1) := by decide +kernel
theorem dX1_rentOf_6 : decode cX1_rentOf 6 = .ok (.invokevirtual 69, 3) := by decide +kernel
theorem dX1_rentOf_9 : decode cX1_rentOf 9 = .ok (.ifCond .eq 7, 3) := by decide +kernel
theorem dX1_rentOf_12 : decode cX1_rentOf 12 = .ok (.iconst 0, 1) := by decide +kernel
theorem dX1_rentOf_13 : decode cX1_rentOf 13 = .ok (.goto 26, 3) := by decide +kernel
theorem dX1_rentOf_16 : decode cX1_rentOf 16 = .ok (.aload_n 0, 1) := by decide +kernel
theorem dX1_rentOf_17 : decode cX1_rentOf 17 = .ok (.aload_n 0, 1) := by decide +kernel
theorem dX1_rentOf_18 : decode cX1_rentOf 18 = .ok (.getfield 21, 3) := by decide +kernel
theorem dX1_rentOf_21 : decode cX1_rentOf 21 = .ok (.iload_n 1, 1) := by decide +kernel
theorem dX1_rentOf_22 : decode cX1_rentOf 22 = .ok (.invokevirtual 60, 3) := by decide +kernel
theorem dX1_rentOf_25 : decode cX1_rentOf 25 = .ok (.aload_n 0, 1) := by decide +kernel
theorem dX1_rentOf_26 : decode cX1_rentOf 26 = .ok (.getfield 37, 3) := by decide +kernel
theorem dX1_rentOf_29 : decode cX1_rentOf 29 = .ok (.iload_n 1, 1) := by decide +kernel
theorem dX1_rentOf_30 : decode cX1_rentOf 30 = .ok (.iaload, 1) := by decide +kernel
theorem dX1_rentOf_31 : decode cX1_rentOf 31 = .ok (.imul, 1) := by decide +kernel
theorem dX1_rentOf_32 : decode cX1_rentOf 32 = .ok (.aload_n 0, 1) := by decide +kernel
theorem dX1_rentOf_33 : decode cX1_rentOf 33 = .ok (.getfield 40, 3) := by decide +kernel
theorem dX1_rentOf_36 : decode cX1_rentOf 36 = .ok (.iload_n 1, 1) := by decide +kernel
theorem dX1_rentOf_37 : decode cX1_rentOf 37 = .ok (.iaload, 1) := by decide +kernel
theorem dX1_rentOf_38 : decode cX1_rentOf 38 = .ok (.imul, 1) := by decide +kernel
theorem dX1_rentOf_39 : decode cX1_rentOf 39 = .ok (.ireturn, 1) := by decide +kernel
theorem dX1_allRents_0 : decode cX1_allRents 0 = .ok (.iconst 0, 1) := by decide +kernel
theorem dX1_allRents_1 : decode cX1_allRents 1 = .ok (.istore_n 1, 1) := by decide +kernel
theorem dX1_allRents_2 : decode cX1_allRents 2 = .ok (.iconst 0, 1) := by decide +kernel
theorem dX1_allRents_3 : decode cX1_allRents 3 = .ok (.istore_n 2, 1) := by decide +kernel
theorem dX1_allRents_4 : decode cX1_allRents 4 = .ok (.iload_n 2, 1) := by decide +kernel
theorem dX1_allRents_5 : decode cX1_allRents 5 = .ok (.aload_n 0, 1) := by decide +kernel
theorem dX1_allRents_6 : decode cX1_allRents 6 = .ok (.getfield 18, 3) := by decide +kernel
theorem dX1_allRents_9 : decode cX1_allRents 9 = .ok (.if_icmp .ge 17, 3) := by decide +kernel
theorem dX1_allRents_12 : decode cX1_allRents 12 = .ok (.iload_n 1, 1) := by decide +kernel
theorem dX1_allRents_13 : decode cX1_allRents 13 = .ok (.aload_n 0, 1) := by decide +kernel
theorem dX1_allRents_14 : decode cX1_allRents 14 = .ok (.iload_n 2, 1) := by decide +kernel
theorem dX1_allRents_15 : decode cX1_allRents 15 = .ok (.invokevirtual 72, 3) := by decide +kernel
theorem dX1_allRents_18 : decode cX1_allRents 18 = .ok (.iadd, 1) := by decide +kernel
theorem dX1_allRents_19 : decode cX1_allRents 19 = .ok (.istore_n 1, 1) := by decide +kernel
theorem dX1_allRents_20 : decode cX1_allRents 20 = .ok (.iinc 2 1, 3) := by decide +kernel
theorem dX1_allRents_23 : decode cX1_allRents 23 = .ok (.goto (-19), 3) := by decide +kernel
theorem dX1_allRents_26 : decode cX1_allRents 26 = .ok (.iload_n 1, 1) := by decide +kernel
theorem dX1_allRents_27 : decode cX1_allRents 27 = .ok (.ireturn, 1) := by decide +kernel
theorem dX1_allLies_0 : decode cX1_allLies 0 = .ok (.iconst 0, 1) := by decide +kernel
theorem dX1_allLies_1 : decode cX1_allLies 1 = .ok (.istore_n 1, 1) := by decide +kernel
theorem dX1_allLies_2 : decode cX1_allLies 2 = .ok (.iconst 0, 1) := by decide +kernel
theorem dX1_allLies_3 : decode cX1_allLies 3 = .ok (.istore_n 2, 1) := by decide +kernel
theorem dX1_allLies_4 : decode cX1_allLies 4 = .ok (.iload_n 2, 1) := by decide +kernel
theorem dX1_allLies_5 : decode cX1_allLies 5 = .ok (.aload_n 0, 1) := by decide +kernel
theorem dX1_allLies_6 : decode cX1_allLies 6 = .ok (.getfield 18, 3) := by decide +kernel
theorem dX1_allLies_9 : decode cX1_allLies 9 = .ok (.if_icmp .ge 18, 3) := by decide +kernel
theorem dX1_allLies_12 : decode cX1_allLies 12 = .ok (.iload_n 1, 1) := by decide +kernel
theorem dX1_allLies_13 : decode cX1_allLies 13 = .ok (.aload_n 0, 1) := by decide +kernel
theorem dX1_allLies_14 : decode cX1_allLies 14 = .ok (.getfield 43, 3) := by decide +kernel
theorem dX1_allLies_17 : decode cX1_allLies 17 = .ok (.iload_n 2, 1) := by decide +kernel
theorem dX1_allLies_18 : decode cX1_allLies 18 = .ok (.iaload, 1) := by decide +kernel
theorem dX1_allLies_19 : decode cX1_allLies 19 = .ok (.iadd, 1) := by decide +kernel
theorem dX1_allLies_20 : decode cX1_allLies 20 = .ok (.istore_n 1, 1) := by decide +kernel
theorem dX1_allLies_21 : decode cX1_allLies 21 = .ok (.iinc 2 1, 3) := by decide +kernel
theorem dX1_allLies_24 : decode cX1_allLies 24 = .ok (.goto (-20), 3) := by decide +kernel
theorem dX1_allLies_27 : decode cX1_allLies 27 = .ok (.iload_n 1, 1) := by decide +kernel
theorem dX1_allLies_28 : decode cX1_allLies 28 = .ok (.ireturn, 1) := by decide +kernel
theorem dX1_wallCells_0 : decode cX1_wallCells 0 = .ok (.iconst 0, 1) := by decide +kernel
theorem dX1_wallCells_1 : decode cX1_wallCells 1 = .ok (.istore_n 1, 1) := by decide +kernel
theorem dX1_wallCells_2 : decode cX1_wallCells 2 = .ok (.iconst 0, 1) := by decide +kernel
theorem dX1_wallCells_3 : decode cX1_wallCells 3 = .ok (.istore_n 2, 1) := by decide +kernel
theorem dX1_wallCells_4 : decode cX1_wallCells 4 = .ok (.iload_n 2, 1) := by decide +kernel
theorem dX1_wallCells_5 : decode cX1_wallCells 5 = .ok (.bipush 8, 2) := by decide +kernel
theorem dX1_wallCells_7 : decode cX1_wallCells 7 = .ok (.if_icmp .ge 21, 3) := by decide +kernel
theorem dX1_wallCells_10 : decode cX1_wallCells 10 = .ok (.iload_n 1, 1) := by decide +kernel
theorem dX1_wallCells_11 : decode cX1_wallCells 11 = .ok (.aload_n 0, 1) := by decide +kernel
theorem dX1_wallCells_12 : decode cX1_wallCells 12 = .ok (.getfield 24, 3) := by decide +kernel
theorem dX1_wallCells_15 : decode cX1_wallCells 15 = .ok (.iload_n 2, 1) := by decide +kernel
theorem dX1_wallCells_16 : decode cX1_wallCells 16 = .ok (.iaload, 1) := by decide +kernel
theorem dX1_wallCells_17 : decode cX1_wallCells 17 = .ok (.invokestatic 76, 3) := by decide +kernel
theorem dX1_wallCells_20 : decode cX1_wallCells 20 = .ok (.iadd, 1) := by decide +kernel
theorem dX1_wallCells_21 : decode cX1_wallCells 21 = .ok (.istore_n 1, 1) := by decide +kernel
theorem dX1_wallCells_22 : decode cX1_wallCells 22 = .ok (.iinc 2 1, 3) := by decide +kernel
theorem dX1_wallCells_25 : decode cX1_wallCells 25 = .ok (.goto (-21), 3) := by decide +kernel
theorem dX1_wallCells_28 : decode cX1_wallCells 28 = .ok (.iload_n 1, 1) := by decide +kernel
theorem dX1_wallCells_29 : decode cX1_wallCells 29 = .ok (.ireturn, 1) := by decide +kernel
theorem dX1_slidBy_0 : decode cX1_slidBy 0 = .ok (.iconst 1, 1) := by decide +kernel
theorem dX1_slidBy_1 : decode cX1_slidBy 1 = .ok (.iload_n 2, 1) := by decide +kernel
theorem dX1_slidBy_2 : decode cX1_slidBy 2 = .ok (.ishl, 1) := by decide +kernel
theorem dX1_slidBy_3 : decode cX1_slidBy 3 = .ok (.istore_n 3, 1) := by decide +kernel
theorem dX1_slidBy_4 : decode cX1_slidBy 4 = .ok (.iconst 0, 1) := by decide +kernel
theorem dX1_slidBy_5 : decode cX1_slidBy 5 = .ok (.istore 4, 2) := by decide +kernel
theorem dX1_slidBy_7 : decode cX1_slidBy 7 = .ok (.iconst 0, 1) := by decide +kernel
theorem dX1_slidBy_8 : decode cX1_slidBy 8 = .ok (.istore 5, 2) := by decide +kernel
theorem dX1_slidBy_10 : decode cX1_slidBy 10 = .ok (.iload 5, 2) := by decide +kernel
theorem dX1_slidBy_12 : decode cX1_slidBy 12 = .ok (.bipush 6, 2) := by decide +kernel
theorem dX1_slidBy_14 : decode cX1_slidBy 14 = .ok (.if_icmp .ge 78, 3) := by decide +kernel
theorem dX1_slidBy_17 : decode cX1_slidBy 17 = .ok (.iload 4, 2) := by decide +kernel
theorem dX1_slidBy_19 : decode cX1_slidBy 19 = .ok (.iload_n 3, 1) := by decide +kernel
theorem dX1_slidBy_20 : decode cX1_slidBy 20 = .ok (.if_icmp .eq 72, 3) := by decide +kernel
theorem dX1_slidBy_23 : decode cX1_slidBy 23 = .ok (.iconst 0, 1) := by decide +kernel
theorem dX1_slidBy_24 : decode cX1_slidBy 24 = .ok (.istore 6, 2) := by decide +kernel
theorem dX1_slidBy_26 : decode cX1_slidBy 26 = .ok (.iload 6, 2) := by decide +kernel
theorem dX1_slidBy_28 : decode cX1_slidBy 28 = .ok (.aload_n 0, 1) := by decide +kernel
theorem dX1_slidBy_29 : decode cX1_slidBy 29 = .ok (.getfield 18, 3) := by decide +kernel
theorem dX1_slidBy_32 : decode cX1_slidBy 32 = .ok (.if_icmp .ge 54, 3) := by decide +kernel
theorem dX1_slidBy_35 : decode cX1_slidBy 35 = .ok (.iload_n 3, 1) := by decide +kernel
theorem dX1_slidBy_36 : decode cX1_slidBy 36 = .ok (.iload 4, 2) := by decide +kernel
theorem dX1_slidBy_38 : decode cX1_slidBy 38 = .ok (.iconst (-1), 1) := by decide +kernel
theorem dX1_slidBy_39 : decode cX1_slidBy 39 = .ok (.ixor, 1) := by decide +kernel
theorem dX1_slidBy_40 : decode cX1_slidBy 40 = .ok (.iand, 1) := by decide +kernel
theorem dX1_slidBy_41 : decode cX1_slidBy 41 = .ok (.iconst 1, 1) := by decide +kernel
theorem dX1_slidBy_42 : decode cX1_slidBy 42 = .ok (.iload 6, 2) := by decide +kernel
theorem dX1_slidBy_44 : decode cX1_slidBy 44 = .ok (.ishl, 1) := by decide +kernel
theorem dX1_slidBy_45 : decode cX1_slidBy 45 = .ok (.iand, 1) := by decide +kernel
theorem dX1_slidBy_46 : decode cX1_slidBy 46 = .ok (.ifCond .eq 34, 3) := by decide +kernel
theorem dX1_slidBy_49 : decode cX1_slidBy 49 = .ok (.aload_n 0, 1) := by decide +kernel
theorem dX1_slidBy_50 : decode cX1_slidBy 50 = .ok (.iload_n 1, 1) := by decide +kernel
theorem dX1_slidBy_51 : decode cX1_slidBy 51 = .ok (.iload 6, 2) := by decide +kernel
theorem dX1_slidBy_53 : decode cX1_slidBy 53 = .ok (.invokevirtual 81, 3) := by decide +kernel
theorem dX1_slidBy_56 : decode cX1_slidBy 56 = .ok (.ifCond .eq 5, 3) := by decide +kernel
theorem dX1_slidBy_59 : decode cX1_slidBy 59 = .ok (.iconst 0, 1) := by decide +kernel
theorem dX1_slidBy_60 : decode cX1_slidBy 60 = .ok (.ireturn, 1) := by decide +kernel
theorem dX1_slidBy_61 : decode cX1_slidBy 61 = .ok (.iload 4, 2) := by decide +kernel
theorem dX1_slidBy_63 : decode cX1_slidBy 63 = .ok (.iconst 1, 1) := by decide +kernel
theorem dX1_slidBy_64 : decode cX1_slidBy 64 = .ok (.iload 6, 2) := by decide +kernel
theorem dX1_slidBy_66 : decode cX1_slidBy 66 = .ok (.ishl, 1) := by decide +kernel
theorem dX1_slidBy_67 : decode cX1_slidBy 67 = .ok (.ior, 1) := by decide +kernel
theorem dX1_slidBy_68 : decode cX1_slidBy 68 = .ok (.istore 4, 2) := by decide +kernel
theorem dX1_slidBy_70 : decode cX1_slidBy 70 = .ok (.iload_n 3, 1) := by decide +kernel
theorem dX1_slidBy_71 : decode cX1_slidBy 71 = .ok (.aload_n 0, 1) := by decide +kernel
theorem dX1_slidBy_72 : decode cX1_slidBy 72 = .ok (.iload_n 1, 1) := by decide +kernel
theorem dX1_slidBy_73 : decode cX1_slidBy 73 = .ok (.iload 6, 2) := by decide +kernel
theorem dX1_slidBy_75 : decode cX1_slidBy 75 = .ok (.invokevirtual 84, 3) := by decide +kernel
theorem dX1_slidBy_78 : decode cX1_slidBy 78 = .ok (.ior, 1) := by decide +kernel
theorem dX1_slidBy_79 : decode cX1_slidBy 79 = .ok (.istore_n 3, 1) := by decide +kernel
theorem dX1_slidBy_80 : decode cX1_slidBy 80 = .ok (.iinc 6 1, 3) := by decide +kernel
theorem dX1_slidBy_83 : decode cX1_slidBy 83 = .ok (.goto (-57), 3) := by decide +kernel
theorem dX1_slidBy_86 : decode cX1_slidBy 86 = .ok (.iinc 5 1, 3) := by decide +kernel
theorem dX1_slidBy_89 : decode cX1_slidBy 89 = .ok (.goto (-79), 3) := by decide +kernel
theorem dX1_slidBy_92 : decode cX1_slidBy 92 = .ok (.iload_n 3, 1) := by decide +kernel
theorem dX1_slidBy_93 : decode cX1_slidBy 93 = .ok (.ireturn, 1) := by decide +kernel
theorem dX1_isStopped_0 : decode cX1_isStopped 0 = .ok (.aload_n 0, 1) := by decide +kernel
theorem dX1_isStopped_1 : decode cX1_isStopped 1 = .ok (.iload_n 1, 1) := by decide +kernel
theorem dX1_isStopped_2 : decode cX1_isStopped 2 = .ok (.iload_n 2, 1) := by decide +kernel
theorem dX1_isStopped_3 : decode cX1_isStopped 3 = .ok (.invokevirtual 63, 3) := by decide +kernel
theorem dX1_isStopped_6 : decode cX1_isStopped 6 = .ok (.istore_n 3, 1) := by decide +kernel
theorem dX1_isStopped_7 : decode cX1_isStopped 7 = .ok (.iload_n 3, 1) := by decide +kernel
theorem dX1_isStopped_8 : decode cX1_isStopped 8 = .ok (.bipush 16, 2) := by decide +kernel
theorem dX1_isStopped_10 : decode cX1_isStopped 10 = .ok (.if_icmp .lt 5, 3) := by decide +kernel
theorem dX1_isStopped_13 : decode cX1_isStopped 13 = .ok (.iconst 1, 1) := by decide +kernel
theorem dX1_isStopped_14 : decode cX1_isStopped 14 = .ok (.ireturn, 1) := by decide +kernel
theorem dX1_isStopped_15 : decode cX1_isStopped 15 = .ok (.aload_n 0, 1) := by decide +kernel
theorem dX1_isStopped_16 : decode cX1_isStopped 16 = .ok (.getfield 34, 3) := by decide +kernel
theorem dX1_isStopped_19 : decode cX1_isStopped 19 = .ok (.iload_n 2, 1) := by decide +kernel
theorem dX1_isStopped_20 : decode cX1_isStopped 20 = .ok (.iaload, 1) := by decide +kernel
theorem dX1_isStopped_21 : decode cX1_isStopped 21 = .ok (.istore 4, 2) := by decide +kernel
theorem dX1_isStopped_23 : decode cX1_isStopped 23 = .ok (.iload 4, 2) := by decide +kernel
theorem dX1_isStopped_25 : decode cX1_isStopped 25 = .ok (.aload_n 0, 1) := by decide +kernel
theorem dX1_isStopped_26 : decode cX1_isStopped 26 = .ok (.getfield 34, 3) := by decide +kernel
theorem dX1_isStopped_29 : decode cX1_isStopped 29 = .ok (.iload_n 2, 1) := by decide +kernel
theorem dX1_isStopped_30 : decode cX1_isStopped 30 = .ok (.iaload, 1) := by decide +kernel
theorem dX1_isStopped_31 : decode cX1_isStopped 31 = .ok (.aload_n 0, 1) := by decide +kernel
theorem dX1_isStopped_32 : decode cX1_isStopped 32 = .ok (.getfield 40, 3) := by decide +kernel
theorem dX1_isStopped_35 : decode cX1_isStopped 35 = .ok (.iload_n 2, 1) := by decide +kernel
theorem dX1_isStopped_36 : decode cX1_isStopped 36 = .ok (.iaload, 1) := by decide +kernel
theorem dX1_isStopped_37 : decode cX1_isStopped 37 = .ok (.iadd, 1) := by decide +kernel
theorem dX1_isStopped_38 : decode cX1_isStopped 38 = .ok (.if_icmp .ge 21, 3) := by decide +kernel
theorem dX1_isStopped_41 : decode cX1_isStopped 41 = .ok (.aload_n 0, 1) := by decide +kernel
theorem dX1_isStopped_42 : decode cX1_isStopped 42 = .ok (.iload_n 3, 1) := by decide +kernel
theorem dX1_isStopped_43 : decode cX1_isStopped 43 = .ok (.iload 4, 2) := by decide +kernel
theorem dX1_isStopped_45 : decode cX1_isStopped 45 = .ok (.invokevirtual 52, 3) := by decide +kernel
theorem dX1_isStopped_48 : decode cX1_isStopped 48 = .ok (.ifCond .eq 5, 3) := by decide +kernel
theorem dX1_isStopped_51 : decode cX1_isStopped 51 = .ok (.iconst 1, 1) := by decide +kernel
theorem dX1_isStopped_52 : decode cX1_isStopped 52 = .ok (.ireturn, 1) := by decide +kernel
theorem dX1_isStopped_53 : decode cX1_isStopped 53 = .ok (.iinc 4 1, 3) := by decide +kernel
theorem dX1_isStopped_56 : decode cX1_isStopped 56 = .ok (.goto (-33), 3) := by decide +kernel
theorem dX1_isStopped_59 : decode cX1_isStopped 59 = .ok (.iconst 0, 1) := by decide +kernel
theorem dX1_isStopped_60 : decode cX1_isStopped 60 = .ok (.ireturn, 1) := by decide +kernel
theorem dX1_pushedBy_0 : decode cX1_pushedBy 0 = .ok (.aload_n 0, 1) := by decide +kernel
theorem dX1_pushedBy_1 : decode cX1_pushedBy 1 = .ok (.iload_n 1, 1) := by decide +kernel
theorem dX1_pushedBy_2 : decode cX1_pushedBy 2 = .ok (.iload_n 2, 1) := by decide +kernel
theorem dX1_pushedBy_3 : decode cX1_pushedBy 3 = .ok (.invokevirtual 63, 3) := by decide +kernel
theorem dX1_pushedBy_6 : decode cX1_pushedBy 6 = .ok (.istore_n 3, 1) := by decide +kernel
theorem dX1_pushedBy_7 : decode cX1_pushedBy 7 = .ok (.iconst 0, 1) := by decide +kernel
theorem dX1_pushedBy_8 : decode cX1_pushedBy 8 = .ok (.istore 4, 2) := by decide +kernel
theorem dX1_pushedBy_10 : decode cX1_pushedBy 10 = .ok (.iconst 0, 1) := by decide +kernel
theorem dX1_pushedBy_11 : decode cX1_pushedBy 11 = .ok (.istore 5, 2) := by decide +kernel
theorem dX1_pushedBy_13 : decode cX1_pushedBy 13 = .ok (.iload 5, 2) := by decide +kernel
theorem dX1_pushedBy_15 : decode cX1_pushedBy 15 = .ok (.aload_n 0, 1) := by decide +kernel
theorem dX1_pushedBy_16 : decode cX1_pushedBy 16 = .ok (.getfield 18, 3) := by decide +kernel
theorem dX1_pushedBy_19 : decode cX1_pushedBy 19 = .ok (.if_icmp .ge 39, 3) := by decide +kernel
theorem dX1_pushedBy_22 : decode cX1_pushedBy 22 = .ok (.aload_n 0, 1) := by decide +kernel
theorem dX1_pushedBy_23 : decode cX1_pushedBy 23 = .ok (.iload_n 1, 1) := by decide +kernel
theorem dX1_pushedBy_24 : decode cX1_pushedBy 24 = .ok (.iload 5, 2) := by decide +kernel
theorem dX1_pushedBy_26 : decode cX1_pushedBy 26 = .ok (.iload_n 3, 1) := by decide +kernel
theorem dX1_pushedBy_27 : decode cX1_pushedBy 27 = .ok (.invokevirtual 87, 3) := by decide +kernel
theorem dX1_pushedBy_30 : decode cX1_pushedBy 30 = .ok (.ifCond .eq 22, 3) := by decide +kernel
theorem dX1_pushedBy_33 : decode cX1_pushedBy 33 = .ok (.aload_n 0, 1) := by decide +kernel
theorem dX1_pushedBy_34 : decode cX1_pushedBy 34 = .ok (.iload_n 2, 1) := by decide +kernel
theorem dX1_pushedBy_35 : decode cX1_pushedBy 35 = .ok (.iload 5, 2) := by decide +kernel
theorem dX1_pushedBy_37 : decode cX1_pushedBy 37 = .ok (.invokevirtual 91, 3) := by decide +kernel
theorem dX1_pushedBy_40 : decode cX1_pushedBy 40 = .ok (.ifCond .eq 12, 3) := by decide +kernel
theorem dX1_pushedBy_43 : decode cX1_pushedBy 43 = .ok (.iload 4, 2) := by decide +kernel
theorem dX1_pushedBy_45 : decode cX1_pushedBy 45 = .ok (.iconst 1, 1) := by decide +kernel
theorem dX1_pushedBy_46 : decode cX1_pushedBy 46 = .ok (.iload 5, 2) := by decide +kernel
theorem dX1_pushedBy_48 : decode cX1_pushedBy 48 = .ok (.ishl, 1) := by decide +kernel
theorem dX1_pushedBy_49 : decode cX1_pushedBy 49 = .ok (.ior, 1) := by decide +kernel
theorem dX1_pushedBy_50 : decode cX1_pushedBy 50 = .ok (.istore 4, 2) := by decide +kernel
theorem dX1_pushedBy_52 : decode cX1_pushedBy 52 = .ok (.iinc 5 1, 3) := by decide +kernel
theorem dX1_pushedBy_55 : decode cX1_pushedBy 55 = .ok (.goto (-42), 3) := by decide +kernel
theorem dX1_pushedBy_58 : decode cX1_pushedBy 58 = .ok (.iload 4, 2) := by decide +kernel
theorem dX1_pushedBy_60 : decode cX1_pushedBy 60 = .ok (.ireturn, 1) := by decide +kernel
theorem dX1_shareRow_0 : decode cX1_shareRow 0 = .ok (.aload_n 0, 1) := by decide +kernel
theorem dX1_shareRow_1 : decode cX1_shareRow 1 = .ok (.getfield 34, 3) := by decide +kernel
theorem dX1_shareRow_4 : decode cX1_shareRow 4 = .ok (.iload_n 1, 1) := by decide +kernel
theorem dX1_shareRow_5 : decode cX1_shareRow 5 = .ok (.iaload, 1) := by decide +kernel
theorem dX1_shareRow_6 : decode cX1_shareRow 6 = .ok (.aload_n 0, 1) := by decide +kernel
theorem dX1_shareRow_7 : decode cX1_shareRow 7 = .ok (.getfield 34, 3) := by decide +kernel
theorem dX1_shareRow_10 : decode cX1_shareRow 10 = .ok (.iload_n 2, 1) := by decide +kernel
theorem dX1_shareRow_11 : decode cX1_shareRow 11 = .ok (.iaload, 1) := by decide +kernel
theorem dX1_shareRow_12 : decode cX1_shareRow 12 = .ok (.aload_n 0, 1) := by decide +kernel
theorem dX1_shareRow_13 : decode cX1_shareRow 13 = .ok (.getfield 40, 3) := by decide +kernel
theorem dX1_shareRow_16 : decode cX1_shareRow 16 = .ok (.iload_n 2, 1) := by decide +kernel
theorem dX1_shareRow_17 : decode cX1_shareRow 17 = .ok (.iaload, 1) := by decide +kernel
theorem dX1_shareRow_18 : decode cX1_shareRow 18 = .ok (.iadd, 1) := by decide +kernel
theorem dX1_shareRow_19 : decode cX1_shareRow 19 = .ok (.if_icmp .ge 29, 3) := by decide +kernel
theorem dX1_shareRow_22 : decode cX1_shareRow 22 = .ok (.aload_n 0, 1) := by decide +kernel
theorem dX1_shareRow_23 : decode cX1_shareRow 23 = .ok (.getfield 34, 3) := by decide +kernel
theorem dX1_shareRow_26 : decode cX1_shareRow 26 = .ok (.iload_n 2, 1) := by decide +kernel
theorem dX1_shareRow_27 : decode cX1_shareRow 27 = .ok (.iaload, 1) := by decide +kernel
theorem dX1_shareRow_28 : decode cX1_shareRow 28 = .ok (.aload_n 0, 1) := by decide +kernel
theorem dX1_shareRow_29 : decode cX1_shareRow 29 = .ok (.getfield 34, 3) := by decide +kernel
theorem dX1_shareRow_32 : decode cX1_shareRow 32 = .ok (.iload_n 1, 1) := by decide +kernel
theorem dX1_shareRow_33 : decode cX1_shareRow 33 = .ok (.iaload, 1) := by decide +kernel
theorem dX1_shareRow_34 : decode cX1_shareRow 34 = .ok (.aload_n 0, 1) := by decide +kernel
theorem dX1_shareRow_35 : decode cX1_shareRow 35 = .ok (.getfield 40, 3) := by decide +kernel
theorem dX1_shareRow_38 : decode cX1_shareRow 38 = .ok (.iload_n 1, 1) := by decide +kernel
theorem dX1_shareRow_39 : decode cX1_shareRow 39 = .ok (.iaload, 1) := by decide +kernel
theorem dX1_shareRow_40 : decode cX1_shareRow 40 = .ok (.iadd, 1) := by decide +kernel
theorem dX1_shareRow_41 : decode cX1_shareRow 41 = .ok (.if_icmp .ge 7, 3) := by decide +kernel
theorem dX1_shareRow_44 : decode cX1_shareRow 44 = .ok (.iconst 1, 1) := by decide +kernel
theorem dX1_shareRow_45 : decode cX1_shareRow 45 = .ok (.goto 4, 3) := by decide +kernel
theorem dX1_shareRow_48 : decode cX1_shareRow 48 = .ok (.iconst 0, 1) := by decide +kernel
theorem dX1_shareRow_49 : decode cX1_shareRow 49 = .ok (.ireturn, 1) := by decide +kernel
theorem dX1_afterSlide_0 : decode cX1_afterSlide 0 = .ok (.iload_n 1, 1) := by decide +kernel
theorem dX1_afterSlide_1 : decode cX1_afterSlide 1 = .ok (.istore_n 3, 1) := by decide +kernel
theorem dX1_afterSlide_2 : decode cX1_afterSlide 2 = .ok (.iconst 0, 1) := by decide +kernel
theorem dX1_afterSlide_3 : decode cX1_afterSlide 3 = .ok (.istore 4, 2) := by decide +kernel
theorem dX1_afterSlide_5 : decode cX1_afterSlide 5 = .ok (.iload 4, 2) := by decide +kernel
theorem dX1_afterSlide_7 : decode cX1_afterSlide 7 = .ok (.aload_n 0, 1) := by decide +kernel
theorem dX1_afterSlide_8 : decode cX1_afterSlide 8 = .ok (.getfield 18, 3) := by decide +kernel
theorem dX1_afterSlide_11 : decode cX1_afterSlide 11 = .ok (.if_icmp .ge 23, 3) := by decide +kernel
theorem dX1_afterSlide_14 : decode cX1_afterSlide 14 = .ok (.iload_n 3, 1) := by decide +kernel
theorem dX1_afterSlide_15 : decode cX1_afterSlide 15 = .ok (.iload_n 2, 1) := by decide +kernel
theorem dX1_afterSlide_16 : decode cX1_afterSlide 16 = .ok (.iload 4, 2) := by decide +kernel
theorem dX1_afterSlide_18 : decode cX1_afterSlide 18 = .ok (.ishr, 1) := by decide +kernel
theorem dX1_afterSlide_19 : decode cX1_afterSlide 19 = .ok (.iconst 1, 1) := by decide +kernel
theorem dX1_afterSlide_20 : decode cX1_afterSlide 20 = .ok (.iand, 1) := by decide +kernel
theorem dX1_afterSlide_21 : decode cX1_afterSlide 21 = .ok (.iconst 4, 1) := by decide +kernel
theorem dX1_afterSlide_22 : decode cX1_afterSlide 22 = .ok (.iload 4, 2) := by decide +kernel
theorem dX1_afterSlide_24 : decode cX1_afterSlide 24 = .ok (.imul, 1) := by decide +kernel
theorem dX1_afterSlide_25 : decode cX1_afterSlide 25 = .ok (.ishl, 1) := by decide +kernel
theorem dX1_afterSlide_26 : decode cX1_afterSlide 26 = .ok (.iadd, 1) := by decide +kernel
theorem dX1_afterSlide_27 : decode cX1_afterSlide 27 = .ok (.istore_n 3, 1) := by decide +kernel
theorem dX1_afterSlide_28 : decode cX1_afterSlide 28 = .ok (.iinc 4 1, 3) := by decide +kernel
theorem dX1_afterSlide_31 : decode cX1_afterSlide 31 = .ok (.goto (-26), 3) := by decide +kernel
theorem dX1_afterSlide_34 : decode cX1_afterSlide 34 = .ok (.iload_n 3, 1) := by decide +kernel
theorem dX1_afterSlide_35 : decode cX1_afterSlide 35 = .ok (.ireturn, 1) := by decide +kernel
theorem dX2_init_0 : decode cX2_init 0 = .ok (.aload_n 0, 1) := by decide +kernel
theorem dX2_init_1 : decode cX2_init 1 = .ok (.invokespecial 3, 3) := by decide +kernel
theorem dX2_init_4 : decode cX2_init 4 = .ok (.aload_n 0, 1) := by decide +kernel
theorem dX2_init_5 : decode cX2_init 5 = .ok (.sipush 256, 3) := by decide +kernel
theorem dX2_init_8 : decode cX2_init 8 = .ok (.newarray .int, 2) := by decide +kernel
theorem dX2_init_10 : decode cX2_init 10 = .ok (.putfield 11, 3) := by decide +kernel
theorem dX2_init_13 : decode cX2_init 13 = .ok (.aload_n 0, 1) := by decide +kernel
theorem dX2_init_14 : decode cX2_init 14 = .ok (.sipush 256, 3) := by decide +kernel
theorem dX2_init_17 : decode cX2_init 17 = .ok (.newarray .int, 2) := by decide +kernel
theorem dX2_init_19 : decode cX2_init 19 = .ok (.putfield 15, 3) := by decide +kernel
theorem dX2_init_22 : decode cX2_init 22 = .ok (.aload_n 0, 1) := by decide +kernel
theorem dX2_init_23 : decode cX2_init 23 = .ok (.iconst 0, 1) := by decide +kernel
theorem dX2_init_24 : decode cX2_init 24 = .ok (.putfield 18, 3) := by decide +kernel
theorem dX2_init_27 : decode cX2_init 27 = .ok (.aload_n 0, 1) := by decide +kernel
theorem dX2_init_28 : decode cX2_init 28 = .ok (.iconst 4, 1) := by decide +kernel
theorem dX2_init_29 : decode cX2_init 29 = .ok (.newarray .int, 2) := by decide +kernel
theorem dX2_init_31 : decode cX2_init 31 = .ok (.putfield 22, 3) := by decide +kernel
theorem dX2_init_34 : decode cX2_init 34 = .ok (.return_, 1) := by decide +kernel
theorem dX2_beginAt_0 : decode cX2_beginAt 0 = .ok (.aload_n 0, 1) := by decide +kernel
theorem dX2_beginAt_1 : decode cX2_beginAt 1 = .ok (.getfield 11, 3) := by decide +kernel
theorem dX2_beginAt_4 : decode cX2_beginAt 4 = .ok (.iconst 0, 1) := by decide +kernel
theorem dX2_beginAt_5 : decode cX2_beginAt 5 = .ok (.iload_n 1, 1) := by decide +kernel
theorem dX2_beginAt_6 : decode cX2_beginAt 6 = .ok (.iastore, 1) := by decide +kernel
theorem dX2_beginAt_7 : decode cX2_beginAt 7 = .ok (.return_, 1) := by decide +kernel
theorem dX2_addSaying_0 : decode cX2_addSaying 0 = .ok (.iconst 1, 1) := by decide +kernel
theorem dX2_addSaying_1 : decode cX2_addSaying 1 = .ok (.iload_n 3, 1) := by decide +kernel
theorem dX2_addSaying_2 : decode cX2_addSaying 2 = .ok (.ishl, 1) := by decide +kernel
theorem dX2_addSaying_3 : decode cX2_addSaying 3 = .ok (.istore 4, 2) := by decide +kernel
theorem dX2_addSaying_5 : decode cX2_addSaying 5 = .ok (.iconst 0, 1) := by decide +kernel
theorem dX2_addSaying_6 : decode cX2_addSaying 6 = .ok (.istore 5, 2) := by decide +kernel
theorem dX2_addSaying_8 : decode cX2_addSaying 8 = .ok (.iload 5, 2) := by decide +kernel
theorem dX2_addSaying_10 : decode cX2_addSaying 10 = .ok (.iload 4, 2) := by decide +kernel
theorem dX2_addSaying_12 : decode cX2_addSaying 12 = .ok (.if_icmp .ge 41, 3) := by decide +kernel
theorem dX2_addSaying_15 : decode cX2_addSaying 15 = .ok (.aload_n 0, 1) := by decide +kernel
theorem dX2_addSaying_16 : decode cX2_addSaying 16 = .ok (.getfield 11, 3) := by decide +kernel
theorem dX2_addSaying_19 : decode cX2_addSaying 19 = .ok (.iload 5, 2) := by decide +kernel
theorem dX2_addSaying_21 : decode cX2_addSaying 21 = .ok (.iaload, 1) := by decide +kernel
theorem dX2_addSaying_22 : decode cX2_addSaying 22 = .ok (.istore 6, 2) := by decide +kernel
theorem dX2_addSaying_24 : decode cX2_addSaying 24 = .ok (.aload_n 0, 1) := by decide +kernel
theorem dX2_addSaying_25 : decode cX2_addSaying 25 = .ok (.getfield 11, 3) := by decide +kernel
theorem dX2_addSaying_28 : decode cX2_addSaying 28 = .ok (.iload 5, 2) := by decide +kernel
theorem dX2_addSaying_30 : decode cX2_addSaying 30 = .ok (.iload 4, 2) := by decide +kernel
theorem dX2_addSaying_32 : decode cX2_addSaying 32 = .ok (.iadd, 1) := by decide +kernel
theorem dX2_addSaying_33 : decode cX2_addSaying 33 = .ok (.aload_n 1, 1) := by decide +kernel
theorem dX2_addSaying_34 : decode cX2_addSaying 34 = .ok (.iload 6, 2) := by decide +kernel
theorem dX2_addSaying_36 : decode cX2_addSaying 36 = .ok (.aload_n 1, 1) := by decide +kernel
theorem dX2_addSaying_37 : decode cX2_addSaying 37 = .ok (.iload 6, 2) := by decide +kernel
theorem dX2_addSaying_39 : decode cX2_addSaying 39 = .ok (.iload_n 2, 1) := by decide +kernel
theorem dX2_addSaying_40 : decode cX2_addSaying 40 = .ok (.invokevirtual 25, 3) := by decide +kernel
theorem dX2_addSaying_43 : decode cX2_addSaying 43 = .ok (.invokevirtual 31, 3) := by decide +kernel
theorem dX2_addSaying_46 : decode cX2_addSaying 46 = .ok (.iastore, 1) := by decide +kernel
theorem dX2_addSaying_47 : decode cX2_addSaying 47 = .ok (.iinc 5 1, 3) := by decide +kernel
theorem dX2_addSaying_50 : decode cX2_addSaying 50 = .ok (.goto (-42), 3) := by decide +kernel
theorem dX2_addSaying_53 : decode cX2_addSaying 53 = .ok (.return_, 1) := by decide +kernel
theorem dX2_keepFitting_0 : decode cX2_keepFitting 0 = .ok (.aload_n 0, 1) := by decide +kernel
theorem dX2_keepFitting_1 : decode cX2_keepFitting 1 = .ok (.iconst 0, 1) := by decide +kernel
theorem dX2_keepFitting_2 : decode cX2_keepFitting 2 = .ok (.putfield 18, 3) := by decide +kernel
theorem dX2_keepFitting_5 : decode cX2_keepFitting 5 = .ok (.iconst 0, 1) := by decide +kernel
theorem dX2_keepFitting_6 : decode cX2_keepFitting 6 = .ok (.istore_n 3, 1) := by decide +kernel
theorem dX2_keepFitting_7 : decode cX2_keepFitting 7 = .ok (.iload_n 3, 1) := by decide +kernel
theorem dX2_keepFitting_8 : decode cX2_keepFitting 8 = .ok (.iconst 1, 1) := by decide +kernel
theorem dX2_keepFitting_9 : decode cX2_keepFitting 9 = .ok (.iload_n 1, 1) := by decide +kernel
theorem dX2_keepFitting_10 : decode cX2_keepFitting 10 = .ok (.ishl, 1) := by decide +kernel
theorem dX2_keepFitting_11 : decode cX2_keepFitting 11 = .ok (.if_icmp .ge 39, 3) := by decide +kernel
theorem dX2_keepFitting_14 : decode cX2_keepFitting 14 = .ok (.aload_n 0, 1) := by decide +kernel
theorem dX2_keepFitting_15 : decode cX2_keepFitting 15 = .ok (.getfield 11, 3) := by decide +kernel
theorem dX2_keepFitting_18 : decode cX2_keepFitting 18 = .ok (.iload_n 3, 1) := by decide +kernel
theorem dX2_keepFitting_19 : decode cX2_keepFitting 19 = .ok (.iaload, 1) := by decide +kernel
theorem dX2_keepFitting_20 : decode cX2_keepFitting 20 = .ok (.iload_n 2, 1) := by decide +kernel
theorem dX2_keepFitting_21 : decode cX2_keepFitting 21 = .ok (.if_icmp .ne 23, 3) := by decide +kernel
theorem dX2_keepFitting_24 : decode cX2_keepFitting 24 = .ok (.aload_n 0, 1) := by decide +kernel
theorem dX2_keepFitting_25 : decode cX2_keepFitting 25 = .ok (.getfield 15, 3) := by decide +kernel
theorem dX2_keepFitting_28 : decode cX2_keepFitting 28 = .ok (.aload_n 0, 1) := by decide +kernel
theorem dX2_keepFitting_29 : decode cX2_keepFitting 29 = .ok (.getfield 18, 3) := by decide +kernel
theorem dX2_keepFitting_32 : decode cX2_keepFitting 32 = .ok (.iload_n 3, 1) := by decide +kernel
theorem dX2_keepFitting_33 : decode cX2_keepFitting 33 = .ok (.iastore, 1) := by decide +kernel
theorem dX2_keepFitting_34 : decode cX2_keepFitting 34 = .ok (.aload_n 0, 1) := by decide +kernel
theorem dX2_keepFitting_35 : decode cX2_keepFitting 35 = .ok (.dup, 1) := by decide +kernel
theorem dX2_keepFitting_36 : decode cX2_keepFitting 36 = .ok (.getfield 18, 3) := by decide +kernel
theorem dX2_keepFitting_39 : decode cX2_keepFitting 39 = .ok (.iconst 1, 1) := by decide +kernel
theorem dX2_keepFitting_40 : decode cX2_keepFitting 40 = .ok (.iadd, 1) := by decide +kernel
theorem dX2_keepFitting_41 : decode cX2_keepFitting 41 = .ok (.putfield 18, 3) := by decide +kernel
theorem dX2_keepFitting_44 : decode cX2_keepFitting 44 = .ok (.iinc 3 1, 3) := by decide +kernel
theorem dX2_keepFitting_47 : decode cX2_keepFitting 47 = .ok (.goto (-40), 3) := by decide +kernel
theorem dX2_keepFitting_50 : decode cX2_keepFitting 50 = .ok (.return_, 1) := by decide +kernel
theorem dX2_fitting_0 : decode cX2_fitting 0 = .ok (.aload_n 0, 1) := by decide +kernel
theorem dX2_fitting_1 : decode cX2_fitting 1 = .ok (.getfield 18, 3) := by decide +kernel
theorem dX2_fitting_4 : decode cX2_fitting 4 = .ok (.ireturn, 1) := by decide +kernel
theorem dX2_fittingSet_0 : decode cX2_fittingSet 0 = .ok (.iload_n 1, 1) := by decide +kernel
theorem dX2_fittingSet_1 : decode cX2_fittingSet 1 = .ok (.ifCond .lt 20, 3) := by decide +kernel
theorem dX2_fittingSet_4 : decode cX2_fittingSet 4 = .ok (.iload_n 1, 1) := by decide +kernel
theorem dX2_fittingSet_5 : decode cX2_fittingSet 5 = .ok (.aload_n 0, 1) := by decide +kernel
theorem dX2_fittingSet_6 : decode cX2_fittingSet 6 = .ok (.getfield 18, 3) := by decide +kernel
theorem dX2_fittingSet_9 : decode cX2_fittingSet 9 = .ok (.if_icmp .ge 12, 3) := by decide +kernel
theorem dX2_fittingSet_12 : decode cX2_fittingSet 12 = .ok (.aload_n 0, 1) := by decide +kernel
theorem dX2_fittingSet_13 : decode cX2_fittingSet 13 = .ok (.getfield 15, 3) := by decide +kernel
theorem dX2_fittingSet_16 : decode cX2_fittingSet 16 = .ok (.iload_n 1, 1) := by decide +kernel
theorem dX2_fittingSet_17 : decode cX2_fittingSet 17 = .ok (.iaload, 1) := by decide +kernel
theorem dX2_fittingSet_18 : decode cX2_fittingSet 18 = .ok (.goto 5, 3) := by decide +kernel
theorem dX2_fittingSet_21 : decode cX2_fittingSet 21 = .ok (.ldc 34, 2) := by decide +kernel
theorem dX2_fittingSet_23 : decode cX2_fittingSet 23 = .ok (.ireturn, 1) := by decide +kernel
theorem dX2_fewestLies_0 : decode cX2_fewestLies 0 = .ok (.ldc 34, 2) := by decide +kernel
theorem dX2_fewestLies_2 : decode cX2_fewestLies 2 = .ok (.istore_n 1, 1) := by decide +kernel
theorem dX2_fewestLies_3 : decode cX2_fewestLies 3 = .ok (.iconst 0, 1) := by decide +kernel
theorem dX2_fewestLies_4 : decode cX2_fewestLies 4 = .ok (.istore_n 2, 1) := by decide +kernel
theorem dX2_fewestLies_5 : decode cX2_fewestLies 5 = .ok (.iload_n 2, 1) := by decide +kernel
theorem dX2_fewestLies_6 : decode cX2_fewestLies 6 = .ok (.aload_n 0, 1) := by decide +kernel
theorem dX2_fewestLies_7 : decode cX2_fewestLies 7 = .ok (.getfield 18, 3) := by decide +kernel
theorem dX2_fewestLies_10 : decode cX2_fewestLies 10 = .ok (.if_icmp .ge 38, 3) := by decide +kernel
theorem dX2_fewestLies_13 : decode cX2_fewestLies 13 = .ok (.iload_n 1, 1) := by decide +kernel
theorem dX2_fewestLies_14 : decode cX2_fewestLies 14 = .ok (.ldc 34, 2) := by decide +kernel
theorem dX2_fewestLies_16 : decode cX2_fewestLies 16 = .ok (.if_icmp .eq 19, 3) := by decide +kernel
theorem dX2_fewestLies_19 : decode cX2_fewestLies 19 = .ok (.aload_n 0, 1) := by decide +kernel
theorem dX2_fewestLies_20 : decode cX2_fewestLies 20 = .ok (.getfield 15, 3) := by decide +kernel
theorem dX2_fewestLies_23 : decode cX2_fewestLies 23 = .ok (.iload_n 2, 1) := by decide +kernel
theorem dX2_fewestLies_24 : decode cX2_fewestLies 24 = .ok (.iaload, 1) := by decide +kernel
theorem dX2_fewestLies_25 : decode cX2_fewestLies 25 = .ok (.invokestatic 35, 3) := by decide +kernel
theorem dX2_fewestLies_28 : decode cX2_fewestLies 28 = .ok (.iload_n 1, 1) := by decide +kernel
theorem dX2_fewestLies_29 : decode cX2_fewestLies 29 = .ok (.invokestatic 35, 3) := by decide +kernel
theorem dX2_fewestLies_32 : decode cX2_fewestLies 32 = .ok (.if_icmp .ge 10, 3) := by decide +kernel
theorem dX2_fewestLies_35 : decode cX2_fewestLies 35 = .ok (.aload_n 0, 1) := by decide +kernel
theorem dX2_fewestLies_36 : decode cX2_fewestLies 36 = .ok (.getfield 15, 3) := by decide +kernel
theorem dX2_fewestLies_39 : decode cX2_fewestLies 39 = .ok (.iload_n 2, 1) := by decide +kernel
theorem dX2_fewestLies_40 : decode cX2_fewestLies 40 = .ok (.iaload, 1) := by decide +kernel
theorem dX2_fewestLies_41 : decode cX2_fewestLies 41 = .ok (.istore_n 1, 1) := by decide +kernel
theorem dX2_fewestLies_42 : decode cX2_fewestLies 42 = .ok (.iinc 2 1, 3) := by decide +kernel
theorem dX2_fewestLies_45 : decode cX2_fewestLies 45 = .ok (.goto (-40), 3) := by decide +kernel
theorem dX2_fewestLies_48 : decode cX2_fewestLies 48 = .ok (.iload_n 1, 1) := by decide +kernel
theorem dX2_fewestLies_49 : decode cX2_fewestLies 49 = .ok (.ireturn, 1) := by decide +kernel
theorem dX2_sureLies_0 : decode cX2_sureLies 0 = .ok (.sipush 255, 3) := by decide +kernel
theorem dX2_sureLies_3 : decode cX2_sureLies 3 = .ok (.istore_n 1, 1) := by decide +kernel
theorem dX2_sureLies_4 : decode cX2_sureLies 4 = .ok (.iconst 0, 1) := by decide +kernel
theorem dX2_sureLies_5 : decode cX2_sureLies 5 = .ok (.istore_n 2, 1) := by decide +kernel
theorem dX2_sureLies_6 : decode cX2_sureLies 6 = .ok (.iload_n 2, 1) := by decide +kernel
theorem dX2_sureLies_7 : decode cX2_sureLies 7 = .ok (.aload_n 0, 1) := by decide +kernel
theorem dX2_sureLies_8 : decode cX2_sureLies 8 = .ok (.getfield 18, 3) := by decide +kernel
theorem dX2_sureLies_11 : decode cX2_sureLies 11 = .ok (.if_icmp .ge 18, 3) := by decide +kernel
theorem dX2_sureLies_14 : decode cX2_sureLies 14 = .ok (.iload_n 1, 1) := by decide +kernel
theorem dX2_sureLies_15 : decode cX2_sureLies 15 = .ok (.aload_n 0, 1) := by decide +kernel
theorem dX2_sureLies_16 : decode cX2_sureLies 16 = .ok (.getfield 15, 3) := by decide +kernel
theorem dX2_sureLies_19 : decode cX2_sureLies 19 = .ok (.iload_n 2, 1) := by decide +kernel
theorem dX2_sureLies_20 : decode cX2_sureLies 20 = .ok (.iaload, 1) := by decide +kernel
theorem dX2_sureLies_21 : decode cX2_sureLies 21 = .ok (.iand, 1) := by decide +kernel
theorem dX2_sureLies_22 : decode cX2_sureLies 22 = .ok (.istore_n 1, 1) := by decide +kernel
theorem dX2_sureLies_23 : decode cX2_sureLies 23 = .ok (.iinc 2 1, 3) := by decide +kernel
theorem dX2_sureLies_26 : decode cX2_sureLies 26 = .ok (.goto (-20), 3) := by decide +kernel
theorem dX2_sureLies_29 : decode cX2_sureLies 29 = .ok (.aload_n 0, 1) := by decide +kernel
theorem dX2_sureLies_30 : decode cX2_sureLies 30 = .ok (.getfield 18, 3) := by decide +kernel
theorem dX2_sureLies_33 : decode cX2_sureLies 33 = .ok (.ifCond .ne 8, 3) := by decide +kernel
theorem dX2_sureLies_36 : decode cX2_sureLies 36 = .ok (.ldc 34, 2) := by decide +kernel
theorem dX2_sureLies_38 : decode cX2_sureLies 38 = .ok (.goto 4, 3) := by decide +kernel
theorem dX2_sureLies_41 : decode cX2_sureLies 41 = .ok (.iload_n 1, 1) := by decide +kernel
theorem dX2_sureLies_42 : decode cX2_sureLies 42 = .ok (.ireturn, 1) := by decide +kernel
theorem dX2_bestQuestion_0 : decode cX2_bestQuestion 0 = .ok (.ldc 34, 2) := by decide +kernel
theorem dX2_bestQuestion_2 : decode cX2_bestQuestion 2 = .ok (.istore_n 2, 1) := by decide +kernel
theorem dX2_bestQuestion_3 : decode cX2_bestQuestion 3 = .ok (.aload_n 0, 1) := by decide +kernel
theorem dX2_bestQuestion_4 : decode cX2_bestQuestion 4 = .ok (.getfield 18, 3) := by decide +kernel
theorem dX2_bestQuestion_7 : decode cX2_bestQuestion 7 = .ok (.istore_n 3, 1) := by decide +kernel
theorem dX2_bestQuestion_8 : decode cX2_bestQuestion 8 = .ok (.iconst 0, 1) := by decide +kernel
theorem dX2_bestQuestion_9 : decode cX2_bestQuestion 9 = .ok (.istore 4, 2) := by decide +kernel
theorem dX2_bestQuestion_11 : decode cX2_bestQuestion 11 = .ok (.iload 4, 2) := by decide +kernel
theorem dX2_bestQuestion_13 : decode cX2_bestQuestion 13 = .ok (.iload_n 1, 1) := by decide +kernel
theorem dX2_bestQuestion_14 : decode cX2_bestQuestion 14 = .ok (.if_icmp .ge 73, 3) := by decide +kernel
theorem dX2_bestQuestion_17 : decode cX2_bestQuestion 17 = .ok (.iconst 0, 1) := by decide +kernel
theorem dX2_bestQuestion_18 : decode cX2_bestQuestion 18 = .ok (.istore 5, 2) := by decide +kernel
theorem dX2_bestQuestion_20 : decode cX2_bestQuestion 20 = .ok (.iconst 0, 1) := by decide +kernel
theorem dX2_bestQuestion_21 : decode cX2_bestQuestion 21 = .ok (.istore 6, 2) := by decide +kernel
theorem dX2_bestQuestion_23 : decode cX2_bestQuestion 23 = .ok (.iload 6, 2) := by decide +kernel
theorem dX2_bestQuestion_25 : decode cX2_bestQuestion 25 = .ok (.aload_n 0, 1) := by decide +kernel
theorem dX2_bestQuestion_26 : decode cX2_bestQuestion 26 = .ok (.getfield 18, 3) := by decide +kernel
theorem dX2_bestQuestion_29 : decode cX2_bestQuestion 29 = .ok (.if_icmp .ge 26, 3) := by decide +kernel
theorem dX2_bestQuestion_32 : decode cX2_bestQuestion 32 = .ok (.iload 5, 2) := by decide +kernel
theorem dX2_bestQuestion_34 : decode cX2_bestQuestion 34 = .ok (.aload_n 0, 1) := by decide +kernel
theorem dX2_bestQuestion_35 : decode cX2_bestQuestion 35 = .ok (.getfield 15, 3) := by decide +kernel
theorem dX2_bestQuestion_38 : decode cX2_bestQuestion 38 = .ok (.iload 6, 2) := by decide +kernel
theorem dX2_bestQuestion_40 : decode cX2_bestQuestion 40 = .ok (.iaload, 1) := by decide +kernel
theorem dX2_bestQuestion_41 : decode cX2_bestQuestion 41 = .ok (.iload 4, 2) := by decide +kernel
theorem dX2_bestQuestion_43 : decode cX2_bestQuestion 43 = .ok (.ishr, 1) := by decide +kernel
theorem dX2_bestQuestion_44 : decode cX2_bestQuestion 44 = .ok (.iconst 1, 1) := by decide +kernel
theorem dX2_bestQuestion_45 : decode cX2_bestQuestion 45 = .ok (.iand, 1) := by decide +kernel
theorem dX2_bestQuestion_46 : decode cX2_bestQuestion 46 = .ok (.iadd, 1) := by decide +kernel
theorem dX2_bestQuestion_47 : decode cX2_bestQuestion 47 = .ok (.istore 5, 2) := by decide +kernel
theorem dX2_bestQuestion_49 : decode cX2_bestQuestion 49 = .ok (.iinc 6 1, 3) := by decide +kernel
theorem dX2_bestQuestion_52 : decode cX2_bestQuestion 52 = .ok (.goto (-29), 3) := by decide +kernel
theorem dX2_bestQuestion_55 : decode cX2_bestQuestion 55 = .ok (.iload 5, 2) := by decide +kernel
theorem dX2_bestQuestion_57 : decode cX2_bestQuestion 57 = .ok (.aload_n 0, 1) := by decide +kernel
theorem dX2_bestQuestion_58 : decode cX2_bestQuestion 58 = .ok (.getfield 18, 3) := by decide +kernel
theorem dX2_bestQuestion_61 : decode cX2_bestQuestion 61 = .ok (.iload 5, 2) := by decide +kernel
theorem dX2_bestQuestion_63 : decode cX2_bestQuestion 63 = .ok (.isub, 1) := by decide +kernel
theorem dX2_bestQuestion_64 : decode cX2_bestQuestion 64 = .ok (.invokestatic 41, 3) := by decide +kernel
theorem dX2_bestQuestion_67 : decode cX2_bestQuestion 67 = .ok (.istore 6, 2) := by decide +kernel
theorem dX2_bestQuestion_69 : decode cX2_bestQuestion 69 = .ok (.iload 6, 2) := by decide +kernel
theorem dX2_bestQuestion_71 : decode cX2_bestQuestion 71 = .ok (.iload_n 3, 1) := by decide +kernel
theorem dX2_bestQuestion_72 : decode cX2_bestQuestion 72 = .ok (.if_icmp .ge 9, 3) := by decide +kernel
theorem dX2_bestQuestion_75 : decode cX2_bestQuestion 75 = .ok (.iload 6, 2) := by decide +kernel
theorem dX2_bestQuestion_77 : decode cX2_bestQuestion 77 = .ok (.istore_n 3, 1) := by decide +kernel
theorem dX2_bestQuestion_78 : decode cX2_bestQuestion 78 = .ok (.iload 4, 2) := by decide +kernel
theorem dX2_bestQuestion_80 : decode cX2_bestQuestion 80 = .ok (.istore_n 2, 1) := by decide +kernel
theorem dX2_bestQuestion_81 : decode cX2_bestQuestion 81 = .ok (.iinc 4 1, 3) := by decide +kernel
theorem dX2_bestQuestion_84 : decode cX2_bestQuestion 84 = .ok (.goto (-73), 3) := by decide +kernel
theorem dX2_bestQuestion_87 : decode cX2_bestQuestion 87 = .ok (.iload_n 2, 1) := by decide +kernel
theorem dX2_bestQuestion_88 : decode cX2_bestQuestion 88 = .ok (.ireturn, 1) := by decide +kernel
theorem dX2_findLiars_0 : decode cX2_findLiars 0 = .ok (.iconst 0, 1) := by decide +kernel
theorem dX2_findLiars_1 : decode cX2_findLiars 1 = .ok (.istore 4, 2) := by decide +kernel
theorem dX2_findLiars_3 : decode cX2_findLiars 3 = .ok (.iload 4, 2) := by decide +kernel
theorem dX2_findLiars_5 : decode cX2_findLiars 5 = .ok (.iconst 4, 1) := by decide +kernel
theorem dX2_findLiars_6 : decode cX2_findLiars 6 = .ok (.if_icmp .gt 29, 3) := by decide +kernel
theorem dX2_findLiars_9 : decode cX2_findLiars 9 = .ok (.aload_n 0, 1) := by decide +kernel
theorem dX2_findLiars_10 : decode cX2_findLiars 10 = .ok (.aload_n 1, 1) := by decide +kernel
theorem dX2_findLiars_11 : decode cX2_findLiars 11 = .ok (.aload_n 1, 1) := by decide +kernel
theorem dX2_findLiars_12 : decode cX2_findLiars 12 = .ok (.getfield 46, 3) := by decide +kernel
theorem dX2_findLiars_15 : decode cX2_findLiars 15 = .ok (.iload_n 2, 1) := by decide +kernel
theorem dX2_findLiars_16 : decode cX2_findLiars 16 = .ok (.iload_n 3, 1) := by decide +kernel
theorem dX2_findLiars_17 : decode cX2_findLiars 17 = .ok (.iload 4, 2) := by decide +kernel
theorem dX2_findLiars_19 : decode cX2_findLiars 19 = .ok (.iconst 0, 1) := by decide +kernel
theorem dX2_findLiars_20 : decode cX2_findLiars 20 = .ok (.invokevirtual 49, 3) := by decide +kernel
theorem dX2_findLiars_23 : decode cX2_findLiars 23 = .ok (.ifCond .eq 6, 3) := by decide +kernel
theorem dX2_findLiars_26 : decode cX2_findLiars 26 = .ok (.iload 4, 2) := by decide +kernel
theorem dX2_findLiars_28 : decode cX2_findLiars 28 = .ok (.ireturn, 1) := by decide +kernel
theorem dX2_findLiars_29 : decode cX2_findLiars 29 = .ok (.iinc 4 1, 3) := by decide +kernel
theorem dX2_findLiars_32 : decode cX2_findLiars 32 = .ok (.goto (-29), 3) := by decide +kernel
theorem dX2_findLiars_35 : decode cX2_findLiars 35 = .ok (.ldc 34, 2) := by decide +kernel
theorem dX2_findLiars_37 : decode cX2_findLiars 37 = .ok (.ireturn, 1) := by decide +kernel
theorem dX2_canReach_0 : decode cX2_canReach 0 = .ok (.iload 4, 2) := by decide +kernel
theorem dX2_canReach_2 : decode cX2_canReach 2 = .ok (.aload_n 1, 1) := by decide +kernel
theorem dX2_canReach_3 : decode cX2_canReach 3 = .ok (.iload_n 2, 1) := by decide +kernel
theorem dX2_canReach_4 : decode cX2_canReach 4 = .ok (.iload_n 3, 1) := by decide +kernel
theorem dX2_canReach_5 : decode cX2_canReach 5 = .ok (.invokevirtual 53, 3) := by decide +kernel
theorem dX2_canReach_8 : decode cX2_canReach 8 = .ok (.isub, 1) := by decide +kernel
theorem dX2_canReach_9 : decode cX2_canReach 9 = .ok (.istore 7, 2) := by decide +kernel
theorem dX2_canReach_11 : decode cX2_canReach 11 = .ok (.iload 7, 2) := by decide +kernel
theorem dX2_canReach_13 : decode cX2_canReach 13 = .ok (.ifCond .gt 5, 3) := by decide +kernel
theorem dX2_canReach_16 : decode cX2_canReach 16 = .ok (.iconst 1, 1) := by decide +kernel
theorem dX2_canReach_17 : decode cX2_canReach 17 = .ok (.ireturn, 1) := by decide +kernel
theorem dX2_canReach_18 : decode cX2_canReach 18 = .ok (.iload 7, 2) := by decide +kernel
theorem dX2_canReach_20 : decode cX2_canReach 20 = .ok (.iload 5, 2) := by decide +kernel
theorem dX2_canReach_22 : decode cX2_canReach 22 = .ok (.if_icmp .gt 9, 3) := by decide +kernel
theorem dX2_canReach_25 : decode cX2_canReach 25 = .ok (.iload 6, 2) := by decide +kernel
theorem dX2_canReach_27 : decode cX2_canReach 27 = .ok (.iconst 4, 1) := by decide +kernel
theorem dX2_canReach_28 : decode cX2_canReach 28 = .ok (.if_icmp .lt 5, 3) := by decide +kernel
theorem dX2_canReach_31 : decode cX2_canReach 31 = .ok (.iconst 0, 1) := by decide +kernel
theorem dX2_canReach_32 : decode cX2_canReach 32 = .ok (.ireturn, 1) := by decide +kernel
theorem dX2_canReach_33 : decode cX2_canReach 33 = .ok (.iconst 0, 1) := by decide +kernel
theorem dX2_canReach_34 : decode cX2_canReach 34 = .ok (.istore 8, 2) := by decide +kernel
theorem dX2_canReach_36 : decode cX2_canReach 36 = .ok (.iload 8, 2) := by decide +kernel
theorem dX2_canReach_38 : decode cX2_canReach 38 = .ok (.aload_n 1, 1) := by decide +kernel
theorem dX2_canReach_39 : decode cX2_canReach 39 = .ok (.getfield 56, 3) := by decide +kernel
theorem dX2_canReach_42 : decode cX2_canReach 42 = .ok (.if_icmp .ge 74, 3) := by decide +kernel
theorem dX2_canReach_45 : decode cX2_canReach 45 = .ok (.aload_n 1, 1) := by decide +kernel
theorem dX2_canReach_46 : decode cX2_canReach 46 = .ok (.iload_n 2, 1) := by decide +kernel
theorem dX2_canReach_47 : decode cX2_canReach 47 = .ok (.iload 8, 2) := by decide +kernel
theorem dX2_canReach_49 : decode cX2_canReach 49 = .ok (.invokevirtual 59, 3) := by decide +kernel
theorem dX2_canReach_52 : decode cX2_canReach 52 = .ok (.ifCond .eq 7, 3) := by decide +kernel
theorem dX2_canReach_55 : decode cX2_canReach 55 = .ok (.iconst 0, 1) := by decide +kernel
theorem dX2_canReach_56 : decode cX2_canReach 56 = .ok (.goto 10, 3) := by decide +kernel
theorem dX2_canReach_59 : decode cX2_canReach 59 = .ok (.aload_n 1, 1) := by decide +kernel
theorem dX2_canReach_60 : decode cX2_canReach 60 = .ok (.iload_n 2, 1) := by decide +kernel
theorem dX2_canReach_61 : decode cX2_canReach 61 = .ok (.iload 8, 2) := by decide +kernel
theorem dX2_canReach_63 : decode cX2_canReach 63 = .ok (.invokevirtual 25, 3) := by decide +kernel
theorem dX2_canReach_66 : decode cX2_canReach 66 = .ok (.istore 9, 2) := by decide +kernel
theorem dX2_canReach_68 : decode cX2_canReach 68 = .ok (.iload 9, 2) := by decide +kernel
theorem dX2_canReach_70 : decode cX2_canReach 70 = .ok (.ifCond .eq 40, 3) := by decide +kernel
theorem dX2_canReach_73 : decode cX2_canReach 73 = .ok (.aload_n 0, 1) := by decide +kernel
theorem dX2_canReach_74 : decode cX2_canReach 74 = .ok (.getfield 22, 3) := by decide +kernel
theorem dX2_canReach_77 : decode cX2_canReach 77 = .ok (.iload 6, 2) := by decide +kernel
theorem dX2_canReach_79 : decode cX2_canReach 79 = .ok (.iload 8, 2) := by decide +kernel
theorem dX2_canReach_81 : decode cX2_canReach 81 = .ok (.iastore, 1) := by decide +kernel
theorem dX2_canReach_82 : decode cX2_canReach 82 = .ok (.aload_n 0, 1) := by decide +kernel
theorem dX2_canReach_83 : decode cX2_canReach 83 = .ok (.aload_n 1, 1) := by decide +kernel
theorem dX2_canReach_84 : decode cX2_canReach 84 = .ok (.aload_n 1, 1) := by decide +kernel
theorem dX2_canReach_85 : decode cX2_canReach 85 = .ok (.iload_n 2, 1) := by decide +kernel
theorem dX2_canReach_86 : decode cX2_canReach 86 = .ok (.iload 9, 2) := by decide +kernel
theorem dX2_canReach_88 : decode cX2_canReach 88 = .ok (.invokevirtual 31, 3) := by decide +kernel
theorem dX2_canReach_91 : decode cX2_canReach 91 = .ok (.iload_n 3, 1) := by decide +kernel
theorem dX2_canReach_92 : decode cX2_canReach 92 = .ok (.iload 4, 2) := by decide +kernel
theorem dX2_canReach_94 : decode cX2_canReach 94 = .ok (.iload 5, 2) := by decide +kernel
theorem dX2_canReach_96 : decode cX2_canReach 96 = .ok (.iconst 1, 1) := by decide +kernel
theorem dX2_canReach_97 : decode cX2_canReach 97 = .ok (.isub, 1) := by decide +kernel
theorem dX2_canReach_98 : decode cX2_canReach 98 = .ok (.iload 6, 2) := by decide +kernel
theorem dX2_canReach_100 : decode cX2_canReach 100 = .ok (.iconst 1, 1) := by decide +kernel
theorem dX2_canReach_101 : decode cX2_canReach 101 = .ok (.iadd, 1) := by decide +kernel
theorem dX2_canReach_102 : decode cX2_canReach 102 = .ok (.invokevirtual 49, 3) := by decide +kernel
theorem dX2_canReach_105 : decode cX2_canReach 105 = .ok (.ifCond .eq 5, 3) := by decide +kernel
theorem dX2_canReach_108 : decode cX2_canReach 108 = .ok (.iconst 1, 1) := by decide +kernel
theorem dX2_canReach_109 : decode cX2_canReach 109 = .ok (.ireturn, 1) := by decide +kernel
theorem dX2_canReach_110 : decode cX2_canReach 110 = .ok (.iinc 8 1, 3) := by decide +kernel
theorem dX2_canReach_113 : decode cX2_canReach 113 = .ok (.goto (-77), 3) := by decide +kernel
theorem dX2_canReach_116 : decode cX2_canReach 116 = .ok (.iconst 0, 1) := by decide +kernel
theorem dX2_canReach_117 : decode cX2_canReach 117 = .ok (.ireturn, 1) := by decide +kernel
theorem dX2_liar_0 : decode cX2_liar 0 = .ok (.iload_n 1, 1) := by decide +kernel
theorem dX2_liar_1 : decode cX2_liar 1 = .ok (.ifCond .lt 17, 3) := by decide +kernel
theorem dX2_liar_4 : decode cX2_liar 4 = .ok (.iload_n 1, 1) := by decide +kernel
theorem dX2_liar_5 : decode cX2_liar 5 = .ok (.iload_n 2, 1) := by decide +kernel
theorem dX2_liar_6 : decode cX2_liar 6 = .ok (.if_icmp .ge 12, 3) := by decide +kernel
theorem dX2_liar_9 : decode cX2_liar 9 = .ok (.aload_n 0, 1) := by decide +kernel
theorem dX2_liar_10 : decode cX2_liar 10 = .ok (.getfield 22, 3) := by decide +kernel
theorem dX2_liar_13 : decode cX2_liar 13 = .ok (.iload_n 1, 1) := by decide +kernel
theorem dX2_liar_14 : decode cX2_liar 14 = .ok (.iaload, 1) := by decide +kernel
theorem dX2_liar_15 : decode cX2_liar 15 = .ok (.goto 5, 3) := by decide +kernel
theorem dX2_liar_18 : decode cX2_liar 18 = .ok (.ldc 34, 2) := by decide +kernel
theorem dX2_liar_20 : decode cX2_liar 20 = .ok (.ireturn, 1) := by decide +kernel
theorem dX2_liesTillBrook_0 : decode cX2_liesTillBrook 0 = .ok (.aload_n 1, 1) := by decide +kernel
theorem dX2_liesTillBrook_1 : decode cX2_liesTillBrook 1 = .ok (.getfield 46, 3) := by decide +kernel
theorem dX2_liesTillBrook_4 : decode cX2_liesTillBrook 4 = .ok (.istore_n 3, 1) := by decide +kernel
theorem dX2_liesTillBrook_5 : decode cX2_liesTillBrook 5 = .ok (.iconst 0, 1) := by decide +kernel
theorem dX2_liesTillBrook_6 : decode cX2_liesTillBrook 6 = .ok (.istore 4, 2) := by decide +kernel
theorem dX2_liesTillBrook_8 : decode cX2_liesTillBrook 8 = .ok (.iload 4, 2) := by decide +kernel
theorem dX2_liesTillBrook_10 : decode cX2_liesTillBrook 10 = .ok (.bipush 16, 2) := by decide +kernel
theorem dX2_liesTillBrook_12 : decode cX2_liesTillBrook 12 = .ok (.if_icmp .gt 45, 3) := by decide +kernel
theorem dX2_liesTillBrook_15 : decode cX2_liesTillBrook 15 = .ok (.aload_n 1, 1) := by decide +kernel
theorem dX2_liesTillBrook_16 : decode cX2_liesTillBrook 16 = .ok (.iload_n 3, 1) := by decide +kernel
theorem dX2_liesTillBrook_17 : decode cX2_liesTillBrook 17 = .ok (.iload_n 2, 1) := by decide +kernel
theorem dX2_liesTillBrook_18 : decode cX2_liesTillBrook 18 = .ok (.invokevirtual 59, 3) := by decide +kernel
theorem dX2_liesTillBrook_21 : decode cX2_liesTillBrook 21 = .ok (.ifCond .eq 6, 3) := by decide +kernel
theorem dX2_liesTillBrook_24 : decode cX2_liesTillBrook 24 = .ok (.iload 4, 2) := by decide +kernel
theorem dX2_liesTillBrook_26 : decode cX2_liesTillBrook 26 = .ok (.ireturn, 1) := by decide +kernel
theorem dX2_liesTillBrook_27 : decode cX2_liesTillBrook 27 = .ok (.aload_n 1, 1) := by decide +kernel
theorem dX2_liesTillBrook_28 : decode cX2_liesTillBrook 28 = .ok (.iload_n 3, 1) := by decide +kernel
theorem dX2_liesTillBrook_29 : decode cX2_liesTillBrook 29 = .ok (.iload_n 2, 1) := by decide +kernel
theorem dX2_liesTillBrook_30 : decode cX2_liesTillBrook 30 = .ok (.invokevirtual 25, 3) := by decide +kernel
theorem dX2_liesTillBrook_33 : decode cX2_liesTillBrook 33 = .ok (.istore 5, 2) := by decide +kernel
theorem dX2_liesTillBrook_35 : decode cX2_liesTillBrook 35 = .ok (.iload 5, 2) := by decide +kernel
theorem dX2_liesTillBrook_37 : decode cX2_liesTillBrook 37 = .ok (.ifCond .ne 6, 3) := by decide +kernel
theorem dX2_liesTillBrook_40 : decode cX2_liesTillBrook 40 = .ok (.ldc 34, 2) := by decide +kernel
theorem dX2_liesTillBrook_42 : decode cX2_liesTillBrook 42 = .ok (.ireturn, 1) := by decide +kernel
theorem dX2_liesTillBrook_43 : decode cX2_liesTillBrook 43 = .ok (.aload_n 1, 1) := by decide +kernel
theorem dX2_liesTillBrook_44 : decode cX2_liesTillBrook 44 = .ok (.iload_n 3, 1) := by decide +kernel
theorem dX2_liesTillBrook_45 : decode cX2_liesTillBrook 45 = .ok (.iload 5, 2) := by decide +kernel
theorem dX2_liesTillBrook_47 : decode cX2_liesTillBrook 47 = .ok (.invokevirtual 31, 3) := by decide +kernel
theorem dX2_liesTillBrook_50 : decode cX2_liesTillBrook 50 = .ok (.istore_n 3, 1) := by decide +kernel
theorem dX2_liesTillBrook_51 : decode cX2_liesTillBrook 51 = .ok (.iinc 4 1, 3) := by decide +kernel
theorem dX2_liesTillBrook_54 : decode cX2_liesTillBrook 54 = .ok (.goto (-46), 3) := by decide +kernel
theorem dX2_liesTillBrook_57 : decode cX2_liesTillBrook 57 = .ok (.ldc 34, 2) := by decide +kernel
theorem dX2_liesTillBrook_59 : decode cX2_liesTillBrook 59 = .ok (.ireturn, 1) := by decide +kernel
theorem dX3_init_0 : decode cX3_init 0 = .ok (.aload_n 0, 1) := by decide +kernel
theorem dX3_init_1 : decode cX3_init 1 = .ok (.invokespecial 1, 3) := by decide +kernel
theorem dX3_init_4 : decode cX3_init 4 = .ok (.aload_n 0, 1) := by decide +kernel
theorem dX3_init_5 : decode cX3_init 5 = .ok (.bipush 24, 2) := by decide +kernel
theorem dX3_init_7 : decode cX3_init 7 = .ok (.newarray .int, 2) := by decide +kernel
theorem dX3_init_9 : decode cX3_init 9 = .ok (.putfield 9, 3) := by decide +kernel
theorem dX3_init_12 : decode cX3_init 12 = .ok (.aload_n 0, 1) := by decide +kernel
theorem dX3_init_13 : decode cX3_init 13 = .ok (.bipush 24, 2) := by decide +kernel
theorem dX3_init_15 : decode cX3_init 15 = .ok (.newarray .int, 2) := by decide +kernel
theorem dX3_init_17 : decode cX3_init 17 = .ok (.putfield 13, 3) := by decide +kernel
theorem dX3_init_20 : decode cX3_init 20 = .ok (.aload_n 0, 1) := by decide +kernel
theorem dX3_init_21 : decode cX3_init 21 = .ok (.iconst 0, 1) := by decide +kernel
theorem dX3_init_22 : decode cX3_init 22 = .ok (.putfield 16, 3) := by decide +kernel
theorem dX3_init_25 : decode cX3_init 25 = .ok (.aload_n 0, 1) := by decide +kernel
theorem dX3_init_26 : decode cX3_init 26 = .ok (.iconst 0, 1) := by decide +kernel
theorem dX3_init_27 : decode cX3_init 27 = .ok (.putfield 20, 3) := by decide +kernel
theorem dX3_init_30 : decode cX3_init 30 = .ok (.return_, 1) := by decide +kernel
theorem dX3_size_0 : decode cX3_size 0 = .ok (.aload_n 0, 1) := by decide +kernel
theorem dX3_size_1 : decode cX3_size 1 = .ok (.getfield 20, 3) := by decide +kernel
theorem dX3_size_4 : decode cX3_size 4 = .ok (.ireturn, 1) := by decide +kernel
theorem dX3_forgetAll_0 : decode cX3_forgetAll 0 = .ok (.aload_n 0, 1) := by decide +kernel
theorem dX3_forgetAll_1 : decode cX3_forgetAll 1 = .ok (.iconst 0, 1) := by decide +kernel
theorem dX3_forgetAll_2 : decode cX3_forgetAll 2 = .ok (.putfield 20, 3) := by decide +kernel
theorem dX3_forgetAll_5 : decode cX3_forgetAll 5 = .ok (.return_, 1) := by decide +kernel
theorem dX3_keep_0 : decode cX3_keep 0 = .ok (.aload_n 0, 1) := by decide +kernel
theorem dX3_keep_1 : decode cX3_keep 1 = .ok (.getfield 9, 3) := by decide +kernel
theorem dX3_keep_4 : decode cX3_keep 4 = .ok (.aload_n 0, 1) := by decide +kernel
theorem dX3_keep_5 : decode cX3_keep 5 = .ok (.getfield 16, 3) := by decide +kernel
theorem dX3_keep_8 : decode cX3_keep 8 = .ok (.iload_n 1, 1) := by decide +kernel
theorem dX3_keep_9 : decode cX3_keep 9 = .ok (.iastore, 1) := by decide +kernel
theorem dX3_keep_10 : decode cX3_keep 10 = .ok (.aload_n 0, 1) := by decide +kernel
theorem dX3_keep_11 : decode cX3_keep 11 = .ok (.getfield 13, 3) := by decide +kernel
theorem dX3_keep_14 : decode cX3_keep 14 = .ok (.aload_n 0, 1) := by decide +kernel
theorem dX3_keep_15 : decode cX3_keep 15 = .ok (.getfield 16, 3) := by decide +kernel
theorem dX3_keep_18 : decode cX3_keep 18 = .ok (.iload_n 2, 1) := by decide +kernel
theorem dX3_keep_19 : decode cX3_keep 19 = .ok (.iastore, 1) := by decide +kernel
theorem dX3_keep_20 : decode cX3_keep 20 = .ok (.aload_n 0, 1) := by decide +kernel
theorem dX3_keep_21 : decode cX3_keep 21 = .ok (.aload_n 0, 1) := by decide +kernel
theorem dX3_keep_22 : decode cX3_keep 22 = .ok (.getfield 16, 3) := by decide +kernel
theorem dX3_keep_25 : decode cX3_keep 25 = .ok (.iconst 1, 1) := by decide +kernel
theorem dX3_keep_26 : decode cX3_keep 26 = .ok (.iadd, 1) := by decide +kernel
theorem dX3_keep_27 : decode cX3_keep 27 = .ok (.bipush 24, 2) := by decide +kernel
theorem dX3_keep_29 : decode cX3_keep 29 = .ok (.irem, 1) := by decide +kernel
theorem dX3_keep_30 : decode cX3_keep 30 = .ok (.putfield 16, 3) := by decide +kernel
theorem dX3_keep_33 : decode cX3_keep 33 = .ok (.aload_n 0, 1) := by decide +kernel
theorem dX3_keep_34 : decode cX3_keep 34 = .ok (.aload_n 0, 1) := by decide +kernel
theorem dX3_keep_35 : decode cX3_keep 35 = .ok (.getfield 20, 3) := by decide +kernel
theorem dX3_keep_38 : decode cX3_keep 38 = .ok (.iconst 1, 1) := by decide +kernel
theorem dX3_keep_39 : decode cX3_keep 39 = .ok (.iadd, 1) := by decide +kernel
theorem dX3_keep_40 : decode cX3_keep 40 = .ok (.bipush 24, 2) := by decide +kernel
theorem dX3_keep_42 : decode cX3_keep 42 = .ok (.invokestatic 23, 3) := by decide +kernel
theorem dX3_keep_45 : decode cX3_keep 45 = .ok (.putfield 20, 3) := by decide +kernel
theorem dX3_keep_48 : decode cX3_keep 48 = .ok (.return_, 1) := by decide +kernel
theorem dX3_undoLatest_0 : decode cX3_undoLatest 0 = .ok (.aload_n 0, 1) := by decide +kernel
theorem dX3_undoLatest_1 : decode cX3_undoLatest 1 = .ok (.aload_n 0, 1) := by decide +kernel
theorem dX3_undoLatest_2 : decode cX3_undoLatest 2 = .ok (.getfield 16, 3) := by decide +kernel
theorem dX3_undoLatest_5 : decode cX3_undoLatest 5 = .ok (.bipush 24, 2) := by decide +kernel
theorem dX3_undoLatest_7 : decode cX3_undoLatest 7 = .ok (.iadd, 1) := by decide +kernel
theorem dX3_undoLatest_8 : decode cX3_undoLatest 8 = .ok (.iconst 1, 1) := by decide +kernel
theorem dX3_undoLatest_9 : decode cX3_undoLatest 9 = .ok (.isub, 1) := by decide +kernel
theorem dX3_undoLatest_10 : decode cX3_undoLatest 10 = .ok (.bipush 24, 2) := by decide +kernel
theorem dX3_undoLatest_12 : decode cX3_undoLatest 12 = .ok (.irem, 1) := by decide +kernel
theorem dX3_undoLatest_13 : decode cX3_undoLatest 13 = .ok (.putfield 16, 3) := by decide +kernel
theorem dX3_undoLatest_16 : decode cX3_undoLatest 16 = .ok (.aload_n 0, 1) := by decide +kernel
theorem dX3_undoLatest_17 : decode cX3_undoLatest 17 = .ok (.dup, 1) := by decide +kernel
theorem dX3_undoLatest_18 : decode cX3_undoLatest 18 = .ok (.getfield 20, 3) := by decide +kernel
theorem dX3_undoLatest_21 : decode cX3_undoLatest 21 = .ok (.iconst 1, 1) := by decide +kernel
theorem dX3_undoLatest_22 : decode cX3_undoLatest 22 = .ok (.isub, 1) := by decide +kernel
theorem dX3_undoLatest_23 : decode cX3_undoLatest 23 = .ok (.putfield 20, 3) := by decide +kernel
theorem dX3_undoLatest_26 : decode cX3_undoLatest 26 = .ok (.aload_n 1, 1) := by decide +kernel
theorem dX3_undoLatest_27 : decode cX3_undoLatest 27 = .ok (.aload_n 0, 1) := by decide +kernel
theorem dX3_undoLatest_28 : decode cX3_undoLatest 28 = .ok (.getfield 9, 3) := by decide +kernel
theorem dX3_undoLatest_31 : decode cX3_undoLatest 31 = .ok (.aload_n 0, 1) := by decide +kernel
theorem dX3_undoLatest_32 : decode cX3_undoLatest 32 = .ok (.getfield 16, 3) := by decide +kernel
theorem dX3_undoLatest_35 : decode cX3_undoLatest 35 = .ok (.iaload, 1) := by decide +kernel
theorem dX3_undoLatest_36 : decode cX3_undoLatest 36 = .ok (.putfield 29, 3) := by decide +kernel
theorem dX3_undoLatest_39 : decode cX3_undoLatest 39 = .ok (.aload_n 0, 1) := by decide +kernel
theorem dX3_undoLatest_40 : decode cX3_undoLatest 40 = .ok (.getfield 13, 3) := by decide +kernel
theorem dX3_undoLatest_43 : decode cX3_undoLatest 43 = .ok (.aload_n 0, 1) := by decide +kernel
theorem dX3_undoLatest_44 : decode cX3_undoLatest 44 = .ok (.getfield 16, 3) := by decide +kernel
theorem dX3_undoLatest_47 : decode cX3_undoLatest 47 = .ok (.iaload, 1) := by decide +kernel
theorem dX3_undoLatest_48 : decode cX3_undoLatest 48 = .ok (.iconst (-1), 1) := by decide +kernel
theorem dX3_undoLatest_49 : decode cX3_undoLatest 49 = .ok (.if_icmp .eq 21, 3) := by decide +kernel
theorem dX3_undoLatest_52 : decode cX3_undoLatest 52 = .ok (.aload_n 1, 1) := by decide +kernel
theorem dX3_undoLatest_53 : decode cX3_undoLatest 53 = .ok (.getfield 34, 3) := by decide +kernel
theorem dX3_undoLatest_56 : decode cX3_undoLatest 56 = .ok (.aload_n 0, 1) := by decide +kernel
theorem dX3_undoLatest_57 : decode cX3_undoLatest 57 = .ok (.getfield 13, 3) := by decide +kernel
theorem dX3_undoLatest_60 : decode cX3_undoLatest 60 = .ok (.aload_n 0, 1) := by decide +kernel
theorem dX3_undoLatest_61 : decode cX3_undoLatest 61 = .ok (.getfield 16, 3) := by decide +kernel
theorem dX3_undoLatest_64 : decode cX3_undoLatest 64 = .ok (.iaload, 1) := by decide +kernel
theorem dX3_undoLatest_65 : decode cX3_undoLatest 65 = .ok (.dup2, 1) := by decide +kernel
theorem dX3_undoLatest_66 : decode cX3_undoLatest 66 = .ok (.iaload, 1) := by decide +kernel
theorem dX3_undoLatest_67 : decode cX3_undoLatest 67 = .ok (.iconst 1, 1) := by decide +kernel
theorem dX3_undoLatest_68 : decode cX3_undoLatest 68 = .ok (.isub, 1) := by decide +kernel
theorem dX3_undoLatest_69 : decode cX3_undoLatest 69 = .ok (.iastore, 1) := by decide +kernel
theorem dX3_undoLatest_70 : decode cX3_undoLatest 70 = .ok (.return_, 1) := by decide +kernel
theorem dX4_isNumber_0 : decode cX4_isNumber 0 = .ok (.iload_n 0, 1) := by decide +kernel
theorem dX4_isNumber_1 : decode cX4_isNumber 1 = .ok (.ifCond .lt 13, 3) := by decide +kernel
theorem dX4_isNumber_4 : decode cX4_isNumber 4 = .ok (.iload_n 0, 1) := by decide +kernel
theorem dX4_isNumber_5 : decode cX4_isNumber 5 = .ok (.bipush 6, 2) := by decide +kernel
theorem dX4_isNumber_7 : decode cX4_isNumber 7 = .ok (.if_icmp .ge 7, 3) := by decide +kernel
theorem dX4_isNumber_10 : decode cX4_isNumber 10 = .ok (.iconst 1, 1) := by decide +kernel
theorem dX4_isNumber_11 : decode cX4_isNumber 11 = .ok (.goto 4, 3) := by decide +kernel
theorem dX4_isNumber_14 : decode cX4_isNumber 14 = .ok (.iconst 0, 1) := by decide +kernel
theorem dX4_isNumber_15 : decode cX4_isNumber 15 = .ok (.ireturn, 1) := by decide +kernel
theorem dX4_parentOf_0 : decode cX4_parentOf 0 = .ok (.getstatic 9, 3) := by decide +kernel
theorem dX4_parentOf_3 : decode cX4_parentOf 3 = .ok (.iload_n 0, 1) := by decide +kernel
theorem dX4_parentOf_4 : decode cX4_parentOf 4 = .ok (.iaload, 1) := by decide +kernel
theorem dX4_parentOf_5 : decode cX4_parentOf 5 = .ok (.ireturn, 1) := by decide +kernel
theorem dX4_isOne_0 : decode cX4_isOne 0 = .ok (.iload_n 0, 1) := by decide +kernel
theorem dX4_isOne_1 : decode cX4_isOne 1 = .ok (.istore_n 2, 1) := by decide +kernel
theorem dX4_isOne_2 : decode cX4_isOne 2 = .ok (.iconst 0, 1) := by decide +kernel
theorem dX4_isOne_3 : decode cX4_isOne 3 = .ok (.istore_n 3, 1) := by decide +kernel
theorem dX4_isOne_4 : decode cX4_isOne 4 = .ok (.iload_n 3, 1) := by decide +kernel
theorem dX4_isOne_5 : decode cX4_isOne 5 = .ok (.bipush 6, 2) := by decide +kernel
theorem dX4_isOne_7 : decode cX4_isOne 7 = .ok (.if_icmp .ge 19, 3) := by decide +kernel
theorem dX4_isOne_10 : decode cX4_isOne 10 = .ok (.iload_n 2, 1) := by decide +kernel
theorem dX4_isOne_11 : decode cX4_isOne 11 = .ok (.iload_n 1, 1) := by decide +kernel
theorem dX4_isOne_12 : decode cX4_isOne 12 = .ok (.if_icmp .eq 14, 3) := by decide +kernel
theorem dX4_isOne_15 : decode cX4_isOne 15 = .ok (.iload_n 2, 1) := by decide +kernel
theorem dX4_isOne_16 : decode cX4_isOne 16 = .ok (.invokestatic 13, 3) := by decide +kernel
theorem dX4_isOne_19 : decode cX4_isOne 19 = .ok (.istore_n 2, 1) := by decide +kernel
theorem dX4_isOne_20 : decode cX4_isOne 20 = .ok (.iinc 3 1, 3) := by decide +kernel
theorem dX4_isOne_23 : decode cX4_isOne 23 = .ok (.goto (-19), 3) := by decide +kernel
theorem dX4_isOne_26 : decode cX4_isOne 26 = .ok (.iload_n 2, 1) := by decide +kernel
theorem dX4_isOne_27 : decode cX4_isOne 27 = .ok (.iload_n 1, 1) := by decide +kernel
theorem dX4_isOne_28 : decode cX4_isOne 28 = .ok (.if_icmp .ne 7, 3) := by decide +kernel
theorem dX4_isOne_31 : decode cX4_isOne 31 = .ok (.iconst 1, 1) := by decide +kernel
theorem dX4_isOne_32 : decode cX4_isOne 32 = .ok (.goto 4, 3) := by decide +kernel
theorem dX4_isOne_35 : decode cX4_isOne 35 = .ok (.iconst 0, 1) := by decide +kernel
theorem dX4_isOne_36 : decode cX4_isOne 36 = .ok (.ireturn, 1) := by decide +kernel
theorem dX5_init_0 : decode cX5_init 0 = .ok (.aload_n 0, 1) := by decide +kernel
theorem dX5_init_1 : decode cX5_init 1 = .ok (.invokespecial 3, 3) := by decide +kernel
theorem dX5_init_4 : decode cX5_init 4 = .ok (.aload_n 0, 1) := by decide +kernel
theorem dX5_init_5 : decode cX5_init 5 = .ok (.sipush 400, 3) := by decide +kernel
theorem dX5_init_8 : decode cX5_init 8 = .ok (.newarray .byte, 2) := by decide +kernel
theorem dX5_init_10 : decode cX5_init 10 = .ok (.putfield 11, 3) := by decide +kernel
theorem dX5_init_13 : decode cX5_init 13 = .ok (.aload_n 0, 1) := by decide +kernel
theorem dX5_init_14 : decode cX5_init 14 = .ok (.iconst 0, 1) := by decide +kernel
theorem dX5_init_15 : decode cX5_init 15 = .ok (.putfield 15, 3) := by decide +kernel
theorem dX5_init_18 : decode cX5_init 18 = .ok (.aload_n 0, 1) := by decide +kernel
theorem dX5_init_19 : decode cX5_init 19 = .ok (.new 19, 3) := by decide +kernel
theorem dX5_init_22 : decode cX5_init 22 = .ok (.dup, 1) := by decide +kernel
theorem dX5_init_23 : decode cX5_init 23 = .ok (.invokespecial 21, 3) := by decide +kernel
theorem dX5_init_26 : decode cX5_init 26 = .ok (.putfield 22, 3) := by decide +kernel
theorem dX5_init_29 : decode cX5_init 29 = .ok (.aload_n 0, 1) := by decide +kernel
theorem dX5_init_30 : decode cX5_init 30 = .ok (.iconst 0, 1) := by decide +kernel
theorem dX5_init_31 : decode cX5_init 31 = .ok (.putfield 26, 3) := by decide +kernel
theorem dX5_init_34 : decode cX5_init 34 = .ok (.aload_n 0, 1) := by decide +kernel
theorem dX5_init_35 : decode cX5_init 35 = .ok (.iconst 0, 1) := by decide +kernel
theorem dX5_init_36 : decode cX5_init 36 = .ok (.putfield 29, 3) := by decide +kernel
theorem dX5_init_39 : decode cX5_init 39 = .ok (.aload_n 0, 1) := by decide +kernel
theorem dX5_init_40 : decode cX5_init 40 = .ok (.iconst 0, 1) := by decide +kernel
theorem dX5_init_41 : decode cX5_init 41 = .ok (.putfield 32, 3) := by decide +kernel
theorem dX5_init_44 : decode cX5_init 44 = .ok (.aload_n 0, 1) := by decide +kernel
theorem dX5_init_45 : decode cX5_init 45 = .ok (.iconst 0, 1) := by decide +kernel
theorem dX5_init_46 : decode cX5_init 46 = .ok (.putfield 35, 3) := by decide +kernel
theorem dX5_init_49 : decode cX5_init 49 = .ok (.aload_n 0, 1) := by decide +kernel
theorem dX5_init_50 : decode cX5_init 50 = .ok (.iconst 0, 1) := by decide +kernel
theorem dX5_init_51 : decode cX5_init 51 = .ok (.putfield 38, 3) := by decide +kernel
theorem dX5_init_54 : decode cX5_init 54 = .ok (.aload_n 0, 1) := by decide +kernel
theorem dX5_init_55 : decode cX5_init 55 = .ok (.iconst 0, 1) := by decide +kernel
theorem dX5_init_56 : decode cX5_init 56 = .ok (.putfield 41, 3) := by decide +kernel
theorem dX5_init_59 : decode cX5_init 59 = .ok (.return_, 1) := by decide +kernel
theorem dX5_length_0 : decode cX5_length 0 = .ok (.aload_n 0, 1) := by decide +kernel
theorem dX5_length_1 : decode cX5_length 1 = .ok (.getfield 15, 3) := by decide +kernel
theorem dX5_length_4 : decode cX5_length 4 = .ok (.ireturn, 1) := by decide +kernel
theorem dX5_faultNumber_0 : decode cX5_faultNumber 0 = .ok (.aload_n 0, 1) := by decide +kernel
theorem dX5_faultNumber_1 : decode cX5_faultNumber 1 = .ok (.getfield 26, 3) := by decide +kernel
theorem dX5_faultNumber_4 : decode cX5_faultNumber 4 = .ok (.ireturn, 1) := by decide +kernel
theorem dX5_faultPlace_0 : decode cX5_faultPlace 0 = .ok (.aload_n 0, 1) := by decide +kernel
theorem dX5_faultPlace_1 : decode cX5_faultPlace 1 = .ok (.getfield 29, 3) := by decide +kernel
theorem dX5_faultPlace_4 : decode cX5_faultPlace 4 = .ok (.ireturn, 1) := by decide +kernel
theorem dX5_draft_0 : decode cX5_draft 0 = .ok (.aload_n 0, 1) := by decide +kernel
theorem dX5_draft_1 : decode cX5_draft 1 = .ok (.getfield 22, 3) := by decide +kernel
theorem dX5_draft_4 : decode cX5_draft 4 = .ok (.areturn, 1) := by decide +kernel
theorem dX5_append_0 : decode cX5_append 0 = .ok (.aload_n 0, 1) := by decide +kernel
theorem dX5_append_1 : decode cX5_append 1 = .ok (.getfield 15, 3) := by decide +kernel
theorem dX5_append_4 : decode cX5_append 4 = .ok (.iload_n 3, 1) := by decide +kernel
theorem dX5_append_5 : decode cX5_append 5 = .ok (.iadd, 1) := by decide +kernel
theorem dX5_append_6 : decode cX5_append 6 = .ok (.sipush 400, 3) := by decide +kernel
theorem dX5_append_9 : decode cX5_append 9 = .ok (.if_icmp .le 5, 3) := by decide +kernel
theorem dX5_append_12 : decode cX5_append 12 = .ok (.iconst 0, 1) := by decide +kernel
theorem dX5_append_13 : decode cX5_append 13 = .ok (.ireturn, 1) := by decide +kernel
theorem dX5_append_14 : decode cX5_append 14 = .ok (.iload_n 3, 1) := by decide +kernel
theorem dX5_append_15 : decode cX5_append 15 = .ok (.iconst 1, 1) := by decide +kernel
theorem dX5_append_16 : decode cX5_append 16 = .ok (.isub, 1) := by decide +kernel
theorem dX5_append_17 : decode cX5_append 17 = .ok (.istore 4, 2) := by decide +kernel
theorem dX5_append_19 : decode cX5_append 19 = .ok (.iload 4, 2) := by decide +kernel
theorem dX5_append_21 : decode cX5_append 21 = .ok (.ifCond .lt 37, 3) := by decide +kernel
theorem dX5_append_24 : decode cX5_append 24 = .ok (.aload_n 0, 1) := by decide +kernel
theorem dX5_append_25 : decode cX5_append 25 = .ok (.getfield 11, 3) := by decide +kernel
theorem dX5_append_28 : decode cX5_append 28 = .ok (.aload_n 0, 1) := by decide +kernel
theorem dX5_append_29 : decode cX5_append 29 = .ok (.getfield 15, 3) := by decide +kernel
theorem dX5_append_32 : decode cX5_append 32 = .ok (.lload_n 1, 1) := by decide +kernel
theorem dX5_append_33 : decode cX5_append 33 = .ok (.bipush 8, 2) := by decide +kernel
theorem dX5_append_35 : decode cX5_append 35 = .ok (.iload 4, 2) := by decide +kernel
theorem dX5_append_37 : decode cX5_append 37 = .ok (.imul, 1) := by decide +kernel
theorem dX5_append_38 : decode cX5_append 38 = .ok (.lshr, 1) := by decide +kernel
theorem dX5_append_39 : decode cX5_append 39 = .ok (.l2i, 1) := by decide +kernel
theorem dX5_append_40 : decode cX5_append 40 = .ok (.i2b, 1) := by decide +kernel
theorem dX5_append_41 : decode cX5_append 41 = .ok (.bastore, 1) := by decide +kernel
theorem dX5_append_42 : decode cX5_append 42 = .ok (.aload_n 0, 1) := by decide +kernel
theorem dX5_append_43 : decode cX5_append 43 = .ok (.dup, 1) := by decide +kernel
theorem dX5_append_44 : decode cX5_append 44 = .ok (.getfield 15, 3) := by decide +kernel
theorem dX5_append_47 : decode cX5_append 47 = .ok (.iconst 1, 1) := by decide +kernel
theorem dX5_append_48 : decode cX5_append 48 = .ok (.iadd, 1) := by decide +kernel
theorem dX5_append_49 : decode cX5_append 49 = .ok (.putfield 15, 3) := by decide +kernel
theorem dX5_append_52 : decode cX5_append 52 = .ok (.iinc 4 (-1), 3) := by decide +kernel
theorem dX5_append_55 : decode cX5_append 55 = .ok (.goto (-36), 3) := by decide +kernel
theorem dX5_append_58 : decode cX5_append 58 = .ok (.iconst 1, 1) := by decide +kernel
theorem dX5_append_59 : decode cX5_append 59 = .ok (.ireturn, 1) := by decide +kernel
theorem dX5_readTape_0 : decode cX5_readTape 0 = .ok (.aload_n 0, 1) := by decide +kernel
theorem dX5_readTape_1 : decode cX5_readTape 1 = .ok (.getfield 22, 3) := by decide +kernel
theorem dX5_readTape_4 : decode cX5_readTape 4 = .ok (.invokevirtual 44, 3) := by decide +kernel
theorem dX5_readTape_7 : decode cX5_readTape 7 = .ok (.aload_n 0, 1) := by decide +kernel
theorem dX5_readTape_8 : decode cX5_readTape 8 = .ok (.iconst 0, 1) := by decide +kernel
theorem dX5_readTape_9 : decode cX5_readTape 9 = .ok (.putfield 35, 3) := by decide +kernel
theorem dX5_readTape_12 : decode cX5_readTape 12 = .ok (.aload_n 0, 1) := by decide +kernel
theorem dX5_readTape_13 : decode cX5_readTape 13 = .ok (.invokevirtual 47, 3) := by decide +kernel
theorem dX5_readTape_16 : decode cX5_readTape 16 = .ok (.aload_n 0, 1) := by decide +kernel
theorem dX5_readTape_17 : decode cX5_readTape 17 = .ok (.invokevirtual 50, 3) := by decide +kernel
theorem dX5_readTape_20 : decode cX5_readTape 20 = .ok (.ifCond .eq 28, 3) := by decide +kernel
theorem dX5_readTape_23 : decode cX5_readTape 23 = .ok (.aload_n 0, 1) := by decide +kernel
theorem dX5_readTape_24 : decode cX5_readTape 24 = .ok (.invokevirtual 54, 3) := by decide +kernel
theorem dX5_readTape_27 : decode cX5_readTape 27 = .ok (.ifCond .eq 21, 3) := by decide +kernel
theorem dX5_readTape_30 : decode cX5_readTape 30 = .ok (.aload_n 0, 1) := by decide +kernel
theorem dX5_readTape_31 : decode cX5_readTape 31 = .ok (.invokevirtual 57, 3) := by decide +kernel
theorem dX5_readTape_34 : decode cX5_readTape 34 = .ok (.ifCond .eq 14, 3) := by decide +kernel
theorem dX5_readTape_37 : decode cX5_readTape 37 = .ok (.aload_n 0, 1) := by decide +kernel
theorem dX5_readTape_38 : decode cX5_readTape 38 = .ok (.invokevirtual 60, 3) := by decide +kernel
theorem dX5_readTape_41 : decode cX5_readTape 41 = .ok (.ifCond .eq 7, 3) := by decide +kernel
theorem dX5_readTape_44 : decode cX5_readTape 44 = .ok (.iconst 1, 1) := by decide +kernel
theorem dX5_readTape_45 : decode cX5_readTape 45 = .ok (.goto 4, 3) := by decide +kernel
theorem dX5_readTape_48 : decode cX5_readTape 48 = .ok (.iconst 0, 1) := by decide +kernel
theorem dX5_readTape_49 : decode cX5_readTape 49 = .ok (.istore_n 1, 1) := by decide +kernel
theorem dX5_readTape_50 : decode cX5_readTape 50 = .ok (.aload_n 0, 1) := by decide +kernel
theorem dX5_readTape_51 : decode cX5_readTape 51 = .ok (.iconst 0, 1) := by decide +kernel
theorem dX5_readTape_52 : decode cX5_readTape 52 = .ok (.putfield 15, 3) := by decide +kernel
theorem dX5_readTape_55 : decode cX5_readTape 55 = .ok (.iload_n 1, 1) := by decide +kernel
theorem dX5_readTape_56 : decode cX5_readTape 56 = .ok (.ireturn, 1) := by decide +kernel
theorem dX5_readFacts_0 : decode cX5_readFacts 0 = .ok (.aload_n 0, 1) := by decide +kernel
theorem dX5_readFacts_1 : decode cX5_readFacts 1 = .ok (.ldc 63, 2) := by decide +kernel
theorem dX5_readFacts_3 : decode cX5_readFacts 3 = .ok (.invokevirtual 65, 3) := by decide +kernel
theorem dX5_readFacts_6 : decode cX5_readFacts 6 = .ok (.ifCond .ne 9, 3) := by decide +kernel
theorem dX5_readFacts_9 : decode cX5_readFacts 9 = .ok (.aload_n 0, 1) := by decide +kernel
theorem dX5_readFacts_10 : decode cX5_readFacts 10 = .ok (.iconst 1, 1) := by decide +kernel
theorem dX5_readFacts_11 : decode cX5_readFacts 11 = .ok (.invokevirtual 69, 3) := by decide +kernel
theorem dX5_readFacts_14 : decode cX5_readFacts 14 = .ok (.ireturn, 1) := by decide +kernel
theorem dX5_readFacts_15 : decode cX5_readFacts 15 = .ok (.aload_n 0, 1) := by decide +kernel
theorem dX5_readFacts_16 : decode cX5_readFacts 16 = .ok (.iconst 0, 1) := by decide +kernel
theorem dX5_readFacts_17 : decode cX5_readFacts 17 = .ok (.sipush 255, 3) := by decide +kernel
theorem dX5_readFacts_20 : decode cX5_readFacts 20 = .ok (.invokevirtual 73, 3) := by decide +kernel
theorem dX5_readFacts_23 : decode cX5_readFacts 23 = .ok (.ifCond .ne 5, 3) := by decide +kernel
theorem dX5_readFacts_26 : decode cX5_readFacts 26 = .ok (.iconst 0, 1) := by decide +kernel
theorem dX5_readFacts_27 : decode cX5_readFacts 27 = .ok (.ireturn, 1) := by decide +kernel
theorem dX5_readFacts_28 : decode cX5_readFacts 28 = .ok (.aload_n 0, 1) := by decide +kernel
theorem dX5_readFacts_29 : decode cX5_readFacts 29 = .ok (.getfield 22, 3) := by decide +kernel
theorem dX5_readFacts_32 : decode cX5_readFacts 32 = .ok (.aload_n 0, 1) := by decide +kernel
theorem dX5_readFacts_33 : decode cX5_readFacts 33 = .ok (.getfield 41, 3) := by decide +kernel
theorem dX5_readFacts_36 : decode cX5_readFacts 36 = .ok (.putfield 77, 3) := by decide +kernel
theorem dX5_readFacts_39 : decode cX5_readFacts 39 = .ok (.aload_n 0, 1) := by decide +kernel
theorem dX5_readFacts_40 : decode cX5_readFacts 40 = .ok (.bipush 8, 2) := by decide +kernel
theorem dX5_readFacts_42 : decode cX5_readFacts 42 = .ok (.bipush 15, 2) := by decide +kernel
theorem dX5_readFacts_44 : decode cX5_readFacts 44 = .ok (.invokevirtual 73, 3) := by decide +kernel
theorem dX5_readFacts_47 : decode cX5_readFacts 47 = .ok (.ifCond .ne 5, 3) := by decide +kernel
theorem dX5_readFacts_50 : decode cX5_readFacts 50 = .ok (.iconst 0, 1) := by decide +kernel
theorem dX5_readFacts_51 : decode cX5_readFacts 51 = .ok (.ireturn, 1) := by decide +kernel
theorem dX5_readFacts_52 : decode cX5_readFacts 52 = .ok (.aload_n 0, 1) := by decide +kernel
theorem dX5_readFacts_53 : decode cX5_readFacts 53 = .ok (.getfield 22, 3) := by decide +kernel
theorem dX5_readFacts_56 : decode cX5_readFacts 56 = .ok (.aload_n 0, 1) := by decide +kernel
theorem dX5_readFacts_57 : decode cX5_readFacts 57 = .ok (.getfield 41, 3) := by decide +kernel
theorem dX5_readFacts_60 : decode cX5_readFacts 60 = .ok (.putfield 80, 3) := by decide +kernel
theorem dX5_readFacts_63 : decode cX5_readFacts 63 = .ok (.aload_n 0, 1) := by decide +kernel
theorem dX5_readFacts_64 : decode cX5_readFacts 64 = .ok (.invokevirtual 83, 3) := by decide +kernel
theorem dX5_readFacts_67 : decode cX5_readFacts 67 = .ok (.ireturn, 1) := by decide +kernel
theorem dX5_readWalls_0 : decode cX5_readWalls 0 = .ok (.iconst 0, 1) := by decide +kernel
theorem dX5_readWalls_1 : decode cX5_readWalls 1 = .ok (.istore_n 1, 1) := by decide +kernel
theorem dX5_readWalls_2 : decode cX5_readWalls 2 = .ok (.iload_n 1, 1) := by decide +kernel
theorem dX5_readWalls_3 : decode cX5_readWalls 3 = .ok (.bipush 12, 2) := by decide +kernel
theorem dX5_readWalls_5 : decode cX5_readWalls 5 = .ok (.if_icmp .gt 86, 3) := by decide +kernel
theorem dX5_readWalls_8 : decode cX5_readWalls 8 = .ok (.aload_n 0, 1) := by decide +kernel
theorem dX5_readWalls_9 : decode cX5_readWalls 9 = .ok (.ldc 86, 2) := by decide +kernel
theorem dX5_readWalls_11 : decode cX5_readWalls 11 = .ok (.invokevirtual 65, 3) := by decide +kernel
theorem dX5_readWalls_14 : decode cX5_readWalls 14 = .ok (.ifCond .eq 77, 3) := by decide +kernel
theorem dX5_readWalls_17 : decode cX5_readWalls 17 = .ok (.iload_n 1, 1) := by decide +kernel
theorem dX5_readWalls_18 : decode cX5_readWalls 18 = .ok (.bipush 12, 2) := by decide +kernel
theorem dX5_readWalls_20 : decode cX5_readWalls 20 = .ok (.if_icmp .ne 9, 3) := by decide +kernel
theorem dX5_readWalls_23 : decode cX5_readWalls 23 = .ok (.aload_n 0, 1) := by decide +kernel
theorem dX5_readWalls_24 : decode cX5_readWalls 24 = .ok (.iconst 3, 1) := by decide +kernel
theorem dX5_readWalls_25 : decode cX5_readWalls 25 = .ok (.invokevirtual 69, 3) := by decide +kernel
theorem dX5_readWalls_28 : decode cX5_readWalls 28 = .ok (.ireturn, 1) := by decide +kernel
theorem dX5_readWalls_29 : decode cX5_readWalls 29 = .ok (.aload_n 0, 1) := by decide +kernel
theorem dX5_readWalls_30 : decode cX5_readWalls 30 = .ok (.iconst 0, 1) := by decide +kernel
theorem dX5_readWalls_31 : decode cX5_readWalls 31 = .ok (.bipush 15, 2) := by decide +kernel
theorem dX5_readWalls_33 : decode cX5_readWalls 33 = .ok (.invokevirtual 73, 3) := by decide +kernel
theorem dX5_readWalls_36 : decode cX5_readWalls 36 = .ok (.ifCond .ne 5, 3) := by decide +kernel
theorem dX5_readWalls_39 : decode cX5_readWalls 39 = .ok (.iconst 0, 1) := by decide +kernel
theorem dX5_readWalls_40 : decode cX5_readWalls 40 = .ok (.ireturn, 1) := by decide +kernel
theorem dX5_readWalls_41 : decode cX5_readWalls 41 = .ok (.aload_n 0, 1) := by decide +kernel
theorem dX5_readWalls_42 : decode cX5_readWalls 42 = .ok (.getfield 41, 3) := by decide +kernel
theorem dX5_readWalls_45 : decode cX5_readWalls 45 = .ok (.istore_n 2, 1) := by decide +kernel
theorem dX5_readWalls_46 : decode cX5_readWalls 46 = .ok (.aload_n 0, 1) := by decide +kernel
theorem dX5_readWalls_47 : decode cX5_readWalls 47 = .ok (.iconst 0, 1) := by decide +kernel
theorem dX5_readWalls_48 : decode cX5_readWalls 48 = .ok (.bipush 7, 2) := by decide +kernel
theorem dX5_readWalls_50 : decode cX5_readWalls 50 = .ok (.invokevirtual 73, 3) := by decide +kernel
theorem dX5_readWalls_53 : decode cX5_readWalls 53 = .ok (.ifCond .ne 5, 3) := by decide +kernel
theorem dX5_readWalls_56 : decode cX5_readWalls 56 = .ok (.iconst 0, 1) := by decide +kernel
theorem dX5_readWalls_57 : decode cX5_readWalls 57 = .ok (.ireturn, 1) := by decide +kernel
theorem dX5_readWalls_58 : decode cX5_readWalls 58 = .ok (.aload_n 0, 1) := by decide +kernel
theorem dX5_readWalls_59 : decode cX5_readWalls 59 = .ok (.getfield 22, 3) := by decide +kernel
theorem dX5_readWalls_62 : decode cX5_readWalls 62 = .ok (.getfield 88, 3) := by decide +kernel
theorem dX5_readWalls_65 : decode cX5_readWalls 65 = .ok (.aload_n 0, 1) := by decide +kernel
theorem dX5_readWalls_66 : decode cX5_readWalls 66 = .ok (.getfield 41, 3) := by decide +kernel
theorem dX5_readWalls_69 : decode cX5_readWalls 69 = .ok (.dup2, 1) := by decide +kernel
theorem dX5_readWalls_70 : decode cX5_readWalls 70 = .ok (.iaload, 1) := by decide +kernel
theorem dX5_readWalls_71 : decode cX5_readWalls 71 = .ok (.iconst 1, 1) := by decide +kernel
theorem dX5_readWalls_72 : decode cX5_readWalls 72 = .ok (.iload_n 2, 1) := by decide +kernel
theorem dX5_readWalls_73 : decode cX5_readWalls 73 = .ok (.ishl, 1) := by decide +kernel
theorem dX5_readWalls_74 : decode cX5_readWalls 74 = .ok (.ior, 1) := by decide +kernel
theorem dX5_readWalls_75 : decode cX5_readWalls 75 = .ok (.iastore, 1) := by decide +kernel
theorem dX5_readWalls_76 : decode cX5_readWalls 76 = .ok (.aload_n 0, 1) := by decide +kernel
theorem dX5_readWalls_77 : decode cX5_readWalls 77 = .ok (.invokevirtual 83, 3) := by decide +kernel
theorem dX5_readWalls_80 : decode cX5_readWalls 80 = .ok (.ifCond .ne 5, 3) := by decide +kernel
theorem dX5_readWalls_83 : decode cX5_readWalls 83 = .ok (.iconst 0, 1) := by decide +kernel
theorem dX5_readWalls_84 : decode cX5_readWalls 84 = .ok (.ireturn, 1) := by decide +kernel
theorem dX5_readWalls_85 : decode cX5_readWalls 85 = .ok (.iinc 1 1, 3) := by decide +kernel
theorem dX5_readWalls_88 : decode cX5_readWalls 88 = .ok (.goto (-86), 3) := by decide +kernel
theorem dX5_readWalls_91 : decode cX5_readWalls 91 = .ok (.iconst 1, 1) := by decide +kernel
theorem dX5_readWalls_92 : decode cX5_readWalls 92 = .ok (.ireturn, 1) := by decide +kernel
theorem dX5_readPaths_0 : decode cX5_readPaths 0 = .ok (.iconst 0, 1) := by decide +kernel
theorem dX5_readPaths_1 : decode cX5_readPaths 1 = .ok (.istore_n 1, 1) := by decide +kernel
theorem dX5_readPaths_2 : decode cX5_readPaths 2 = .ok (.iload_n 1, 1) := by decide +kernel
theorem dX5_readPaths_3 : decode cX5_readPaths 3 = .ok (.bipush 8, 2) := by decide +kernel
theorem dX5_readPaths_5 : decode cX5_readPaths 5 = .ok (.if_icmp .gt 107, 3) := by decide +kernel
theorem dX5_readPaths_8 : decode cX5_readPaths 8 = .ok (.aload_n 0, 1) := by decide +kernel
theorem dX5_readPaths_9 : decode cX5_readPaths 9 = .ok (.ldc 92, 2) := by decide +kernel
theorem dX5_readPaths_11 : decode cX5_readPaths 11 = .ok (.invokevirtual 65, 3) := by decide +kernel
theorem dX5_readPaths_14 : decode cX5_readPaths 14 = .ok (.ifCond .eq 98, 3) := by decide +kernel
theorem dX5_readPaths_17 : decode cX5_readPaths 17 = .ok (.iload_n 1, 1) := by decide +kernel
theorem dX5_readPaths_18 : decode cX5_readPaths 18 = .ok (.bipush 8, 2) := by decide +kernel
theorem dX5_readPaths_20 : decode cX5_readPaths 20 = .ok (.if_icmp .ne 9, 3) := by decide +kernel
theorem dX5_readPaths_23 : decode cX5_readPaths 23 = .ok (.aload_n 0, 1) := by decide +kernel
theorem dX5_readPaths_24 : decode cX5_readPaths 24 = .ok (.iconst 3, 1) := by decide +kernel
theorem dX5_readPaths_25 : decode cX5_readPaths 25 = .ok (.invokevirtual 69, 3) := by decide +kernel
theorem dX5_readPaths_28 : decode cX5_readPaths 28 = .ok (.ireturn, 1) := by decide +kernel
theorem dX5_readPaths_29 : decode cX5_readPaths 29 = .ok (.aload_n 0, 1) := by decide +kernel
theorem dX5_readPaths_30 : decode cX5_readPaths 30 = .ok (.iconst 0, 1) := by decide +kernel
theorem dX5_readPaths_31 : decode cX5_readPaths 31 = .ok (.bipush 7, 2) := by decide +kernel
theorem dX5_readPaths_33 : decode cX5_readPaths 33 = .ok (.invokevirtual 73, 3) := by decide +kernel
theorem dX5_readPaths_36 : decode cX5_readPaths 36 = .ok (.ifCond .ne 5, 3) := by decide +kernel
theorem dX5_readPaths_39 : decode cX5_readPaths 39 = .ok (.iconst 0, 1) := by decide +kernel
theorem dX5_readPaths_40 : decode cX5_readPaths 40 = .ok (.ireturn, 1) := by decide +kernel
theorem dX5_readPaths_41 : decode cX5_readPaths 41 = .ok (.aload_n 0, 1) := by decide +kernel
theorem dX5_readPaths_42 : decode cX5_readPaths 42 = .ok (.getfield 41, 3) := by decide +kernel
theorem dX5_readPaths_45 : decode cX5_readPaths 45 = .ok (.istore_n 2, 1) := by decide +kernel
theorem dX5_readPaths_46 : decode cX5_readPaths 46 = .ok (.aload_n 0, 1) := by decide +kernel
theorem dX5_readPaths_47 : decode cX5_readPaths 47 = .ok (.iconst 0, 1) := by decide +kernel
theorem dX5_readPaths_48 : decode cX5_readPaths 48 = .ok (.bipush 15, 2) := by decide +kernel
theorem dX5_readPaths_50 : decode cX5_readPaths 50 = .ok (.invokevirtual 73, 3) := by decide +kernel
theorem dX5_readPaths_53 : decode cX5_readPaths 53 = .ok (.ifCond .ne 5, 3) := by decide +kernel
theorem dX5_readPaths_56 : decode cX5_readPaths 56 = .ok (.iconst 0, 1) := by decide +kernel
theorem dX5_readPaths_57 : decode cX5_readPaths 57 = .ok (.ireturn, 1) := by decide +kernel
theorem dX5_readPaths_58 : decode cX5_readPaths 58 = .ok (.aload_n 0, 1) := by decide +kernel
theorem dX5_readPaths_59 : decode cX5_readPaths 59 = .ok (.getfield 41, 3) := by decide +kernel
theorem dX5_readPaths_62 : decode cX5_readPaths 62 = .ok (.istore_n 3, 1) := by decide +kernel
theorem dX5_readPaths_63 : decode cX5_readPaths 63 = .ok (.aload_n 0, 1) := by decide +kernel
theorem dX5_readPaths_64 : decode cX5_readPaths 64 = .ok (.iload_n 3, 1) := by decide +kernel
theorem dX5_readPaths_65 : decode cX5_readPaths 65 = .ok (.bipush 15, 2) := by decide +kernel
theorem dX5_readPaths_67 : decode cX5_readPaths 67 = .ok (.invokevirtual 73, 3) := by decide +kernel
theorem dX5_readPaths_70 : decode cX5_readPaths 70 = .ok (.ifCond .ne 5, 3) := by decide +kernel
theorem dX5_readPaths_73 : decode cX5_readPaths 73 = .ok (.iconst 0, 1) := by decide +kernel
theorem dX5_readPaths_74 : decode cX5_readPaths 74 = .ok (.ireturn, 1) := by decide +kernel
theorem dX5_readPaths_75 : decode cX5_readPaths 75 = .ok (.aload_n 0, 1) := by decide +kernel
theorem dX5_readPaths_76 : decode cX5_readPaths 76 = .ok (.getfield 22, 3) := by decide +kernel
theorem dX5_readPaths_79 : decode cX5_readPaths 79 = .ok (.getfield 94, 3) := by decide +kernel
theorem dX5_readPaths_82 : decode cX5_readPaths 82 = .ok (.iload_n 2, 1) := by decide +kernel
theorem dX5_readPaths_83 : decode cX5_readPaths 83 = .ok (.dup2, 1) := by decide +kernel
theorem dX5_readPaths_84 : decode cX5_readPaths 84 = .ok (.iaload, 1) := by decide +kernel
theorem dX5_readPaths_85 : decode cX5_readPaths 85 = .ok (.iconst 2, 1) := by decide +kernel
theorem dX5_readPaths_86 : decode cX5_readPaths 86 = .ok (.aload_n 0, 1) := by decide +kernel
theorem dX5_readPaths_87 : decode cX5_readPaths 87 = .ok (.getfield 41, 3) := by decide +kernel
theorem dX5_readPaths_90 : decode cX5_readPaths 90 = .ok (.ishl, 1) := by decide +kernel
theorem dX5_readPaths_91 : decode cX5_readPaths 91 = .ok (.iconst 1, 1) := by decide +kernel
theorem dX5_readPaths_92 : decode cX5_readPaths 92 = .ok (.iload_n 3, 1) := by decide +kernel
theorem dX5_readPaths_93 : decode cX5_readPaths 93 = .ok (.ishl, 1) := by decide +kernel
theorem dX5_readPaths_94 : decode cX5_readPaths 94 = .ok (.isub, 1) := by decide +kernel
theorem dX5_readPaths_95 : decode cX5_readPaths 95 = .ok (.ior, 1) := by decide +kernel
theorem dX5_readPaths_96 : decode cX5_readPaths 96 = .ok (.iastore, 1) := by decide +kernel
theorem dX5_readPaths_97 : decode cX5_readPaths 97 = .ok (.aload_n 0, 1) := by decide +kernel
theorem dX5_readPaths_98 : decode cX5_readPaths 98 = .ok (.invokevirtual 83, 3) := by decide +kernel
theorem dX5_readPaths_101 : decode cX5_readPaths 101 = .ok (.ifCond .ne 5, 3) := by decide +kernel
theorem dX5_readPaths_104 : decode cX5_readPaths 104 = .ok (.iconst 0, 1) := by decide +kernel
theorem dX5_readPaths_105 : decode cX5_readPaths 105 = .ok (.ireturn, 1) := by decide +kernel
theorem dX5_readPaths_106 : decode cX5_readPaths 106 = .ok (.iinc 1 1, 3) := by decide +kernel
theorem dX5_readPaths_109 : decode cX5_readPaths 109 = .ok (.goto (-107), 3) := by decide +kernel
theorem dX5_readPaths_112 : decode cX5_readPaths 112 = .ok (.iconst 1, 1) := by decide +kernel
theorem dX5_readPaths_113 : decode cX5_readPaths 113 = .ok (.ireturn, 1) := by decide +kernel
theorem dX5_readHouses_0 : decode cX5_readHouses 0 = .ok (.aload_n 0, 1) := by decide +kernel
theorem dX5_readHouses_1 : decode cX5_readHouses 1 = .ok (.ldc 97, 2) := by decide +kernel
theorem dX5_readHouses_3 : decode cX5_readHouses 3 = .ok (.invokevirtual 65, 3) := by decide +kernel
theorem dX5_readHouses_6 : decode cX5_readHouses 6 = .ok (.ifCond .ne 9, 3) := by decide +kernel
theorem dX5_readHouses_9 : decode cX5_readHouses 9 = .ok (.aload_n 0, 1) := by decide +kernel
theorem dX5_readHouses_10 : decode cX5_readHouses 10 = .ok (.iconst 1, 1) := by decide +kernel
theorem dX5_readHouses_11 : decode cX5_readHouses 11 = .ok (.invokevirtual 69, 3) := by decide +kernel
theorem dX5_readHouses_14 : decode cX5_readHouses 14 = .ok (.ireturn, 1) := by decide +kernel
theorem dX5_readHouses_15 : decode cX5_readHouses 15 = .ok (.iconst 0, 1) := by decide +kernel
theorem dX5_readHouses_16 : decode cX5_readHouses 16 = .ok (.istore_n 1, 1) := by decide +kernel
theorem dX5_readHouses_17 : decode cX5_readHouses 17 = .ok (.iload_n 1, 1) := by decide +kernel
theorem dX5_readHouses_18 : decode cX5_readHouses 18 = .ok (.bipush 6, 2) := by decide +kernel
theorem dX5_readHouses_20 : decode cX5_readHouses 20 = .ok (.if_icmp .gt 39, 3) := by decide +kernel
theorem dX5_readHouses_23 : decode cX5_readHouses 23 = .ok (.aload_n 0, 1) := by decide +kernel
theorem dX5_readHouses_24 : decode cX5_readHouses 24 = .ok (.ldc 97, 2) := by decide +kernel
theorem dX5_readHouses_26 : decode cX5_readHouses 26 = .ok (.invokevirtual 65, 3) := by decide +kernel
theorem dX5_readHouses_29 : decode cX5_readHouses 29 = .ok (.ifCond .eq 30, 3) := by decide +kernel
theorem dX5_readHouses_32 : decode cX5_readHouses 32 = .ok (.iload_n 1, 1) := by decide +kernel
theorem dX5_readHouses_33 : decode cX5_readHouses 33 = .ok (.bipush 6, 2) := by decide +kernel
theorem dX5_readHouses_35 : decode cX5_readHouses 35 = .ok (.if_icmp .ne 9, 3) := by decide +kernel
theorem dX5_readHouses_38 : decode cX5_readHouses 38 = .ok (.aload_n 0, 1) := by decide +kernel
theorem dX5_readHouses_39 : decode cX5_readHouses 39 = .ok (.iconst 3, 1) := by decide +kernel
theorem dX5_readHouses_40 : decode cX5_readHouses 40 = .ok (.invokevirtual 69, 3) := by decide +kernel
theorem dX5_readHouses_43 : decode cX5_readHouses 43 = .ok (.ireturn, 1) := by decide +kernel
theorem dX5_readHouses_44 : decode cX5_readHouses 44 = .ok (.aload_n 0, 1) := by decide +kernel
theorem dX5_readHouses_45 : decode cX5_readHouses 45 = .ok (.invokevirtual 99, 3) := by decide +kernel
theorem dX5_readHouses_48 : decode cX5_readHouses 48 = .ok (.ifCond .ne 5, 3) := by decide +kernel
theorem dX5_readHouses_51 : decode cX5_readHouses 51 = .ok (.iconst 0, 1) := by decide +kernel
theorem dX5_readHouses_52 : decode cX5_readHouses 52 = .ok (.ireturn, 1) := by decide +kernel
theorem dX5_readHouses_53 : decode cX5_readHouses 53 = .ok (.iinc 1 1, 3) := by decide +kernel
theorem dX5_readHouses_56 : decode cX5_readHouses 56 = .ok (.goto (-39), 3) := by decide +kernel
theorem dX5_readHouses_59 : decode cX5_readHouses 59 = .ok (.aload_n 0, 1) := by decide +kernel
theorem dX5_readHouses_60 : decode cX5_readHouses 60 = .ok (.getfield 38, 3) := by decide +kernel
theorem dX5_readHouses_63 : decode cX5_readHouses 63 = .ok (.ifCond .eq 11, 3) := by decide +kernel
theorem dX5_readHouses_66 : decode cX5_readHouses 66 = .ok (.aload_n 0, 1) := by decide +kernel
theorem dX5_readHouses_67 : decode cX5_readHouses 67 = .ok (.iconst 1, 1) := by decide +kernel
theorem dX5_readHouses_68 : decode cX5_readHouses 68 = .ok (.invokevirtual 69, 3) := by decide +kernel
theorem dX5_readHouses_71 : decode cX5_readHouses 71 = .ok (.ifCond .eq 7, 3) := by decide +kernel
theorem dX5_readHouses_74 : decode cX5_readHouses 74 = .ok (.iconst 1, 1) := by decide +kernel
theorem dX5_readHouses_75 : decode cX5_readHouses 75 = .ok (.goto 4, 3) := by decide +kernel
theorem dX5_readHouses_78 : decode cX5_readHouses 78 = .ok (.iconst 0, 1) := by decide +kernel
theorem dX5_readHouses_79 : decode cX5_readHouses 79 = .ok (.ireturn, 1) := by decide +kernel
theorem dX5_readHouse_0 : decode cX5_readHouse 0 = .ok (.aload_n 0, 1) := by decide +kernel
theorem dX5_readHouse_1 : decode cX5_readHouse 1 = .ok (.invokevirtual 47, 3) := by decide +kernel
theorem dX5_readHouse_4 : decode cX5_readHouse 4 = .ok (.aload_n 0, 1) := by decide +kernel
theorem dX5_readHouse_5 : decode cX5_readHouse 5 = .ok (.invokevirtual 102, 3) := by decide +kernel
theorem dX5_readHouse_8 : decode cX5_readHouse 8 = .ok (.istore_n 1, 1) := by decide +kernel
theorem dX5_readHouse_9 : decode cX5_readHouse 9 = .ok (.iload_n 1, 1) := by decide +kernel
theorem dX5_readHouse_10 : decode cX5_readHouse 10 = .ok (.ifCond .ne 9, 3) := by decide +kernel
theorem dX5_readHouse_13 : decode cX5_readHouse 13 = .ok (.aload_n 0, 1) := by decide +kernel
theorem dX5_readHouse_14 : decode cX5_readHouse 14 = .ok (.iconst 1, 1) := by decide +kernel
theorem dX5_readHouse_15 : decode cX5_readHouse 15 = .ok (.invokevirtual 69, 3) := by decide +kernel
theorem dX5_readHouse_18 : decode cX5_readHouse 18 = .ok (.ireturn, 1) := by decide +kernel
theorem dX5_readHouse_19 : decode cX5_readHouse 19 = .ok (.aload_n 0, 1) := by decide +kernel
theorem dX5_readHouse_20 : decode cX5_readHouse 20 = .ok (.iconst 0, 1) := by decide +kernel
theorem dX5_readHouse_21 : decode cX5_readHouse 21 = .ok (.bipush 15, 2) := by decide +kernel
theorem dX5_readHouse_23 : decode cX5_readHouse 23 = .ok (.invokevirtual 73, 3) := by decide +kernel
theorem dX5_readHouse_26 : decode cX5_readHouse 26 = .ok (.ifCond .ne 5, 3) := by decide +kernel
theorem dX5_readHouse_29 : decode cX5_readHouse 29 = .ok (.iconst 0, 1) := by decide +kernel
theorem dX5_readHouse_30 : decode cX5_readHouse 30 = .ok (.ireturn, 1) := by decide +kernel
theorem dX5_readHouse_31 : decode cX5_readHouse 31 = .ok (.aload_n 0, 1) := by decide +kernel
theorem dX5_readHouse_32 : decode cX5_readHouse 32 = .ok (.getfield 41, 3) := by decide +kernel
theorem dX5_readHouse_35 : decode cX5_readHouse 35 = .ok (.istore_n 2, 1) := by decide +kernel
theorem dX5_readHouse_36 : decode cX5_readHouse 36 = .ok (.aload_n 0, 1) := by decide +kernel
theorem dX5_readHouse_37 : decode cX5_readHouse 37 = .ok (.iconst 0, 1) := by decide +kernel
theorem dX5_readHouse_38 : decode cX5_readHouse 38 = .ok (.bipush 7, 2) := by decide +kernel
theorem dX5_readHouse_40 : decode cX5_readHouse 40 = .ok (.invokevirtual 73, 3) := by decide +kernel
theorem dX5_readHouse_43 : decode cX5_readHouse 43 = .ok (.ifCond .ne 5, 3) := by decide +kernel
theorem dX5_readHouse_46 : decode cX5_readHouse 46 = .ok (.iconst 0, 1) := by decide +kernel
theorem dX5_readHouse_47 : decode cX5_readHouse 47 = .ok (.ireturn, 1) := by decide +kernel
theorem dX5_readHouse_48 : decode cX5_readHouse 48 = .ok (.aload_n 0, 1) := by decide +kernel
theorem dX5_readHouse_49 : decode cX5_readHouse 49 = .ok (.getfield 41, 3) := by decide +kernel
theorem dX5_readHouse_52 : decode cX5_readHouse 52 = .ok (.istore_n 3, 1) := by decide +kernel
theorem dX5_readHouse_53 : decode cX5_readHouse 53 = .ok (.aload_n 0, 1) := by decide +kernel
theorem dX5_readHouse_54 : decode cX5_readHouse 54 = .ok (.iconst 1, 1) := by decide +kernel
theorem dX5_readHouse_55 : decode cX5_readHouse 55 = .ok (.iconst 4, 1) := by decide +kernel
theorem dX5_readHouse_56 : decode cX5_readHouse 56 = .ok (.invokevirtual 73, 3) := by decide +kernel
theorem dX5_readHouse_59 : decode cX5_readHouse 59 = .ok (.ifCond .ne 5, 3) := by decide +kernel
theorem dX5_readHouse_62 : decode cX5_readHouse 62 = .ok (.iconst 0, 1) := by decide +kernel
theorem dX5_readHouse_63 : decode cX5_readHouse 63 = .ok (.ireturn, 1) := by decide +kernel
theorem dX5_readHouse_64 : decode cX5_readHouse 64 = .ok (.aload_n 0, 1) := by decide +kernel
theorem dX5_readHouse_65 : decode cX5_readHouse 65 = .ok (.getfield 41, 3) := by decide +kernel
