theorem dX8_copy_89 : decode cX8_copy 89 = .ok (.aload_n 0, 1) := by decide +kernel
theorem dX8_copy_90 : decode cX8_copy 90 = .ok (.getfield 13, 3) := by decide +kernel
theorem dX8_copy_93 : decode cX8_copy 93 = .ok (.iload_n 3, 1) := by decide +kernel
theorem dX8_copy_94 : decode cX8_copy 94 = .ok (.iaload, 1) := by decide +kernel
theorem dX8_copy_95 : decode cX8_copy 95 = .ok (.iload 4, 2) := by decide +kernel
theorem dX8_copy_97 : decode cX8_copy 97 = .ok (.isub, 1) := by decide +kernel
theorem dX8_copy_98 : decode cX8_copy 98 = .ok (.if_icmp .le 9, 3) := by decide +kernel
theorem dX8_copy_101 : decode cX8_copy 101 = .ok (.aload_n 0, 1) := by decide +kernel
theorem dX8_copy_102 : decode cX8_copy 102 = .ok (.iconst 2, 1) := by decide +kernel
theorem dX8_copy_103 : decode cX8_copy 103 = .ok (.invokevirtual 65, 3) := by decide +kernel
theorem dX8_copy_106 : decode cX8_copy 106 = .ok (.ireturn, 1) := by decide +kernel
theorem dX8_copy_107 : decode cX8_copy 107 = .ok (.iconst 0, 1) := by decide +kernel
theorem dX8_copy_108 : decode cX8_copy 108 = .ok (.istore 6, 2) := by decide +kernel
theorem dX8_copy_110 : decode cX8_copy 110 = .ok (.iload 6, 2) := by decide +kernel
theorem dX8_copy_112 : decode cX8_copy 112 = .ok (.iload 5, 2) := by decide +kernel
theorem dX8_copy_114 : decode cX8_copy 114 = .ok (.if_icmp .ge 30, 3) := by decide +kernel
theorem dX8_copy_117 : decode cX8_copy 117 = .ok (.aload_n 0, 1) := by decide +kernel
theorem dX8_copy_118 : decode cX8_copy 118 = .ok (.getfield 44, 3) := by decide +kernel
theorem dX8_copy_121 : decode cX8_copy 121 = .ok (.iload 6, 2) := by decide +kernel
theorem dX8_copy_123 : decode cX8_copy 123 = .ok (.aload_n 0, 1) := by decide +kernel
theorem dX8_copy_124 : decode cX8_copy 124 = .ok (.getfield 16, 3) := by decide +kernel
theorem dX8_copy_127 : decode cX8_copy 127 = .ok (.bipush 40, 2) := by decide +kernel
theorem dX8_copy_129 : decode cX8_copy 129 = .ok (.iload_n 1, 1) := by decide +kernel
theorem dX8_copy_130 : decode cX8_copy 130 = .ok (.imul, 1) := by decide +kernel
theorem dX8_copy_131 : decode cX8_copy 131 = .ok (.iload_n 2, 1) := by decide +kernel
theorem dX8_copy_132 : decode cX8_copy 132 = .ok (.iadd, 1) := by decide +kernel
theorem dX8_copy_133 : decode cX8_copy 133 = .ok (.iload 6, 2) := by decide +kernel
theorem dX8_copy_135 : decode cX8_copy 135 = .ok (.iadd, 1) := by decide +kernel
theorem dX8_copy_136 : decode cX8_copy 136 = .ok (.iaload, 1) := by decide +kernel
theorem dX8_copy_137 : decode cX8_copy 137 = .ok (.iastore, 1) := by decide +kernel
theorem dX8_copy_138 : decode cX8_copy 138 = .ok (.iinc 6 1, 3) := by decide +kernel
theorem dX8_copy_141 : decode cX8_copy 141 = .ok (.goto (-31), 3) := by decide +kernel
theorem dX8_copy_144 : decode cX8_copy 144 = .ok (.iconst 0, 1) := by decide +kernel
theorem dX8_copy_145 : decode cX8_copy 145 = .ok (.istore 6, 2) := by decide +kernel
theorem dX8_copy_147 : decode cX8_copy 147 = .ok (.iload 6, 2) := by decide +kernel
theorem dX8_copy_149 : decode cX8_copy 149 = .ok (.iload 5, 2) := by decide +kernel
theorem dX8_copy_151 : decode cX8_copy 151 = .ok (.if_icmp .ge 31, 3) := by decide +kernel
theorem dX8_copy_154 : decode cX8_copy 154 = .ok (.aload_n 0, 1) := by decide +kernel
theorem dX8_copy_155 : decode cX8_copy 155 = .ok (.getfield 16, 3) := by decide +kernel
theorem dX8_copy_158 : decode cX8_copy 158 = .ok (.bipush 40, 2) := by decide +kernel
theorem dX8_copy_160 : decode cX8_copy 160 = .ok (.iload_n 3, 1) := by decide +kernel
theorem dX8_copy_161 : decode cX8_copy 161 = .ok (.imul, 1) := by decide +kernel
theorem dX8_copy_162 : decode cX8_copy 162 = .ok (.iload 4, 2) := by decide +kernel
theorem dX8_copy_164 : decode cX8_copy 164 = .ok (.iadd, 1) := by decide +kernel
theorem dX8_copy_165 : decode cX8_copy 165 = .ok (.iload 6, 2) := by decide +kernel
theorem dX8_copy_167 : decode cX8_copy 167 = .ok (.iadd, 1) := by decide +kernel
theorem dX8_copy_168 : decode cX8_copy 168 = .ok (.aload_n 0, 1) := by decide +kernel
theorem dX8_copy_169 : decode cX8_copy 169 = .ok (.getfield 44, 3) := by decide +kernel
theorem dX8_copy_172 : decode cX8_copy 172 = .ok (.iload 6, 2) := by decide +kernel
theorem dX8_copy_174 : decode cX8_copy 174 = .ok (.iaload, 1) := by decide +kernel
theorem dX8_copy_175 : decode cX8_copy 175 = .ok (.iastore, 1) := by decide +kernel
theorem dX8_copy_176 : decode cX8_copy 176 = .ok (.iinc 6 1, 3) := by decide +kernel
theorem dX8_copy_179 : decode cX8_copy 179 = .ok (.goto (-32), 3) := by decide +kernel
theorem dX8_copy_182 : decode cX8_copy 182 = .ok (.aload_n 0, 1) := by decide +kernel
theorem dX8_copy_183 : decode cX8_copy 183 = .ok (.iload 5, 2) := by decide +kernel
theorem dX8_copy_185 : decode cX8_copy 185 = .ok (.invokevirtual 69, 3) := by decide +kernel
theorem dX8_copy_188 : decode cX8_copy 188 = .ok (.ireturn, 1) := by decide +kernel
theorem dX8_drop_0 : decode cX8_drop 0 = .ok (.iload_n 1, 1) := by decide +kernel
theorem dX8_drop_1 : decode cX8_drop 1 = .ok (.invokestatic 60, 3) := by decide +kernel
theorem dX8_drop_4 : decode cX8_drop 4 = .ok (.ifCond .ne 6, 3) := by decide +kernel
theorem dX8_drop_7 : decode cX8_drop 7 = .ok (.ldc 64, 2) := by decide +kernel
theorem dX8_drop_9 : decode cX8_drop 9 = .ok (.ireturn, 1) := by decide +kernel
theorem dX8_drop_10 : decode cX8_drop 10 = .ok (.aload_n 0, 1) := by decide +kernel
theorem dX8_drop_11 : decode cX8_drop 11 = .ok (.iload_n 1, 1) := by decide +kernel
theorem dX8_drop_12 : decode cX8_drop 12 = .ok (.invokevirtual 72, 3) := by decide +kernel
theorem dX8_drop_15 : decode cX8_drop 15 = .ok (.ifCond .eq 9, 3) := by decide +kernel
theorem dX8_drop_18 : decode cX8_drop 18 = .ok (.aload_n 0, 1) := by decide +kernel
theorem dX8_drop_19 : decode cX8_drop 19 = .ok (.iconst 1, 1) := by decide +kernel
theorem dX8_drop_20 : decode cX8_drop 20 = .ok (.invokevirtual 65, 3) := by decide +kernel
theorem dX8_drop_23 : decode cX8_drop 23 = .ok (.ireturn, 1) := by decide +kernel
theorem dX8_drop_24 : decode cX8_drop 24 = .ok (.aload_n 0, 1) := by decide +kernel
theorem dX8_drop_25 : decode cX8_drop 25 = .ok (.getfield 7, 3) := by decide +kernel
theorem dX8_drop_28 : decode cX8_drop 28 = .ok (.iload_n 1, 1) := by decide +kernel
theorem dX8_drop_29 : decode cX8_drop 29 = .ok (.ldc 50, 2) := by decide +kernel
theorem dX8_drop_31 : decode cX8_drop 31 = .ok (.iastore, 1) := by decide +kernel
theorem dX8_drop_32 : decode cX8_drop 32 = .ok (.aload_n 0, 1) := by decide +kernel
theorem dX8_drop_33 : decode cX8_drop 33 = .ok (.aload_n 0, 1) := by decide +kernel
theorem dX8_drop_34 : decode cX8_drop 34 = .ok (.getfield 13, 3) := by decide +kernel
theorem dX8_drop_37 : decode cX8_drop 37 = .ok (.iload_n 1, 1) := by decide +kernel
theorem dX8_drop_38 : decode cX8_drop 38 = .ok (.iaload, 1) := by decide +kernel
theorem dX8_drop_39 : decode cX8_drop 39 = .ok (.invokevirtual 69, 3) := by decide +kernel
theorem dX8_drop_42 : decode cX8_drop 42 = .ok (.ireturn, 1) := by decide +kernel
theorem dX8_feed_0 : decode cX8_feed 0 = .ok (.iload_n 3, 1) := by decide +kernel
theorem dX8_feed_1 : decode cX8_feed 1 = .ok (.iconst 1, 1) := by decide +kernel
theorem dX8_feed_2 : decode cX8_feed 2 = .ok (.bipush 8, 2) := by decide +kernel
theorem dX8_feed_4 : decode cX8_feed 4 = .ok (.invokestatic 56, 3) := by decide +kernel
theorem dX8_feed_7 : decode cX8_feed 7 = .ok (.ifCond .ne 6, 3) := by decide +kernel
theorem dX8_feed_10 : decode cX8_feed 10 = .ok (.ldc 64, 2) := by decide +kernel
theorem dX8_feed_12 : decode cX8_feed 12 = .ok (.ireturn, 1) := by decide +kernel
theorem dX8_feed_13 : decode cX8_feed 13 = .ok (.aload_n 0, 1) := by decide +kernel
theorem dX8_feed_14 : decode cX8_feed 14 = .ok (.getfield 75, 3) := by decide +kernel
theorem dX8_feed_17 : decode cX8_feed 17 = .ok (.iload_n 3, 1) := by decide +kernel
theorem dX8_feed_18 : decode cX8_feed 18 = .ok (.iadd, 1) := by decide +kernel
theorem dX8_feed_19 : decode cX8_feed 19 = .ok (.sipush 400, 3) := by decide +kernel
theorem dX8_feed_22 : decode cX8_feed 22 = .ok (.if_icmp .le 6, 3) := by decide +kernel
theorem dX8_feed_25 : decode cX8_feed 25 = .ok (.ldc 78, 2) := by decide +kernel
theorem dX8_feed_27 : decode cX8_feed 27 = .ok (.ireturn, 1) := by decide +kernel
theorem dX8_feed_28 : decode cX8_feed 28 = .ok (.iload_n 3, 1) := by decide +kernel
theorem dX8_feed_29 : decode cX8_feed 29 = .ok (.iconst 1, 1) := by decide +kernel
theorem dX8_feed_30 : decode cX8_feed 30 = .ok (.isub, 1) := by decide +kernel
theorem dX8_feed_31 : decode cX8_feed 31 = .ok (.istore 4, 2) := by decide +kernel
theorem dX8_feed_33 : decode cX8_feed 33 = .ok (.iload 4, 2) := by decide +kernel
theorem dX8_feed_35 : decode cX8_feed 35 = .ok (.ifCond .lt 40, 3) := by decide +kernel
theorem dX8_feed_38 : decode cX8_feed 38 = .ok (.aload_n 0, 1) := by decide +kernel
theorem dX8_feed_39 : decode cX8_feed 39 = .ok (.getfield 19, 3) := by decide +kernel
theorem dX8_feed_42 : decode cX8_feed 42 = .ok (.aload_n 0, 1) := by decide +kernel
theorem dX8_feed_43 : decode cX8_feed 43 = .ok (.getfield 75, 3) := by decide +kernel
theorem dX8_feed_46 : decode cX8_feed 46 = .ok (.lload_n 1, 1) := by decide +kernel
theorem dX8_feed_47 : decode cX8_feed 47 = .ok (.bipush 8, 2) := by decide +kernel
theorem dX8_feed_49 : decode cX8_feed 49 = .ok (.iload 4, 2) := by decide +kernel
theorem dX8_feed_51 : decode cX8_feed 51 = .ok (.imul, 1) := by decide +kernel
theorem dX8_feed_52 : decode cX8_feed 52 = .ok (.lshr, 1) := by decide +kernel
theorem dX8_feed_53 : decode cX8_feed 53 = .ok (.ldc2_w 79, 3) := by decide +kernel
theorem dX8_feed_56 : decode cX8_feed 56 = .ok (.land, 1) := by decide +kernel
theorem dX8_feed_57 : decode cX8_feed 57 = .ok (.l2i, 1) := by decide +kernel
theorem dX8_feed_58 : decode cX8_feed 58 = .ok (.iastore, 1) := by decide +kernel
theorem dX8_feed_59 : decode cX8_feed 59 = .ok (.aload_n 0, 1) := by decide +kernel
theorem dX8_feed_60 : decode cX8_feed 60 = .ok (.dup, 1) := by decide +kernel
theorem dX8_feed_61 : decode cX8_feed 61 = .ok (.getfield 75, 3) := by decide +kernel
theorem dX8_feed_64 : decode cX8_feed 64 = .ok (.iconst 1, 1) := by decide +kernel
theorem dX8_feed_65 : decode cX8_feed 65 = .ok (.iadd, 1) := by decide +kernel
theorem dX8_feed_66 : decode cX8_feed 66 = .ok (.putfield 75, 3) := by decide +kernel
theorem dX8_feed_69 : decode cX8_feed 69 = .ok (.iinc 4 (-1), 3) := by decide +kernel
theorem dX8_feed_72 : decode cX8_feed 72 = .ok (.goto (-39), 3) := by decide +kernel
theorem dX8_feed_75 : decode cX8_feed 75 = .ok (.aload_n 0, 1) := by decide +kernel
theorem dX8_feed_76 : decode cX8_feed 76 = .ok (.getfield 75, 3) := by decide +kernel
theorem dX8_feed_79 : decode cX8_feed 79 = .ok (.ireturn, 1) := by decide +kernel
theorem dX8_here_0 : decode cX8_here 0 = .ok (.aload_n 0, 1) := by decide +kernel
theorem dX8_here_1 : decode cX8_here 1 = .ok (.getfield 81, 3) := by decide +kernel
theorem dX8_here_4 : decode cX8_here 4 = .ok (.aload_n 0, 1) := by decide +kernel
theorem dX8_here_5 : decode cX8_here 5 = .ok (.getfield 75, 3) := by decide +kernel
theorem dX8_here_8 : decode cX8_here 8 = .ok (.if_icmp .ge 15, 3) := by decide +kernel
theorem dX8_here_11 : decode cX8_here 11 = .ok (.aload_n 0, 1) := by decide +kernel
theorem dX8_here_12 : decode cX8_here 12 = .ok (.getfield 19, 3) := by decide +kernel
theorem dX8_here_15 : decode cX8_here 15 = .ok (.aload_n 0, 1) := by decide +kernel
theorem dX8_here_16 : decode cX8_here 16 = .ok (.getfield 81, 3) := by decide +kernel
theorem dX8_here_19 : decode cX8_here 19 = .ok (.iaload, 1) := by decide +kernel
theorem dX8_here_20 : decode cX8_here 20 = .ok (.goto 4, 3) := by decide +kernel
theorem dX8_here_23 : decode cX8_here 23 = .ok (.iconst (-1), 1) := by decide +kernel
theorem dX8_here_24 : decode cX8_here 24 = .ok (.ireturn, 1) := by decide +kernel
theorem dX8_nextToken_0 : decode cX8_nextToken 0 = .ok (.aload_n 0, 1) := by decide +kernel
theorem dX8_nextToken_1 : decode cX8_nextToken 1 = .ok (.invokevirtual 84, 3) := by decide +kernel
theorem dX8_nextToken_4 : decode cX8_nextToken 4 = .ok (.bipush 32, 2) := by decide +kernel
theorem dX8_nextToken_6 : decode cX8_nextToken 6 = .ok (.if_icmp .eq 12, 3) := by decide +kernel
theorem dX8_nextToken_9 : decode cX8_nextToken 9 = .ok (.aload_n 0, 1) := by decide +kernel
theorem dX8_nextToken_10 : decode cX8_nextToken 10 = .ok (.invokevirtual 84, 3) := by decide +kernel
theorem dX8_nextToken_13 : decode cX8_nextToken 13 = .ok (.bipush 10, 2) := by decide +kernel
theorem dX8_nextToken_15 : decode cX8_nextToken 15 = .ok (.if_icmp .ne 16, 3) := by decide +kernel
theorem dX8_nextToken_18 : decode cX8_nextToken 18 = .ok (.aload_n 0, 1) := by decide +kernel
theorem dX8_nextToken_19 : decode cX8_nextToken 19 = .ok (.dup, 1) := by decide +kernel
theorem dX8_nextToken_20 : decode cX8_nextToken 20 = .ok (.getfield 81, 3) := by decide +kernel
theorem dX8_nextToken_23 : decode cX8_nextToken 23 = .ok (.iconst 1, 1) := by decide +kernel
theorem dX8_nextToken_24 : decode cX8_nextToken 24 = .ok (.iadd, 1) := by decide +kernel
theorem dX8_nextToken_25 : decode cX8_nextToken 25 = .ok (.putfield 81, 3) := by decide +kernel
theorem dX8_nextToken_28 : decode cX8_nextToken 28 = .ok (.goto (-28), 3) := by decide +kernel
theorem dX8_nextToken_31 : decode cX8_nextToken 31 = .ok (.aload_n 0, 1) := by decide +kernel
theorem dX8_nextToken_32 : decode cX8_nextToken 32 = .ok (.aload_n 0, 1) := by decide +kernel
theorem dX8_nextToken_33 : decode cX8_nextToken 33 = .ok (.getfield 81, 3) := by decide +kernel
theorem dX8_nextToken_36 : decode cX8_nextToken 36 = .ok (.putfield 88, 3) := by decide +kernel
theorem dX8_nextToken_39 : decode cX8_nextToken 39 = .ok (.aload_n 0, 1) := by decide +kernel
theorem dX8_nextToken_40 : decode cX8_nextToken 40 = .ok (.invokevirtual 84, 3) := by decide +kernel
theorem dX8_nextToken_43 : decode cX8_nextToken 43 = .ok (.ifCond .ge 11, 3) := by decide +kernel
theorem dX8_nextToken_46 : decode cX8_nextToken 46 = .ok (.aload_n 0, 1) := by decide +kernel
theorem dX8_nextToken_47 : decode cX8_nextToken 47 = .ok (.iconst 0, 1) := by decide +kernel
theorem dX8_nextToken_48 : decode cX8_nextToken 48 = .ok (.putfield 91, 3) := by decide +kernel
theorem dX8_nextToken_51 : decode cX8_nextToken 51 = .ok (.goto 234, 3) := by decide +kernel
theorem dX8_nextToken_54 : decode cX8_nextToken 54 = .ok (.aload_n 0, 1) := by decide +kernel
theorem dX8_nextToken_55 : decode cX8_nextToken 55 = .ok (.invokevirtual 84, 3) := by decide +kernel
theorem dX8_nextToken_58 : decode cX8_nextToken 58 = .ok (.bipush 97, 2) := by decide +kernel
theorem dX8_nextToken_60 : decode cX8_nextToken 60 = .ok (.bipush 122, 2) := by decide +kernel
theorem dX8_nextToken_62 : decode cX8_nextToken 62 = .ok (.invokestatic 56, 3) := by decide +kernel
theorem dX8_nextToken_65 : decode cX8_nextToken 65 = .ok (.ifCond .eq 82, 3) := by decide +kernel
theorem dX8_nextToken_68 : decode cX8_nextToken 68 = .ok (.aload_n 0, 1) := by decide +kernel
theorem dX8_nextToken_69 : decode cX8_nextToken 69 = .ok (.iconst 1, 1) := by decide +kernel
theorem dX8_nextToken_70 : decode cX8_nextToken 70 = .ok (.putfield 91, 3) := by decide +kernel
theorem dX8_nextToken_73 : decode cX8_nextToken 73 = .ok (.aload_n 0, 1) := by decide +kernel
theorem dX8_nextToken_74 : decode cX8_nextToken 74 = .ok (.lconst 0, 1) := by decide +kernel
theorem dX8_nextToken_75 : decode cX8_nextToken 75 = .ok (.putfield 94, 3) := by decide +kernel
theorem dX8_nextToken_78 : decode cX8_nextToken 78 = .ok (.aload_n 0, 1) := by decide +kernel
theorem dX8_nextToken_79 : decode cX8_nextToken 79 = .ok (.invokevirtual 84, 3) := by decide +kernel
theorem dX8_nextToken_82 : decode cX8_nextToken 82 = .ok (.bipush 97, 2) := by decide +kernel
theorem dX8_nextToken_84 : decode cX8_nextToken 84 = .ok (.bipush 122, 2) := by decide +kernel
theorem dX8_nextToken_86 : decode cX8_nextToken 86 = .ok (.invokestatic 56, 3) := by decide +kernel
theorem dX8_nextToken_89 : decode cX8_nextToken 89 = .ok (.ifCond .eq 196, 3) := by decide +kernel
theorem dX8_nextToken_92 : decode cX8_nextToken 92 = .ok (.aload_n 0, 1) := by decide +kernel
theorem dX8_nextToken_93 : decode cX8_nextToken 93 = .ok (.aload_n 0, 1) := by decide +kernel
theorem dX8_nextToken_94 : decode cX8_nextToken 94 = .ok (.getfield 81, 3) := by decide +kernel
theorem dX8_nextToken_97 : decode cX8_nextToken 97 = .ok (.aload_n 0, 1) := by decide +kernel
theorem dX8_nextToken_98 : decode cX8_nextToken 98 = .ok (.getfield 88, 3) := by decide +kernel
theorem dX8_nextToken_101 : decode cX8_nextToken 101 = .ok (.isub, 1) := by decide +kernel
theorem dX8_nextToken_102 : decode cX8_nextToken 102 = .ok (.bipush 9, 2) := by decide +kernel
theorem dX8_nextToken_104 : decode cX8_nextToken 104 = .ok (.if_icmp .ge 24, 3) := by decide +kernel
theorem dX8_nextToken_107 : decode cX8_nextToken 107 = .ok (.ldc2_w 98, 3) := by decide +kernel
theorem dX8_nextToken_110 : decode cX8_nextToken 110 = .ok (.aload_n 0, 1) := by decide +kernel
theorem dX8_nextToken_111 : decode cX8_nextToken 111 = .ok (.getfield 94, 3) := by decide +kernel
theorem dX8_nextToken_114 : decode cX8_nextToken 114 = .ok (.lmul, 1) := by decide +kernel
theorem dX8_nextToken_115 : decode cX8_nextToken 115 = .ok (.aload_n 0, 1) := by decide +kernel
theorem dX8_nextToken_116 : decode cX8_nextToken 116 = .ok (.invokevirtual 84, 3) := by decide +kernel
theorem dX8_nextToken_119 : decode cX8_nextToken 119 = .ok (.i2l, 1) := by decide +kernel
theorem dX8_nextToken_120 : decode cX8_nextToken 120 = .ok (.ladd, 1) := by decide +kernel
theorem dX8_nextToken_121 : decode cX8_nextToken 121 = .ok (.ldc2_w 100, 3) := by decide +kernel
theorem dX8_nextToken_124 : decode cX8_nextToken 124 = .ok (.lsub, 1) := by decide +kernel
theorem dX8_nextToken_125 : decode cX8_nextToken 125 = .ok (.goto 6, 3) := by decide +kernel
theorem dX8_nextToken_128 : decode cX8_nextToken 128 = .ok (.ldc2_w 102, 3) := by decide +kernel
theorem dX8_nextToken_131 : decode cX8_nextToken 131 = .ok (.putfield 94, 3) := by decide +kernel
theorem dX8_nextToken_134 : decode cX8_nextToken 134 = .ok (.aload_n 0, 1) := by decide +kernel
theorem dX8_nextToken_135 : decode cX8_nextToken 135 = .ok (.dup, 1) := by decide +kernel
theorem dX8_nextToken_136 : decode cX8_nextToken 136 = .ok (.getfield 81, 3) := by decide +kernel
theorem dX8_nextToken_139 : decode cX8_nextToken 139 = .ok (.iconst 1, 1) := by decide +kernel
theorem dX8_nextToken_140 : decode cX8_nextToken 140 = .ok (.iadd, 1) := by decide +kernel
theorem dX8_nextToken_141 : decode cX8_nextToken 141 = .ok (.putfield 81, 3) := by decide +kernel
theorem dX8_nextToken_144 : decode cX8_nextToken 144 = .ok (.goto (-66), 3) := by decide +kernel
theorem dX8_nextToken_147 : decode cX8_nextToken 147 = .ok (.aload_n 0, 1) := by decide +kernel
theorem dX8_nextToken_148 : decode cX8_nextToken 148 = .ok (.invokevirtual 84, 3) := by decide +kernel
theorem dX8_nextToken_151 : decode cX8_nextToken 151 = .ok (.bipush 48, 2) := by decide +kernel
theorem dX8_nextToken_153 : decode cX8_nextToken 153 = .ok (.bipush 57, 2) := by decide +kernel
theorem dX8_nextToken_155 : decode cX8_nextToken 155 = .ok (.invokestatic 56, 3) := by decide +kernel
theorem dX8_nextToken_158 : decode cX8_nextToken 158 = .ok (.ifCond .eq 99, 3) := by decide +kernel
theorem dX8_nextToken_161 : decode cX8_nextToken 161 = .ok (.aload_n 0, 1) := by decide +kernel
theorem dX8_nextToken_162 : decode cX8_nextToken 162 = .ok (.iconst 0, 1) := by decide +kernel
theorem dX8_nextToken_163 : decode cX8_nextToken 163 = .ok (.putfield 104, 3) := by decide +kernel
theorem dX8_nextToken_166 : decode cX8_nextToken 166 = .ok (.aload_n 0, 1) := by decide +kernel
theorem dX8_nextToken_167 : decode cX8_nextToken 167 = .ok (.invokevirtual 84, 3) := by decide +kernel
theorem dX8_nextToken_170 : decode cX8_nextToken 170 = .ok (.bipush 48, 2) := by decide +kernel
theorem dX8_nextToken_172 : decode cX8_nextToken 172 = .ok (.bipush 57, 2) := by decide +kernel
theorem dX8_nextToken_174 : decode cX8_nextToken 174 = .ok (.invokestatic 56, 3) := by decide +kernel
theorem dX8_nextToken_177 : decode cX8_nextToken 177 = .ok (.ifCond .eq 55, 3) := by decide +kernel
theorem dX8_nextToken_180 : decode cX8_nextToken 180 = .ok (.aload_n 0, 1) := by decide +kernel
theorem dX8_nextToken_181 : decode cX8_nextToken 181 = .ok (.aload_n 0, 1) := by decide +kernel
theorem dX8_nextToken_182 : decode cX8_nextToken 182 = .ok (.getfield 81, 3) := by decide +kernel
theorem dX8_nextToken_185 : decode cX8_nextToken 185 = .ok (.aload_n 0, 1) := by decide +kernel
theorem dX8_nextToken_186 : decode cX8_nextToken 186 = .ok (.getfield 88, 3) := by decide +kernel
theorem dX8_nextToken_189 : decode cX8_nextToken 189 = .ok (.isub, 1) := by decide +kernel
theorem dX8_nextToken_190 : decode cX8_nextToken 190 = .ok (.iconst 3, 1) := by decide +kernel
theorem dX8_nextToken_191 : decode cX8_nextToken 191 = .ok (.if_icmp .ge 21, 3) := by decide +kernel
theorem dX8_nextToken_194 : decode cX8_nextToken 194 = .ok (.bipush 10, 2) := by decide +kernel
theorem dX8_nextToken_196 : decode cX8_nextToken 196 = .ok (.aload_n 0, 1) := by decide +kernel
theorem dX8_nextToken_197 : decode cX8_nextToken 197 = .ok (.getfield 104, 3) := by decide +kernel
theorem dX8_nextToken_200 : decode cX8_nextToken 200 = .ok (.imul, 1) := by decide +kernel
theorem dX8_nextToken_201 : decode cX8_nextToken 201 = .ok (.aload_n 0, 1) := by decide +kernel
theorem dX8_nextToken_202 : decode cX8_nextToken 202 = .ok (.invokevirtual 84, 3) := by decide +kernel
theorem dX8_nextToken_205 : decode cX8_nextToken 205 = .ok (.iadd, 1) := by decide +kernel
theorem dX8_nextToken_206 : decode cX8_nextToken 206 = .ok (.bipush 48, 2) := by decide +kernel
theorem dX8_nextToken_208 : decode cX8_nextToken 208 = .ok (.isub, 1) := by decide +kernel
theorem dX8_nextToken_209 : decode cX8_nextToken 209 = .ok (.goto 7, 3) := by decide +kernel
theorem dX8_nextToken_212 : decode cX8_nextToken 212 = .ok (.aload_n 0, 1) := by decide +kernel
theorem dX8_nextToken_213 : decode cX8_nextToken 213 = .ok (.getfield 104, 3) := by decide +kernel
theorem dX8_nextToken_216 : decode cX8_nextToken 216 = .ok (.putfield 104, 3) := by decide +kernel
theorem dX8_nextToken_219 : decode cX8_nextToken 219 = .ok (.aload_n 0, 1) := by decide +kernel
theorem dX8_nextToken_220 : decode cX8_nextToken 220 = .ok (.dup, 1) := by decide +kernel
theorem dX8_nextToken_221 : decode cX8_nextToken 221 = .ok (.getfield 81, 3) := by decide +kernel
theorem dX8_nextToken_224 : decode cX8_nextToken 224 = .ok (.iconst 1, 1) := by decide +kernel
theorem dX8_nextToken_225 : decode cX8_nextToken 225 = .ok (.iadd, 1) := by decide +kernel
theorem dX8_nextToken_226 : decode cX8_nextToken 226 = .ok (.putfield 81, 3) := by decide +kernel
theorem dX8_nextToken_229 : decode cX8_nextToken 229 = .ok (.goto (-63), 3) := by decide +kernel
theorem dX8_nextToken_232 : decode cX8_nextToken 232 = .ok (.aload_n 0, 1) := by decide +kernel
theorem dX8_nextToken_233 : decode cX8_nextToken 233 = .ok (.aload_n 0, 1) := by decide +kernel
theorem dX8_nextToken_234 : decode cX8_nextToken 234 = .ok (.getfield 81, 3) := by decide +kernel
theorem dX8_nextToken_237 : decode cX8_nextToken 237 = .ok (.aload_n 0, 1) := by decide +kernel
theorem dX8_nextToken_238 : decode cX8_nextToken 238 = .ok (.getfield 88, 3) := by decide +kernel
theorem dX8_nextToken_241 : decode cX8_nextToken 241 = .ok (.isub, 1) := by decide +kernel
theorem dX8_nextToken_242 : decode cX8_nextToken 242 = .ok (.iconst 3, 1) := by decide +kernel
theorem dX8_nextToken_243 : decode cX8_nextToken 243 = .ok (.if_icmp .le 7, 3) := by decide +kernel
theorem dX8_nextToken_246 : decode cX8_nextToken 246 = .ok (.iconst 4, 1) := by decide +kernel
theorem dX8_nextToken_247 : decode cX8_nextToken 247 = .ok (.goto 4, 3) := by decide +kernel
theorem dX8_nextToken_250 : decode cX8_nextToken 250 = .ok (.iconst 2, 1) := by decide +kernel
theorem dX8_nextToken_251 : decode cX8_nextToken 251 = .ok (.putfield 91, 3) := by decide +kernel
theorem dX8_nextToken_254 : decode cX8_nextToken 254 = .ok (.goto 31, 3) := by decide +kernel
theorem dX8_nextToken_257 : decode cX8_nextToken 257 = .ok (.aload_n 0, 1) := by decide +kernel
theorem dX8_nextToken_258 : decode cX8_nextToken 258 = .ok (.aload_n 0, 1) := by decide +kernel
theorem dX8_nextToken_259 : decode cX8_nextToken 259 = .ok (.invokevirtual 84, 3) := by decide +kernel
theorem dX8_nextToken_262 : decode cX8_nextToken 262 = .ok (.bipush 59, 2) := by decide +kernel
theorem dX8_nextToken_264 : decode cX8_nextToken 264 = .ok (.if_icmp .ne 7, 3) := by decide +kernel
theorem dX8_nextToken_267 : decode cX8_nextToken 267 = .ok (.iconst 3, 1) := by decide +kernel
theorem dX8_nextToken_268 : decode cX8_nextToken 268 = .ok (.goto 4, 3) := by decide +kernel
theorem dX8_nextToken_271 : decode cX8_nextToken 271 = .ok (.iconst 4, 1) := by decide +kernel
theorem dX8_nextToken_272 : decode cX8_nextToken 272 = .ok (.putfield 91, 3) := by decide +kernel
theorem dX8_nextToken_275 : decode cX8_nextToken 275 = .ok (.aload_n 0, 1) := by decide +kernel
theorem dX8_nextToken_276 : decode cX8_nextToken 276 = .ok (.dup, 1) := by decide +kernel
theorem dX8_nextToken_277 : decode cX8_nextToken 277 = .ok (.getfield 81, 3) := by decide +kernel
theorem dX8_nextToken_280 : decode cX8_nextToken 280 = .ok (.iconst 1, 1) := by decide +kernel
theorem dX8_nextToken_281 : decode cX8_nextToken 281 = .ok (.iadd, 1) := by decide +kernel
theorem dX8_nextToken_282 : decode cX8_nextToken 282 = .ok (.putfield 81, 3) := by decide +kernel
theorem dX8_nextToken_285 : decode cX8_nextToken 285 = .ok (.return_, 1) := by decide +kernel
theorem dX8_fails_0 : decode cX8_fails 0 = .ok (.aload_n 0, 1) := by decide +kernel
theorem dX8_fails_1 : decode cX8_fails 1 = .ok (.iload_n 1, 1) := by decide +kernel
theorem dX8_fails_2 : decode cX8_fails 2 = .ok (.putfield 107, 3) := by decide +kernel
theorem dX8_fails_5 : decode cX8_fails 5 = .ok (.iconst 0, 1) := by decide +kernel
theorem dX8_fails_6 : decode cX8_fails 6 = .ok (.ireturn, 1) := by decide +kernel
theorem dX8_isName_0 : decode cX8_isName 0 = .ok (.aload_n 0, 1) := by decide +kernel
theorem dX8_isName_1 : decode cX8_isName 1 = .ok (.getfield 91, 3) := by decide +kernel
theorem dX8_isName_4 : decode cX8_isName 4 = .ok (.iconst 1, 1) := by decide +kernel
theorem dX8_isName_5 : decode cX8_isName 5 = .ok (.if_icmp .ne 16, 3) := by decide +kernel
theorem dX8_isName_8 : decode cX8_isName 8 = .ok (.aload_n 0, 1) := by decide +kernel
theorem dX8_isName_9 : decode cX8_isName 9 = .ok (.getfield 94, 3) := by decide +kernel
theorem dX8_isName_12 : decode cX8_isName 12 = .ok (.lload_n 1, 1) := by decide +kernel
theorem dX8_isName_13 : decode cX8_isName 13 = .ok (.lcmp, 1) := by decide +kernel
theorem dX8_isName_14 : decode cX8_isName 14 = .ok (.ifCond .ne 7, 3) := by decide +kernel
theorem dX8_isName_17 : decode cX8_isName 17 = .ok (.iconst 1, 1) := by decide +kernel
theorem dX8_isName_18 : decode cX8_isName 18 = .ok (.goto 4, 3) := by decide +kernel
theorem dX8_isName_21 : decode cX8_isName 21 = .ok (.iconst 0, 1) := by decide +kernel
theorem dX8_isName_22 : decode cX8_isName 22 = .ok (.ireturn, 1) := by decide +kernel
theorem dX8_isNumber_0 : decode cX8_isNumber 0 = .ok (.aload_n 0, 1) := by decide +kernel
theorem dX8_isNumber_1 : decode cX8_isNumber 1 = .ok (.invokevirtual 110, 3) := by decide +kernel
theorem dX8_isNumber_4 : decode cX8_isNumber 4 = .ok (.aload_n 0, 1) := by decide +kernel
theorem dX8_isNumber_5 : decode cX8_isNumber 5 = .ok (.getfield 91, 3) := by decide +kernel
theorem dX8_isNumber_8 : decode cX8_isNumber 8 = .ok (.iconst 2, 1) := by decide +kernel
theorem dX8_isNumber_9 : decode cX8_isNumber 9 = .ok (.if_icmp .eq 9, 3) := by decide +kernel
theorem dX8_isNumber_12 : decode cX8_isNumber 12 = .ok (.aload_n 0, 1) := by decide +kernel
theorem dX8_isNumber_13 : decode cX8_isNumber 13 = .ok (.iconst 1, 1) := by decide +kernel
theorem dX8_isNumber_14 : decode cX8_isNumber 14 = .ok (.invokevirtual 113, 3) := by decide +kernel
theorem dX8_isNumber_17 : decode cX8_isNumber 17 = .ok (.ireturn, 1) := by decide +kernel
theorem dX8_isNumber_18 : decode cX8_isNumber 18 = .ok (.aload_n 0, 1) := by decide +kernel
theorem dX8_isNumber_19 : decode cX8_isNumber 19 = .ok (.getfield 104, 3) := by decide +kernel
theorem dX8_isNumber_22 : decode cX8_isNumber 22 = .ok (.iload_n 1, 1) := by decide +kernel
theorem dX8_isNumber_23 : decode cX8_isNumber 23 = .ok (.iload_n 2, 1) := by decide +kernel
theorem dX8_isNumber_24 : decode cX8_isNumber 24 = .ok (.invokestatic 56, 3) := by decide +kernel
theorem dX8_isNumber_27 : decode cX8_isNumber 27 = .ok (.ifCond .ne 11, 3) := by decide +kernel
theorem dX8_isNumber_30 : decode cX8_isNumber 30 = .ok (.aload_n 0, 1) := by decide +kernel
theorem dX8_isNumber_31 : decode cX8_isNumber 31 = .ok (.iconst 2, 1) := by decide +kernel
theorem dX8_isNumber_32 : decode cX8_isNumber 32 = .ok (.invokevirtual 113, 3) := by decide +kernel
theorem dX8_isNumber_35 : decode cX8_isNumber 35 = .ok (.ifCond .eq 7, 3) := by decide +kernel
theorem dX8_isNumber_38 : decode cX8_isNumber 38 = .ok (.iconst 1, 1) := by decide +kernel
theorem dX8_isNumber_39 : decode cX8_isNumber 39 = .ok (.goto 4, 3) := by decide +kernel
theorem dX8_isNumber_42 : decode cX8_isNumber 42 = .ok (.iconst 0, 1) := by decide +kernel
theorem dX8_isNumber_43 : decode cX8_isNumber 43 = .ok (.ireturn, 1) := by decide +kernel
theorem dX8_isEnd_0 : decode cX8_isEnd 0 = .ok (.aload_n 0, 1) := by decide +kernel
theorem dX8_isEnd_1 : decode cX8_isEnd 1 = .ok (.invokevirtual 110, 3) := by decide +kernel
theorem dX8_isEnd_4 : decode cX8_isEnd 4 = .ok (.aload_n 0, 1) := by decide +kernel
theorem dX8_isEnd_5 : decode cX8_isEnd 5 = .ok (.getfield 91, 3) := by decide +kernel
theorem dX8_isEnd_8 : decode cX8_isEnd 8 = .ok (.iconst 3, 1) := by decide +kernel
theorem dX8_isEnd_9 : decode cX8_isEnd 9 = .ok (.if_icmp .eq 11, 3) := by decide +kernel
theorem dX8_isEnd_12 : decode cX8_isEnd 12 = .ok (.aload_n 0, 1) := by decide +kernel
theorem dX8_isEnd_13 : decode cX8_isEnd 13 = .ok (.iconst 1, 1) := by decide +kernel
theorem dX8_isEnd_14 : decode cX8_isEnd 14 = .ok (.invokevirtual 113, 3) := by decide +kernel
theorem dX8_isEnd_17 : decode cX8_isEnd 17 = .ok (.ifCond .eq 7, 3) := by decide +kernel
theorem dX8_isEnd_20 : decode cX8_isEnd 20 = .ok (.iconst 1, 1) := by decide +kernel
theorem dX8_isEnd_21 : decode cX8_isEnd 21 = .ok (.goto 4, 3) := by decide +kernel
theorem dX8_isEnd_24 : decode cX8_isEnd 24 = .ok (.iconst 0, 1) := by decide +kernel
theorem dX8_isEnd_25 : decode cX8_isEnd 25 = .ok (.ireturn, 1) := by decide +kernel
theorem dX8_isFacts_0 : decode cX8_isFacts 0 = .ok (.aload_n 0, 1) := by decide +kernel
theorem dX8_isFacts_1 : decode cX8_isFacts 1 = .ok (.invokevirtual 110, 3) := by decide +kernel
theorem dX8_isFacts_4 : decode cX8_isFacts 4 = .ok (.aload_n 0, 1) := by decide +kernel
theorem dX8_isFacts_5 : decode cX8_isFacts 5 = .ok (.ldc2_w 116, 3) := by decide +kernel
theorem dX8_isFacts_8 : decode cX8_isFacts 8 = .ok (.invokevirtual 118, 3) := by decide +kernel
theorem dX8_isFacts_11 : decode cX8_isFacts 11 = .ok (.ifCond .ne 9, 3) := by decide +kernel
theorem dX8_isFacts_14 : decode cX8_isFacts 14 = .ok (.aload_n 0, 1) := by decide +kernel
theorem dX8_isFacts_15 : decode cX8_isFacts 15 = .ok (.iconst 1, 1) := by decide +kernel
theorem dX8_isFacts_16 : decode cX8_isFacts 16 = .ok (.invokevirtual 113, 3) := by decide +kernel
theorem dX8_isFacts_19 : decode cX8_isFacts 19 = .ok (.ireturn, 1) := by decide +kernel
theorem dX8_isFacts_20 : decode cX8_isFacts 20 = .ok (.aload_n 0, 1) := by decide +kernel
theorem dX8_isFacts_21 : decode cX8_isFacts 21 = .ok (.iconst 0, 1) := by decide +kernel
theorem dX8_isFacts_22 : decode cX8_isFacts 22 = .ok (.sipush 255, 3) := by decide +kernel
theorem dX8_isFacts_25 : decode cX8_isFacts 25 = .ok (.invokevirtual 122, 3) := by decide +kernel
theorem dX8_isFacts_28 : decode cX8_isFacts 28 = .ok (.ifCond .ne 5, 3) := by decide +kernel
theorem dX8_isFacts_31 : decode cX8_isFacts 31 = .ok (.iconst 0, 1) := by decide +kernel
theorem dX8_isFacts_32 : decode cX8_isFacts 32 = .ok (.ireturn, 1) := by decide +kernel
theorem dX8_isFacts_33 : decode cX8_isFacts 33 = .ok (.aload_n 0, 1) := by decide +kernel
theorem dX8_isFacts_34 : decode cX8_isFacts 34 = .ok (.getfield 25, 3) := by decide +kernel
theorem dX8_isFacts_37 : decode cX8_isFacts 37 = .ok (.iconst 1, 1) := by decide +kernel
theorem dX8_isFacts_38 : decode cX8_isFacts 38 = .ok (.aload_n 0, 1) := by decide +kernel
theorem dX8_isFacts_39 : decode cX8_isFacts 39 = .ok (.getfield 104, 3) := by decide +kernel
theorem dX8_isFacts_42 : decode cX8_isFacts 42 = .ok (.iastore, 1) := by decide +kernel
theorem dX8_isFacts_43 : decode cX8_isFacts 43 = .ok (.aload_n 0, 1) := by decide +kernel
theorem dX8_isFacts_44 : decode cX8_isFacts 44 = .ok (.bipush 8, 2) := by decide +kernel
theorem dX8_isFacts_46 : decode cX8_isFacts 46 = .ok (.bipush 15, 2) := by decide +kernel
theorem dX8_isFacts_48 : decode cX8_isFacts 48 = .ok (.invokevirtual 122, 3) := by decide +kernel
theorem dX8_isFacts_51 : decode cX8_isFacts 51 = .ok (.ifCond .ne 5, 3) := by decide +kernel
theorem dX8_isFacts_54 : decode cX8_isFacts 54 = .ok (.iconst 0, 1) := by decide +kernel
theorem dX8_isFacts_55 : decode cX8_isFacts 55 = .ok (.ireturn, 1) := by decide +kernel
theorem dX8_isFacts_56 : decode cX8_isFacts 56 = .ok (.aload_n 0, 1) := by decide +kernel
theorem dX8_isFacts_57 : decode cX8_isFacts 57 = .ok (.getfield 25, 3) := by decide +kernel
theorem dX8_isFacts_60 : decode cX8_isFacts 60 = .ok (.iconst 2, 1) := by decide +kernel
theorem dX8_isFacts_61 : decode cX8_isFacts 61 = .ok (.aload_n 0, 1) := by decide +kernel
theorem dX8_isFacts_62 : decode cX8_isFacts 62 = .ok (.getfield 104, 3) := by decide +kernel
theorem dX8_isFacts_65 : decode cX8_isFacts 65 = .ok (.iastore, 1) := by decide +kernel
theorem dX8_isFacts_66 : decode cX8_isFacts 66 = .ok (.aload_n 0, 1) := by decide +kernel
theorem dX8_isFacts_67 : decode cX8_isFacts 67 = .ok (.invokevirtual 126, 3) := by decide +kernel
theorem dX8_isFacts_70 : decode cX8_isFacts 70 = .ok (.ireturn, 1) := by decide +kernel
theorem dX8_isWall_0 : decode cX8_isWall 0 = .ok (.aload_n 0, 1) := by decide +kernel
theorem dX8_isWall_1 : decode cX8_isWall 1 = .ok (.iconst 0, 1) := by decide +kernel
theorem dX8_isWall_2 : decode cX8_isWall 2 = .ok (.bipush 15, 2) := by decide +kernel
theorem dX8_isWall_4 : decode cX8_isWall 4 = .ok (.invokevirtual 122, 3) := by decide +kernel
theorem dX8_isWall_7 : decode cX8_isWall 7 = .ok (.ifCond .ne 5, 3) := by decide +kernel
theorem dX8_isWall_10 : decode cX8_isWall 10 = .ok (.iconst 0, 1) := by decide +kernel
theorem dX8_isWall_11 : decode cX8_isWall 11 = .ok (.ireturn, 1) := by decide +kernel
theorem dX8_isWall_12 : decode cX8_isWall 12 = .ok (.aload_n 0, 1) := by decide +kernel
theorem dX8_isWall_13 : decode cX8_isWall 13 = .ok (.getfield 104, 3) := by decide +kernel
theorem dX8_isWall_16 : decode cX8_isWall 16 = .ok (.istore_n 1, 1) := by decide +kernel
theorem dX8_isWall_17 : decode cX8_isWall 17 = .ok (.aload_n 0, 1) := by decide +kernel
theorem dX8_isWall_18 : decode cX8_isWall 18 = .ok (.iconst 0, 1) := by decide +kernel
theorem dX8_isWall_19 : decode cX8_isWall 19 = .ok (.bipush 7, 2) := by decide +kernel
theorem dX8_isWall_21 : decode cX8_isWall 21 = .ok (.invokevirtual 122, 3) := by decide +kernel
theorem dX8_isWall_24 : decode cX8_isWall 24 = .ok (.ifCond .ne 5, 3) := by decide +kernel
theorem dX8_isWall_27 : decode cX8_isWall 27 = .ok (.iconst 0, 1) := by decide +kernel
theorem dX8_isWall_28 : decode cX8_isWall 28 = .ok (.ireturn, 1) := by decide +kernel
theorem dX8_isWall_29 : decode cX8_isWall 29 = .ok (.bipush 40, 2) := by decide +kernel
theorem dX8_isWall_31 : decode cX8_isWall 31 = .ok (.iload_n 1, 1) := by decide +kernel
theorem dX8_isWall_32 : decode cX8_isWall 32 = .ok (.iadd, 1) := by decide +kernel
theorem dX8_isWall_33 : decode cX8_isWall 33 = .ok (.bipush 16, 2) := by decide +kernel
theorem dX8_isWall_35 : decode cX8_isWall 35 = .ok (.aload_n 0, 1) := by decide +kernel
theorem dX8_isWall_36 : decode cX8_isWall 36 = .ok (.getfield 104, 3) := by decide +kernel
theorem dX8_isWall_39 : decode cX8_isWall 39 = .ok (.imul, 1) := by decide +kernel
theorem dX8_isWall_40 : decode cX8_isWall 40 = .ok (.iadd, 1) := by decide +kernel
theorem dX8_isWall_41 : decode cX8_isWall 41 = .ok (.istore_n 2, 1) := by decide +kernel
theorem dX8_isWall_42 : decode cX8_isWall 42 = .ok (.aload_n 0, 1) := by decide +kernel
theorem dX8_isWall_43 : decode cX8_isWall 43 = .ok (.getfield 25, 3) := by decide +kernel
theorem dX8_isWall_46 : decode cX8_isWall 46 = .ok (.iload_n 2, 1) := by decide +kernel
theorem dX8_isWall_47 : decode cX8_isWall 47 = .ok (.aload_n 0, 1) := by decide +kernel
theorem dX8_isWall_48 : decode cX8_isWall 48 = .ok (.getfield 25, 3) := by decide +kernel
theorem dX8_isWall_51 : decode cX8_isWall 51 = .ok (.iload_n 2, 1) := by decide +kernel
theorem dX8_isWall_52 : decode cX8_isWall 52 = .ok (.iaload, 1) := by decide +kernel
theorem dX8_isWall_53 : decode cX8_isWall 53 = .ok (.iconst 1, 1) := by decide +kernel
theorem dX8_isWall_54 : decode cX8_isWall 54 = .ok (.ior, 1) := by decide +kernel
theorem dX8_isWall_55 : decode cX8_isWall 55 = .ok (.iastore, 1) := by decide +kernel
theorem dX8_isWall_56 : decode cX8_isWall 56 = .ok (.aload_n 0, 1) := by decide +kernel
theorem dX8_isWall_57 : decode cX8_isWall 57 = .ok (.invokevirtual 126, 3) := by decide +kernel
theorem dX8_isWall_60 : decode cX8_isWall 60 = .ok (.ireturn, 1) := by decide +kernel
theorem dX8_isPath_0 : decode cX8_isPath 0 = .ok (.aload_n 0, 1) := by decide +kernel
theorem dX8_isPath_1 : decode cX8_isPath 1 = .ok (.iconst 0, 1) := by decide +kernel
theorem dX8_isPath_2 : decode cX8_isPath 2 = .ok (.bipush 7, 2) := by decide +kernel
theorem dX8_isPath_4 : decode cX8_isPath 4 = .ok (.invokevirtual 122, 3) := by decide +kernel
theorem dX8_isPath_7 : decode cX8_isPath 7 = .ok (.ifCond .ne 5, 3) := by decide +kernel
theorem dX8_isPath_10 : decode cX8_isPath 10 = .ok (.iconst 0, 1) := by decide +kernel
theorem dX8_isPath_11 : decode cX8_isPath 11 = .ok (.ireturn, 1) := by decide +kernel
theorem dX8_isPath_12 : decode cX8_isPath 12 = .ok (.aload_n 0, 1) := by decide +kernel
theorem dX8_isPath_13 : decode cX8_isPath 13 = .ok (.getfield 104, 3) := by decide +kernel
theorem dX8_isPath_16 : decode cX8_isPath 16 = .ok (.istore_n 1, 1) := by decide +kernel
theorem dX8_isPath_17 : decode cX8_isPath 17 = .ok (.aload_n 0, 1) := by decide +kernel
theorem dX8_isPath_18 : decode cX8_isPath 18 = .ok (.iconst 0, 1) := by decide +kernel
theorem dX8_isPath_19 : decode cX8_isPath 19 = .ok (.bipush 15, 2) := by decide +kernel
theorem dX8_isPath_21 : decode cX8_isPath 21 = .ok (.invokevirtual 122, 3) := by decide +kernel
theorem dX8_isPath_24 : decode cX8_isPath 24 = .ok (.ifCond .ne 5, 3) := by decide +kernel
theorem dX8_isPath_27 : decode cX8_isPath 27 = .ok (.iconst 0, 1) := by decide +kernel
theorem dX8_isPath_28 : decode cX8_isPath 28 = .ok (.ireturn, 1) := by decide +kernel
theorem dX8_isPath_29 : decode cX8_isPath 29 = .ok (.aload_n 0, 1) := by decide +kernel
theorem dX8_isPath_30 : decode cX8_isPath 30 = .ok (.getfield 104, 3) := by decide +kernel
theorem dX8_isPath_33 : decode cX8_isPath 33 = .ok (.istore_n 2, 1) := by decide +kernel
theorem dX8_isPath_34 : decode cX8_isPath 34 = .ok (.aload_n 0, 1) := by decide +kernel
theorem dX8_isPath_35 : decode cX8_isPath 35 = .ok (.iload_n 2, 1) := by decide +kernel
theorem dX8_isPath_36 : decode cX8_isPath 36 = .ok (.bipush 15, 2) := by decide +kernel
theorem dX8_isPath_38 : decode cX8_isPath 38 = .ok (.invokevirtual 122, 3) := by decide +kernel
theorem dX8_isPath_41 : decode cX8_isPath 41 = .ok (.ifCond .ne 5, 3) := by decide +kernel
theorem dX8_isPath_44 : decode cX8_isPath 44 = .ok (.iconst 0, 1) := by decide +kernel
theorem dX8_isPath_45 : decode cX8_isPath 45 = .ok (.ireturn, 1) := by decide +kernel
theorem dX8_isPath_46 : decode cX8_isPath 46 = .ok (.iload_n 2, 1) := by decide +kernel
theorem dX8_isPath_47 : decode cX8_isPath 47 = .ok (.istore_n 3, 1) := by decide +kernel
theorem dX8_isPath_48 : decode cX8_isPath 48 = .ok (.iload_n 3, 1) := by decide +kernel
theorem dX8_isPath_49 : decode cX8_isPath 49 = .ok (.aload_n 0, 1) := by decide +kernel
theorem dX8_isPath_50 : decode cX8_isPath 50 = .ok (.getfield 104, 3) := by decide +kernel
theorem dX8_isPath_53 : decode cX8_isPath 53 = .ok (.if_icmp .gt 39, 3) := by decide +kernel
theorem dX8_isPath_56 : decode cX8_isPath 56 = .ok (.aload_n 0, 1) := by decide +kernel
theorem dX8_isPath_57 : decode cX8_isPath 57 = .ok (.getfield 25, 3) := by decide +kernel
theorem dX8_isPath_60 : decode cX8_isPath 60 = .ok (.bipush 40, 2) := by decide +kernel
theorem dX8_isPath_62 : decode cX8_isPath 62 = .ok (.iload_n 3, 1) := by decide +kernel
theorem dX8_isPath_63 : decode cX8_isPath 63 = .ok (.iadd, 1) := by decide +kernel
theorem dX8_isPath_64 : decode cX8_isPath 64 = .ok (.bipush 16, 2) := by decide +kernel
theorem dX8_isPath_66 : decode cX8_isPath 66 = .ok (.iload_n 1, 1) := by decide +kernel
theorem dX8_isPath_67 : decode cX8_isPath 67 = .ok (.imul, 1) := by decide +kernel
theorem dX8_isPath_68 : decode cX8_isPath 68 = .ok (.iadd, 1) := by decide +kernel
theorem dX8_isPath_69 : decode cX8_isPath 69 = .ok (.aload_n 0, 1) := by decide +kernel
theorem dX8_isPath_70 : decode cX8_isPath 70 = .ok (.getfield 25, 3) := by decide +kernel
theorem dX8_isPath_73 : decode cX8_isPath 73 = .ok (.bipush 40, 2) := by decide +kernel
theorem dX8_isPath_75 : decode cX8_isPath 75 = .ok (.iload_n 3, 1) := by decide +kernel
theorem dX8_isPath_76 : decode cX8_isPath 76 = .ok (.iadd, 1) := by decide +kernel
theorem dX8_isPath_77 : decode cX8_isPath 77 = .ok (.bipush 16, 2) := by decide +kernel
theorem dX8_isPath_79 : decode cX8_isPath 79 = .ok (.iload_n 1, 1) := by decide +kernel
theorem dX8_isPath_80 : decode cX8_isPath 80 = .ok (.imul, 1) := by decide +kernel
theorem dX8_isPath_81 : decode cX8_isPath 81 = .ok (.iadd, 1) := by decide +kernel
theorem dX8_isPath_82 : decode cX8_isPath 82 = .ok (.iaload, 1) := by decide +kernel
theorem dX8_isPath_83 : decode cX8_isPath 83 = .ok (.iconst 2, 1) := by decide +kernel
theorem dX8_isPath_84 : decode cX8_isPath 84 = .ok (.ior, 1) := by decide +kernel
theorem dX8_isPath_85 : decode cX8_isPath 85 = .ok (.iastore, 1) := by decide +kernel
theorem dX8_isPath_86 : decode cX8_isPath 86 = .ok (.iinc 3 1, 3) := by decide +kernel
theorem dX8_isPath_89 : decode cX8_isPath 89 = .ok (.goto (-41), 3) := by decide +kernel
theorem dX8_isPath_92 : decode cX8_isPath 92 = .ok (.aload_n 0, 1) := by decide +kernel
theorem dX8_isPath_93 : decode cX8_isPath 93 = .ok (.invokevirtual 126, 3) := by decide +kernel
theorem dX8_isPath_96 : decode cX8_isPath 96 = .ok (.ireturn, 1) := by decide +kernel
theorem dX8_isOf_0 : decode cX8_isOf 0 = .ok (.iload_n 2, 1) := by decide +kernel
theorem dX8_isOf_1 : decode cX8_isOf 1 = .ok (.aload_n 0, 1) := by decide +kernel
theorem dX8_isOf_2 : decode cX8_isOf 2 = .ok (.bipush 10, 2) := by decide +kernel
theorem dX8_isOf_4 : decode cX8_isOf 4 = .ok (.iload_n 1, 1) := by decide +kernel
theorem dX8_isOf_5 : decode cX8_isOf 5 = .ok (.iadd, 1) := by decide +kernel
theorem dX8_isOf_6 : decode cX8_isOf 6 = .ok (.iaload, 1) := by decide +kernel
theorem dX8_isOf_7 : decode cX8_isOf 7 = .ok (.if_icmp .lt 51, 3) := by decide +kernel
theorem dX8_isOf_10 : decode cX8_isOf 10 = .ok (.iload_n 2, 1) := by decide +kernel
theorem dX8_isOf_11 : decode cX8_isOf 11 = .ok (.aload_n 0, 1) := by decide +kernel
theorem dX8_isOf_12 : decode cX8_isOf 12 = .ok (.bipush 10, 2) := by decide +kernel
theorem dX8_isOf_14 : decode cX8_isOf 14 = .ok (.iload_n 1, 1) := by decide +kernel
theorem dX8_isOf_15 : decode cX8_isOf 15 = .ok (.iadd, 1) := by decide +kernel
theorem dX8_isOf_16 : decode cX8_isOf 16 = .ok (.iaload, 1) := by decide +kernel
theorem dX8_isOf_17 : decode cX8_isOf 17 = .ok (.aload_n 0, 1) := by decide +kernel
theorem dX8_isOf_18 : decode cX8_isOf 18 = .ok (.bipush 22, 2) := by decide +kernel
theorem dX8_isOf_20 : decode cX8_isOf 20 = .ok (.iload_n 1, 1) := by decide +kernel
theorem dX8_isOf_21 : decode cX8_isOf 21 = .ok (.iadd, 1) := by decide +kernel
theorem dX8_isOf_22 : decode cX8_isOf 22 = .ok (.iaload, 1) := by decide +kernel
theorem dX8_isOf_23 : decode cX8_isOf 23 = .ok (.iadd, 1) := by decide +kernel
theorem dX8_isOf_24 : decode cX8_isOf 24 = .ok (.if_icmp .ge 34, 3) := by decide +kernel
theorem dX8_isOf_27 : decode cX8_isOf 27 = .ok (.iload_n 3, 1) := by decide +kernel
theorem dX8_isOf_28 : decode cX8_isOf 28 = .ok (.aload_n 0, 1) := by decide +kernel
theorem dX8_isOf_29 : decode cX8_isOf 29 = .ok (.bipush 16, 2) := by decide +kernel
theorem dX8_isOf_31 : decode cX8_isOf 31 = .ok (.iload_n 1, 1) := by decide +kernel
theorem dX8_isOf_32 : decode cX8_isOf 32 = .ok (.iadd, 1) := by decide +kernel
theorem dX8_isOf_33 : decode cX8_isOf 33 = .ok (.iaload, 1) := by decide +kernel
theorem dX8_isOf_34 : decode cX8_isOf 34 = .ok (.if_icmp .lt 24, 3) := by decide +kernel
theorem dX8_isOf_37 : decode cX8_isOf 37 = .ok (.iload_n 3, 1) := by decide +kernel
theorem dX8_isOf_38 : decode cX8_isOf 38 = .ok (.aload_n 0, 1) := by decide +kernel
theorem dX8_isOf_39 : decode cX8_isOf 39 = .ok (.bipush 16, 2) := by decide +kernel
theorem dX8_isOf_41 : decode cX8_isOf 41 = .ok (.iload_n 1, 1) := by decide +kernel
theorem dX8_isOf_42 : decode cX8_isOf 42 = .ok (.iadd, 1) := by decide +kernel
theorem dX8_isOf_43 : decode cX8_isOf 43 = .ok (.iaload, 1) := by decide +kernel
theorem dX8_isOf_44 : decode cX8_isOf 44 = .ok (.aload_n 0, 1) := by decide +kernel
theorem dX8_isOf_45 : decode cX8_isOf 45 = .ok (.bipush 28, 2) := by decide +kernel
theorem dX8_isOf_47 : decode cX8_isOf 47 = .ok (.iload_n 1, 1) := by decide +kernel
theorem dX8_isOf_48 : decode cX8_isOf 48 = .ok (.iadd, 1) := by decide +kernel
theorem dX8_isOf_49 : decode cX8_isOf 49 = .ok (.iaload, 1) := by decide +kernel
theorem dX8_isOf_50 : decode cX8_isOf 50 = .ok (.iadd, 1) := by decide +kernel
theorem dX8_isOf_51 : decode cX8_isOf 51 = .ok (.if_icmp .ge 7, 3) := by decide +kernel
theorem dX8_isOf_54 : decode cX8_isOf 54 = .ok (.iconst 1, 1) := by decide +kernel
theorem dX8_isOf_55 : decode cX8_isOf 55 = .ok (.goto 4, 3) := by decide +kernel
theorem dX8_isOf_58 : decode cX8_isOf 58 = .ok (.iconst 0, 1) := by decide +kernel
theorem dX8_isOf_59 : decode cX8_isOf 59 = .ok (.ireturn, 1) := by decide +kernel
theorem dX8_houseAt_0 : decode cX8_houseAt 0 = .ok (.iconst 0, 1) := by decide +kernel
theorem dX8_houseAt_1 : decode cX8_houseAt 1 = .ok (.istore_n 3, 1) := by decide +kernel
theorem dX8_houseAt_2 : decode cX8_houseAt 2 = .ok (.iload_n 3, 1) := by decide +kernel
theorem dX8_houseAt_3 : decode cX8_houseAt 3 = .ok (.aload_n 0, 1) := by decide +kernel
theorem dX8_houseAt_4 : decode cX8_houseAt 4 = .ok (.iconst 3, 1) := by decide +kernel
theorem dX8_houseAt_5 : decode cX8_houseAt 5 = .ok (.iaload, 1) := by decide +kernel
theorem dX8_houseAt_6 : decode cX8_houseAt 6 = .ok (.if_icmp .ge 21, 3) := by decide +kernel
theorem dX8_houseAt_9 : decode cX8_houseAt 9 = .ok (.aload_n 0, 1) := by decide +kernel
theorem dX8_houseAt_10 : decode cX8_houseAt 10 = .ok (.iload_n 3, 1) := by decide +kernel
theorem dX8_houseAt_11 : decode cX8_houseAt 11 = .ok (.iload_n 1, 1) := by decide +kernel
theorem dX8_houseAt_12 : decode cX8_houseAt 12 = .ok (.iload_n 2, 1) := by decide +kernel
theorem dX8_houseAt_13 : decode cX8_houseAt 13 = .ok (.invokestatic 130, 3) := by decide +kernel
theorem dX8_houseAt_16 : decode cX8_houseAt 16 = .ok (.ifCond .eq 5, 3) := by decide +kernel
theorem dX8_houseAt_19 : decode cX8_houseAt 19 = .ok (.iload_n 3, 1) := by decide +kernel
theorem dX8_houseAt_20 : decode cX8_houseAt 20 = .ok (.ireturn, 1) := by decide +kernel
theorem dX8_houseAt_21 : decode cX8_houseAt 21 = .ok (.iinc 3 1, 3) := by decide +kernel
theorem dX8_houseAt_24 : decode cX8_houseAt 24 = .ok (.goto (-22), 3) := by decide +kernel
theorem dX8_houseAt_27 : decode cX8_houseAt 27 = .ok (.ldc 50, 2) := by decide +kernel
theorem dX8_houseAt_29 : decode cX8_houseAt 29 = .ok (.ireturn, 1) := by decide +kernel
theorem dX8_isWallAt_0 : decode cX8_isWallAt 0 = .ok (.aload_n 0, 1) := by decide +kernel
theorem dX8_isWallAt_1 : decode cX8_isWallAt 1 = .ok (.bipush 40, 2) := by decide +kernel
theorem dX8_isWallAt_3 : decode cX8_isWallAt 3 = .ok (.iload_n 1, 1) := by decide +kernel
theorem dX8_isWallAt_4 : decode cX8_isWallAt 4 = .ok (.iadd, 1) := by decide +kernel
theorem dX8_isWallAt_5 : decode cX8_isWallAt 5 = .ok (.bipush 16, 2) := by decide +kernel
theorem dX8_isWallAt_7 : decode cX8_isWallAt 7 = .ok (.iload_n 2, 1) := by decide +kernel
theorem dX8_isWallAt_8 : decode cX8_isWallAt 8 = .ok (.imul, 1) := by decide +kernel
theorem dX8_isWallAt_9 : decode cX8_isWallAt 9 = .ok (.iadd, 1) := by decide +kernel
theorem dX8_isWallAt_10 : decode cX8_isWallAt 10 = .ok (.iaload, 1) := by decide +kernel
theorem dX8_isWallAt_11 : decode cX8_isWallAt 11 = .ok (.iconst 1, 1) := by decide +kernel
theorem dX8_isWallAt_12 : decode cX8_isWallAt 12 = .ok (.iand, 1) := by decide +kernel
theorem dX8_isWallAt_13 : decode cX8_isWallAt 13 = .ok (.iconst 1, 1) := by decide +kernel
theorem dX8_isWallAt_14 : decode cX8_isWallAt 14 = .ok (.if_icmp .ne 7, 3) := by decide +kernel
theorem dX8_isWallAt_17 : decode cX8_isWallAt 17 = .ok (.iconst 1, 1) := by decide +kernel
theorem dX8_isWallAt_18 : decode cX8_isWallAt 18 = .ok (.goto 4, 3) := by decide +kernel
theorem dX8_isWallAt_21 : decode cX8_isWallAt 21 = .ok (.iconst 0, 1) := by decide +kernel
theorem dX8_isWallAt_22 : decode cX8_isWallAt 22 = .ok (.ireturn, 1) := by decide +kernel
theorem dX8_isHouse_0 : decode cX8_isHouse 0 = .ok (.aload_n 0, 1) := by decide +kernel
theorem dX8_isHouse_1 : decode cX8_isHouse 1 = .ok (.getfield 25, 3) := by decide +kernel
theorem dX8_isHouse_4 : decode cX8_isHouse 4 = .ok (.iconst 3, 1) := by decide +kernel
theorem dX8_isHouse_5 : decode cX8_isHouse 5 = .ok (.iaload, 1) := by decide +kernel
theorem dX8_isHouse_6 : decode cX8_isHouse 6 = .ok (.istore_n 1, 1) := by decide +kernel
theorem dX8_isHouse_7 : decode cX8_isHouse 7 = .ok (.aload_n 0, 1) := by decide +kernel
theorem dX8_isHouse_8 : decode cX8_isHouse 8 = .ok (.invokevirtual 110, 3) := by decide +kernel
theorem dX8_isHouse_11 : decode cX8_isHouse 11 = .ok (.aload_n 0, 1) := by decide +kernel
theorem dX8_isHouse_12 : decode cX8_isHouse 12 = .ok (.ldc2_w 134, 3) := by decide +kernel
theorem dX8_isHouse_15 : decode cX8_isHouse 15 = .ok (.invokevirtual 118, 3) := by decide +kernel
theorem dX8_isHouse_18 : decode cX8_isHouse 18 = .ok (.ifCond .eq 7, 3) := by decide +kernel
theorem dX8_isHouse_21 : decode cX8_isHouse 21 = .ok (.iconst 1, 1) := by decide +kernel
theorem dX8_isHouse_22 : decode cX8_isHouse 22 = .ok (.goto 60, 3) := by decide +kernel
theorem dX8_isHouse_25 : decode cX8_isHouse 25 = .ok (.aload_n 0, 1) := by decide +kernel
theorem dX8_isHouse_26 : decode cX8_isHouse 26 = .ok (.ldc2_w 136, 3) := by decide +kernel
theorem dX8_isHouse_29 : decode cX8_isHouse 29 = .ok (.invokevirtual 118, 3) := by decide +kernel
theorem dX8_isHouse_32 : decode cX8_isHouse 32 = .ok (.ifCond .eq 7, 3) := by decide +kernel
theorem dX8_isHouse_35 : decode cX8_isHouse 35 = .ok (.iconst 2, 1) := by decide +kernel
theorem dX8_isHouse_36 : decode cX8_isHouse 36 = .ok (.goto 46, 3) := by decide +kernel
theorem dX8_isHouse_39 : decode cX8_isHouse 39 = .ok (.aload_n 0, 1) := by decide +kernel
theorem dX8_isHouse_40 : decode cX8_isHouse 40 = .ok (.ldc2_w 138, 3) := by decide +kernel
theorem dX8_isHouse_43 : decode cX8_isHouse 43 = .ok (.invokevirtual 118, 3) := by decide +kernel
theorem dX8_isHouse_46 : decode cX8_isHouse 46 = .ok (.ifCond .eq 7, 3) := by decide +kernel
theorem dX8_isHouse_49 : decode cX8_isHouse 49 = .ok (.iconst 3, 1) := by decide +kernel
theorem dX8_isHouse_50 : decode cX8_isHouse 50 = .ok (.goto 32, 3) := by decide +kernel
theorem dX8_isHouse_53 : decode cX8_isHouse 53 = .ok (.aload_n 0, 1) := by decide +kernel
theorem dX8_isHouse_54 : decode cX8_isHouse 54 = .ok (.ldc2_w 140, 3) := by decide +kernel
theorem dX8_isHouse_57 : decode cX8_isHouse 57 = .ok (.invokevirtual 118, 3) := by decide +kernel
theorem dX8_isHouse_60 : decode cX8_isHouse 60 = .ok (.ifCond .eq 7, 3) := by decide +kernel
theorem dX8_isHouse_63 : decode cX8_isHouse 63 = .ok (.iconst 4, 1) := by decide +kernel
theorem dX8_isHouse_64 : decode cX8_isHouse 64 = .ok (.goto 18, 3) := by decide +kernel
theorem dX8_isHouse_67 : decode cX8_isHouse 67 = .ok (.aload_n 0, 1) := by decide +kernel
theorem dX8_isHouse_68 : decode cX8_isHouse 68 = .ok (.ldc2_w 142, 3) := by decide +kernel
theorem dX8_isHouse_71 : decode cX8_isHouse 71 = .ok (.invokevirtual 118, 3) := by decide +kernel
theorem dX8_isHouse_74 : decode cX8_isHouse 74 = .ok (.ifCond .eq 7, 3) := by decide +kernel
theorem dX8_isHouse_77 : decode cX8_isHouse 77 = .ok (.iconst 5, 1) := by decide +kernel
theorem dX8_isHouse_78 : decode cX8_isHouse 78 = .ok (.goto 4, 3) := by decide +kernel
theorem dX8_isHouse_81 : decode cX8_isHouse 81 = .ok (.iconst 0, 1) := by decide +kernel
theorem dX8_isHouse_82 : decode cX8_isHouse 82 = .ok (.istore_n 2, 1) := by decide +kernel
theorem dX8_isHouse_83 : decode cX8_isHouse 83 = .ok (.iload_n 2, 1) := by decide +kernel
theorem dX8_isHouse_84 : decode cX8_isHouse 84 = .ok (.ifCond .ne 9, 3) := by decide +kernel
theorem dX8_isHouse_87 : decode cX8_isHouse 87 = .ok (.aload_n 0, 1) := by decide +kernel
theorem dX8_isHouse_88 : decode cX8_isHouse 88 = .ok (.iconst 1, 1) := by decide +kernel
theorem dX8_isHouse_89 : decode cX8_isHouse 89 = .ok (.invokevirtual 113, 3) := by decide +kernel
theorem dX8_isHouse_92 : decode cX8_isHouse 92 = .ok (.ireturn, 1) := by decide +kernel
theorem dX8_isHouse_93 : decode cX8_isHouse 93 = .ok (.aload_n 0, 1) := by decide +kernel
theorem dX8_isHouse_94 : decode cX8_isHouse 94 = .ok (.getfield 25, 3) := by decide +kernel
theorem dX8_isHouse_97 : decode cX8_isHouse 97 = .ok (.iconst 4, 1) := by decide +kernel
theorem dX8_isHouse_98 : decode cX8_isHouse 98 = .ok (.iload_n 1, 1) := by decide +kernel
theorem dX8_isHouse_99 : decode cX8_isHouse 99 = .ok (.iadd, 1) := by decide +kernel
theorem dX8_isHouse_100 : decode cX8_isHouse 100 = .ok (.iload_n 2, 1) := by decide +kernel
theorem dX8_isHouse_101 : decode cX8_isHouse 101 = .ok (.iastore, 1) := by decide +kernel
theorem dX8_isHouse_102 : decode cX8_isHouse 102 = .ok (.aload_n 0, 1) := by decide +kernel
theorem dX8_isHouse_103 : decode cX8_isHouse 103 = .ok (.getfield 25, 3) := by decide +kernel
theorem dX8_isHouse_106 : decode cX8_isHouse 106 = .ok (.bipush 34, 2) := by decide +kernel
theorem dX8_isHouse_108 : decode cX8_isHouse 108 = .ok (.iload_n 1, 1) := by decide +kernel
theorem dX8_isHouse_109 : decode cX8_isHouse 109 = .ok (.iadd, 1) := by decide +kernel
theorem dX8_isHouse_110 : decode cX8_isHouse 110 = .ok (.iconst 0, 1) := by decide +kernel
theorem dX8_isHouse_111 : decode cX8_isHouse 111 = .ok (.iastore, 1) := by decide +kernel
theorem dX8_isHouse_112 : decode cX8_isHouse 112 = .ok (.iconst 0, 1) := by decide +kernel
theorem dX8_isHouse_113 : decode cX8_isHouse 113 = .ok (.istore_n 3, 1) := by decide +kernel
theorem dX8_isHouse_114 : decode cX8_isHouse 114 = .ok (.iload_n 3, 1) := by decide +kernel
theorem dX8_isHouse_115 : decode cX8_isHouse 115 = .ok (.iconst 4, 1) := by decide +kernel
theorem dX8_isHouse_116 : decode cX8_isHouse 116 = .ok (.if_icmp .ge 75, 3) := by decide +kernel
theorem dX8_isHouse_119 : decode cX8_isHouse 119 = .ok (.aload_n 0, 1) := by decide +kernel
theorem dX8_isHouse_120 : decode cX8_isHouse 120 = .ok (.iload_n 3, 1) := by decide +kernel
theorem dX8_isHouse_121 : decode cX8_isHouse 121 = .ok (.iconst 2, 1) := by decide +kernel
theorem dX8_isHouse_122 : decode cX8_isHouse 122 = .ok (.if_icmp .ge 7, 3) := by decide +kernel
theorem dX8_isHouse_125 : decode cX8_isHouse 125 = .ok (.iconst 0, 1) := by decide +kernel
theorem dX8_isHouse_126 : decode cX8_isHouse 126 = .ok (.goto 4, 3) := by decide +kernel
theorem dX8_isHouse_129 : decode cX8_isHouse 129 = .ok (.iconst 1, 1) := by decide +kernel
theorem dX8_isHouse_130 : decode cX8_isHouse 130 = .ok (.iload_n 3, 1) := by decide +kernel
theorem dX8_isHouse_131 : decode cX8_isHouse 131 = .ok (.ifCond .ne 8, 3) := by decide +kernel
theorem dX8_isHouse_134 : decode cX8_isHouse 134 = .ok (.bipush 15, 2) := by decide +kernel
theorem dX8_isHouse_136 : decode cX8_isHouse 136 = .ok (.goto 23, 3) := by decide +kernel
theorem dX8_isHouse_139 : decode cX8_isHouse 139 = .ok (.iload_n 3, 1) := by decide +kernel
theorem dX8_isHouse_140 : decode cX8_isHouse 140 = .ok (.iconst 1, 1) := by decide +kernel
theorem dX8_isHouse_141 : decode cX8_isHouse 141 = .ok (.if_icmp .ne 8, 3) := by decide +kernel
theorem dX8_isHouse_144 : decode cX8_isHouse 144 = .ok (.bipush 7, 2) := by decide +kernel
theorem dX8_isHouse_146 : decode cX8_isHouse 146 = .ok (.goto 13, 3) := by decide +kernel
theorem dX8_isHouse_149 : decode cX8_isHouse 149 = .ok (.iload_n 3, 1) := by decide +kernel
theorem dX8_isHouse_150 : decode cX8_isHouse 150 = .ok (.iconst 2, 1) := by decide +kernel
theorem dX8_isHouse_151 : decode cX8_isHouse 151 = .ok (.if_icmp .ne 7, 3) := by decide +kernel
theorem dX8_isHouse_154 : decode cX8_isHouse 154 = .ok (.iconst 4, 1) := by decide +kernel
theorem dX8_isHouse_155 : decode cX8_isHouse 155 = .ok (.goto 4, 3) := by decide +kernel
theorem dX8_isHouse_158 : decode cX8_isHouse 158 = .ok (.iconst 3, 1) := by decide +kernel
theorem dX8_isHouse_159 : decode cX8_isHouse 159 = .ok (.invokevirtual 122, 3) := by decide +kernel
theorem dX8_isHouse_162 : decode cX8_isHouse 162 = .ok (.ifCond .ne 5, 3) := by decide +kernel
theorem dX8_isHouse_165 : decode cX8_isHouse 165 = .ok (.iconst 0, 1) := by decide +kernel
theorem dX8_isHouse_166 : decode cX8_isHouse 166 = .ok (.ireturn, 1) := by decide +kernel
theorem dX8_isHouse_167 : decode cX8_isHouse 167 = .ok (.aload_n 0, 1) := by decide +kernel
theorem dX8_isHouse_168 : decode cX8_isHouse 168 = .ok (.getfield 25, 3) := by decide +kernel
theorem dX8_isHouse_171 : decode cX8_isHouse 171 = .ok (.bipush 10, 2) := by decide +kernel
theorem dX8_isHouse_173 : decode cX8_isHouse 173 = .ok (.bipush 6, 2) := by decide +kernel
theorem dX8_isHouse_175 : decode cX8_isHouse 175 = .ok (.iload_n 3, 1) := by decide +kernel
theorem dX8_isHouse_176 : decode cX8_isHouse 176 = .ok (.imul, 1) := by decide +kernel
theorem dX8_isHouse_177 : decode cX8_isHouse 177 = .ok (.iadd, 1) := by decide +kernel
theorem dX8_isHouse_178 : decode cX8_isHouse 178 = .ok (.iload_n 1, 1) := by decide +kernel
theorem dX8_isHouse_179 : decode cX8_isHouse 179 = .ok (.iadd, 1) := by decide +kernel
theorem dX8_isHouse_180 : decode cX8_isHouse 180 = .ok (.aload_n 0, 1) := by decide +kernel
theorem dX8_isHouse_181 : decode cX8_isHouse 181 = .ok (.getfield 104, 3) := by decide +kernel
theorem dX8_isHouse_184 : decode cX8_isHouse 184 = .ok (.iastore, 1) := by decide +kernel
theorem dX8_isHouse_185 : decode cX8_isHouse 185 = .ok (.iinc 3 1, 3) := by decide +kernel
theorem dX8_isHouse_188 : decode cX8_isHouse 188 = .ok (.goto (-74), 3) := by decide +kernel
theorem dX8_isHouse_191 : decode cX8_isHouse 191 = .ok (.aload_n 0, 1) := by decide +kernel
theorem dX8_isHouse_192 : decode cX8_isHouse 192 = .ok (.getfield 25, 3) := by decide +kernel
theorem dX8_isHouse_195 : decode cX8_isHouse 195 = .ok (.bipush 10, 2) := by decide +kernel
theorem dX8_isHouse_197 : decode cX8_isHouse 197 = .ok (.iload_n 1, 1) := by decide +kernel
theorem dX8_isHouse_198 : decode cX8_isHouse 198 = .ok (.iadd, 1) := by decide +kernel
theorem dX8_isHouse_199 : decode cX8_isHouse 199 = .ok (.iaload, 1) := by decide +kernel
theorem dX8_isHouse_200 : decode cX8_isHouse 200 = .ok (.istore_n 3, 1) := by decide +kernel
theorem dX8_isHouse_201 : decode cX8_isHouse 201 = .ok (.iload_n 3, 1) := by decide +kernel
theorem dX8_isHouse_202 : decode cX8_isHouse 202 = .ok (.aload_n 0, 1) := by decide +kernel
theorem dX8_isHouse_203 : decode cX8_isHouse 203 = .ok (.getfield 25, 3) := by decide +kernel
theorem dX8_isHouse_206 : decode cX8_isHouse 206 = .ok (.bipush 10, 2) := by decide +kernel
theorem dX8_isHouse_208 : decode cX8_isHouse 208 = .ok (.iload_n 1, 1) := by decide +kernel
theorem dX8_isHouse_209 : decode cX8_isHouse 209 = .ok (.iadd, 1) := by decide +kernel
theorem dX8_isHouse_210 : decode cX8_isHouse 210 = .ok (.iaload, 1) := by decide +kernel
theorem dX8_isHouse_211 : decode cX8_isHouse 211 = .ok (.aload_n 0, 1) := by decide +kernel
theorem dX8_isHouse_212 : decode cX8_isHouse 212 = .ok (.getfield 25, 3) := by decide +kernel
theorem dX8_isHouse_215 : decode cX8_isHouse 215 = .ok (.bipush 22, 2) := by decide +kernel
theorem dX8_isHouse_217 : decode cX8_isHouse 217 = .ok (.iload_n 1, 1) := by decide +kernel
theorem dX8_isHouse_218 : decode cX8_isHouse 218 = .ok (.iadd, 1) := by decide +kernel
theorem dX8_isHouse_219 : decode cX8_isHouse 219 = .ok (.iaload, 1) := by decide +kernel
theorem dX8_isHouse_220 : decode cX8_isHouse 220 = .ok (.iadd, 1) := by decide +kernel
theorem dX8_isHouse_221 : decode cX8_isHouse 221 = .ok (.if_icmp .ge 97, 3) := by decide +kernel
theorem dX8_isHouse_224 : decode cX8_isHouse 224 = .ok (.aload_n 0, 1) := by decide +kernel
theorem dX8_isHouse_225 : decode cX8_isHouse 225 = .ok (.getfield 25, 3) := by decide +kernel
theorem dX8_isHouse_228 : decode cX8_isHouse 228 = .ok (.bipush 16, 2) := by decide +kernel
theorem dX8_isHouse_230 : decode cX8_isHouse 230 = .ok (.iload_n 1, 1) := by decide +kernel
theorem dX8_isHouse_231 : decode cX8_isHouse 231 = .ok (.iadd, 1) := by decide +kernel
theorem dX8_isHouse_232 : decode cX8_isHouse 232 = .ok (.iaload, 1) := by decide +kernel
theorem dX8_isHouse_233 : decode cX8_isHouse 233 = .ok (.istore 4, 2) := by decide +kernel
theorem dX8_isHouse_235 : decode cX8_isHouse 235 = .ok (.iload 4, 2) := by decide +kernel
theorem dX8_isHouse_237 : decode cX8_isHouse 237 = .ok (.aload_n 0, 1) := by decide +kernel
theorem dX8_isHouse_238 : decode cX8_isHouse 238 = .ok (.getfield 25, 3) := by decide +kernel
theorem dX8_isHouse_241 : decode cX8_isHouse 241 = .ok (.bipush 16, 2) := by decide +kernel
theorem dX8_isHouse_243 : decode cX8_isHouse 243 = .ok (.iload_n 1, 1) := by decide +kernel
theorem dX8_isHouse_244 : decode cX8_isHouse 244 = .ok (.iadd, 1) := by decide +kernel
theorem dX8_isHouse_245 : decode cX8_isHouse 245 = .ok (.iaload, 1) := by decide +kernel
theorem dX8_isHouse_246 : decode cX8_isHouse 246 = .ok (.aload_n 0, 1) := by decide +kernel
theorem dX8_isHouse_247 : decode cX8_isHouse 247 = .ok (.getfield 25, 3) := by decide +kernel
theorem dX8_isHouse_250 : decode cX8_isHouse 250 = .ok (.bipush 28, 2) := by decide +kernel
theorem dX8_isHouse_252 : decode cX8_isHouse 252 = .ok (.iload_n 1, 1) := by decide +kernel
theorem dX8_isHouse_253 : decode cX8_isHouse 253 = .ok (.iadd, 1) := by decide +kernel
theorem dX8_isHouse_254 : decode cX8_isHouse 254 = .ok (.iaload, 1) := by decide +kernel
theorem dX8_isHouse_255 : decode cX8_isHouse 255 = .ok (.iadd, 1) := by decide +kernel
theorem dX8_isHouse_256 : decode cX8_isHouse 256 = .ok (.if_icmp .ge 56, 3) := by decide +kernel
theorem dX8_isHouse_259 : decode cX8_isHouse 259 = .ok (.iload_n 3, 1) := by decide +kernel
theorem dX8_isHouse_260 : decode cX8_isHouse 260 = .ok (.bipush 15, 2) := by decide +kernel
theorem dX8_isHouse_262 : decode cX8_isHouse 262 = .ok (.if_icmp .gt 38, 3) := by decide +kernel
theorem dX8_isHouse_265 : decode cX8_isHouse 265 = .ok (.iload 4, 2) := by decide +kernel
theorem dX8_isHouse_267 : decode cX8_isHouse 267 = .ok (.bipush 7, 2) := by decide +kernel
theorem dX8_isHouse_269 : decode cX8_isHouse 269 = .ok (.if_icmp .gt 31, 3) := by decide +kernel
theorem dX8_isHouse_272 : decode cX8_isHouse 272 = .ok (.aload_n 0, 1) := by decide +kernel
theorem dX8_isHouse_273 : decode cX8_isHouse 273 = .ok (.getfield 25, 3) := by decide +kernel
theorem dX8_isHouse_276 : decode cX8_isHouse 276 = .ok (.iload_n 3, 1) := by decide +kernel
theorem dX8_isHouse_277 : decode cX8_isHouse 277 = .ok (.iload 4, 2) := by decide +kernel
theorem dX8_isHouse_279 : decode cX8_isHouse 279 = .ok (.invokestatic 144, 3) := by decide +kernel
theorem dX8_isHouse_282 : decode cX8_isHouse 282 = .ok (.ifCond .ne 18, 3) := by decide +kernel
theorem dX8_isHouse_285 : decode cX8_isHouse 285 = .ok (.aload_n 0, 1) := by decide +kernel
theorem dX8_isHouse_286 : decode cX8_isHouse 286 = .ok (.getfield 25, 3) := by decide +kernel
theorem dX8_isHouse_289 : decode cX8_isHouse 289 = .ok (.iload_n 3, 1) := by decide +kernel
theorem dX8_isHouse_290 : decode cX8_isHouse 290 = .ok (.iload 4, 2) := by decide +kernel
theorem dX8_isHouse_292 : decode cX8_isHouse 292 = .ok (.invokestatic 148, 3) := by decide +kernel
theorem dX8_isHouse_295 : decode cX8_isHouse 295 = .ok (.ldc 50, 2) := by decide +kernel
theorem dX8_isHouse_297 : decode cX8_isHouse 297 = .ok (.if_icmp .eq 9, 3) := by decide +kernel
theorem dX8_isHouse_300 : decode cX8_isHouse 300 = .ok (.aload_n 0, 1) := by decide +kernel
theorem dX8_isHouse_301 : decode cX8_isHouse 301 = .ok (.iconst 2, 1) := by decide +kernel
theorem dX8_isHouse_302 : decode cX8_isHouse 302 = .ok (.invokevirtual 113, 3) := by decide +kernel
theorem dX8_isHouse_305 : decode cX8_isHouse 305 = .ok (.ireturn, 1) := by decide +kernel
theorem dX8_isHouse_306 : decode cX8_isHouse 306 = .ok (.iinc 4 1, 3) := by decide +kernel
theorem dX8_isHouse_309 : decode cX8_isHouse 309 = .ok (.goto (-74), 3) := by decide +kernel
theorem dX8_isHouse_312 : decode cX8_isHouse 312 = .ok (.iinc 3 1, 3) := by decide +kernel
theorem dX8_isHouse_315 : decode cX8_isHouse 315 = .ok (.goto (-114), 3) := by decide +kernel
theorem dX8_isHouse_318 : decode cX8_isHouse 318 = .ok (.aload_n 0, 1) := by decide +kernel
theorem dX8_isHouse_319 : decode cX8_isHouse 319 = .ok (.getfield 25, 3) := by decide +kernel
theorem dX8_isHouse_322 : decode cX8_isHouse 322 = .ok (.iconst 3, 1) := by decide +kernel
theorem dX8_isHouse_323 : decode cX8_isHouse 323 = .ok (.dup2, 1) := by decide +kernel
theorem dX8_isHouse_324 : decode cX8_isHouse 324 = .ok (.iaload, 1) := by decide +kernel
theorem dX8_isHouse_325 : decode cX8_isHouse 325 = .ok (.iconst 1, 1) := by decide +kernel
theorem dX8_isHouse_326 : decode cX8_isHouse 326 = .ok (.iadd, 1) := by decide +kernel
theorem dX8_isHouse_327 : decode cX8_isHouse 327 = .ok (.iastore, 1) := by decide +kernel
theorem dX8_isHouse_328 : decode cX8_isHouse 328 = .ok (.aload_n 0, 1) := by decide +kernel
theorem dX8_isHouse_329 : decode cX8_isHouse 329 = .ok (.invokevirtual 126, 3) := by decide +kernel
theorem dX8_isHouse_332 : decode cX8_isHouse 332 = .ok (.ireturn, 1) := by decide +kernel
theorem dX8_areItems_0 : decode cX8_areItems 0 = .ok (.iconst 0, 1) := by decide +kernel
theorem dX8_areItems_1 : decode cX8_areItems 1 = .ok (.istore 5, 2) := by decide +kernel
theorem dX8_areItems_3 : decode cX8_areItems 3 = .ok (.aload_n 0, 1) := by decide +kernel
theorem dX8_areItems_4 : decode cX8_areItems 4 = .ok (.lload_n 2, 1) := by decide +kernel
theorem dX8_areItems_5 : decode cX8_areItems 5 = .ok (.invokevirtual 118, 3) := by decide +kernel
theorem dX8_areItems_8 : decode cX8_areItems 8 = .ok (.ifCond .eq 62, 3) := by decide +kernel
theorem dX8_areItems_11 : decode cX8_areItems 11 = .ok (.iload 5, 2) := by decide +kernel
theorem dX8_areItems_13 : decode cX8_areItems 13 = .ok (.iload 4, 2) := by decide +kernel
theorem dX8_areItems_15 : decode cX8_areItems 15 = .ok (.if_icmp .ne 9, 3) := by decide +kernel
theorem dX8_areItems_18 : decode cX8_areItems 18 = .ok (.aload_n 0, 1) := by decide +kernel
theorem dX8_areItems_19 : decode cX8_areItems 19 = .ok (.iconst 3, 1) := by decide +kernel
theorem dX8_areItems_20 : decode cX8_areItems 20 = .ok (.invokevirtual 113, 3) := by decide +kernel
theorem dX8_areItems_23 : decode cX8_areItems 23 = .ok (.ireturn, 1) := by decide +kernel
theorem dX8_areItems_24 : decode cX8_areItems 24 = .ok (.iinc 5 1, 3) := by decide +kernel
theorem dX8_areItems_27 : decode cX8_areItems 27 = .ok (.iload_n 1, 1) := by decide +kernel
theorem dX8_areItems_28 : decode cX8_areItems 28 = .ok (.ifCond .ne 10, 3) := by decide +kernel
theorem dX8_areItems_31 : decode cX8_areItems 31 = .ok (.aload_n 0, 1) := by decide +kernel
theorem dX8_areItems_32 : decode cX8_areItems 32 = .ok (.invokevirtual 152, 3) := by decide +kernel
theorem dX8_areItems_35 : decode cX8_areItems 35 = .ok (.goto 19, 3) := by decide +kernel
theorem dX8_areItems_38 : decode cX8_areItems 38 = .ok (.iload_n 1, 1) := by decide +kernel
theorem dX8_areItems_39 : decode cX8_areItems 39 = .ok (.iconst 1, 1) := by decide +kernel
theorem dX8_areItems_40 : decode cX8_areItems 40 = .ok (.if_icmp .ne 10, 3) := by decide +kernel
theorem dX8_areItems_43 : decode cX8_areItems 43 = .ok (.aload_n 0, 1) := by decide +kernel
theorem dX8_areItems_44 : decode cX8_areItems 44 = .ok (.invokevirtual 155, 3) := by decide +kernel
theorem dX8_areItems_47 : decode cX8_areItems 47 = .ok (.goto 7, 3) := by decide +kernel
theorem dX8_areItems_50 : decode cX8_areItems 50 = .ok (.aload_n 0, 1) := by decide +kernel
theorem dX8_areItems_51 : decode cX8_areItems 51 = .ok (.invokevirtual 158, 3) := by decide +kernel
theorem dX8_areItems_54 : decode cX8_areItems 54 = .ok (.istore 6, 2) := by decide +kernel
theorem dX8_areItems_56 : decode cX8_areItems 56 = .ok (.iload 6, 2) := by decide +kernel
theorem dX8_areItems_58 : decode cX8_areItems 58 = .ok (.ifCond .ne 5, 3) := by decide +kernel
theorem dX8_areItems_61 : decode cX8_areItems 61 = .ok (.iconst 0, 1) := by decide +kernel
theorem dX8_areItems_62 : decode cX8_areItems 62 = .ok (.ireturn, 1) := by decide +kernel
theorem dX8_areItems_63 : decode cX8_areItems 63 = .ok (.aload_n 0, 1) := by decide +kernel
theorem dX8_areItems_64 : decode cX8_areItems 64 = .ok (.invokevirtual 110, 3) := by decide +kernel
theorem dX8_areItems_67 : decode cX8_areItems 67 = .ok (.goto (-64), 3) := by decide +kernel
theorem dX8_areItems_70 : decode cX8_areItems 70 = .ok (.iconst 1, 1) := by decide +kernel
theorem dX8_areItems_71 : decode cX8_areItems 71 = .ok (.ireturn, 1) := by decide +kernel
theorem dX8_isField_0 : decode cX8_isField 0 = .ok (.iconst 0, 1) := by decide +kernel
theorem dX8_isField_1 : decode cX8_isField 1 = .ok (.istore_n 1, 1) := by decide +kernel
theorem dX8_isField_2 : decode cX8_isField 2 = .ok (.iload_n 1, 1) := by decide +kernel
theorem dX8_isField_3 : decode cX8_isField 3 = .ok (.sipush 168, 3) := by decide +kernel
theorem dX8_isField_6 : decode cX8_isField 6 = .ok (.if_icmp .ge 16, 3) := by decide +kernel
theorem dX8_isField_9 : decode cX8_isField 9 = .ok (.aload_n 0, 1) := by decide +kernel
theorem dX8_isField_10 : decode cX8_isField 10 = .ok (.getfield 25, 3) := by decide +kernel
theorem dX8_isField_13 : decode cX8_isField 13 = .ok (.iload_n 1, 1) := by decide +kernel
theorem dX8_isField_14 : decode cX8_isField 14 = .ok (.iconst 0, 1) := by decide +kernel
theorem dX8_isField_15 : decode cX8_isField 15 = .ok (.iastore, 1) := by decide +kernel
theorem dX8_isField_16 : decode cX8_isField 16 = .ok (.iinc 1 1, 3) := by decide +kernel
theorem dX8_isField_19 : decode cX8_isField 19 = .ok (.goto (-17), 3) := by decide +kernel
theorem dX8_isField_22 : decode cX8_isField 22 = .ok (.aload_n 0, 1) := by decide +kernel
theorem dX8_isField_23 : decode cX8_isField 23 = .ok (.getfield 25, 3) := by decide +kernel
theorem dX8_isField_26 : decode cX8_isField 26 = .ok (.iconst 0, 1) := by decide +kernel
theorem dX8_isField_27 : decode cX8_isField 27 = .ok (.iconst 1, 1) := by decide +kernel
theorem dX8_isField_28 : decode cX8_isField 28 = .ok (.iastore, 1) := by decide +kernel
theorem dX8_isField_29 : decode cX8_isField 29 = .ok (.aload_n 0, 1) := by decide +kernel
theorem dX8_isField_30 : decode cX8_isField 30 = .ok (.iconst 0, 1) := by decide +kernel
theorem dX8_isField_31 : decode cX8_isField 31 = .ok (.putfield 81, 3) := by decide +kernel
theorem dX8_isField_34 : decode cX8_isField 34 = .ok (.aload_n 0, 1) := by decide +kernel
theorem dX8_isField_35 : decode cX8_isField 35 = .ok (.invokevirtual 161, 3) := by decide +kernel
theorem dX8_isField_38 : decode cX8_isField 38 = .ok (.ifCond .ne 5, 3) := by decide +kernel
theorem dX8_isField_41 : decode cX8_isField 41 = .ok (.iconst 0, 1) := by decide +kernel
theorem dX8_isField_42 : decode cX8_isField 42 = .ok (.ireturn, 1) := by decide +kernel
theorem dX8_isField_43 : decode cX8_isField 43 = .ok (.aload_n 0, 1) := by decide +kernel
theorem dX8_isField_44 : decode cX8_isField 44 = .ok (.invokevirtual 110, 3) := by decide +kernel
theorem dX8_isField_47 : decode cX8_isField 47 = .ok (.aload_n 0, 1) := by decide +kernel
theorem dX8_isField_48 : decode cX8_isField 48 = .ok (.iconst 0, 1) := by decide +kernel
theorem dX8_isField_49 : decode cX8_isField 49 = .ok (.ldc2_w 164, 3) := by decide +kernel
theorem dX8_isField_52 : decode cX8_isField 52 = .ok (.bipush 12, 2) := by decide +kernel
theorem dX8_isField_54 : decode cX8_isField 54 = .ok (.invokevirtual 166, 3) := by decide +kernel
theorem dX8_isField_57 : decode cX8_isField 57 = .ok (.ifCond .eq 29, 3) := by decide +kernel
theorem dX8_isField_60 : decode cX8_isField 60 = .ok (.aload_n 0, 1) := by decide +kernel
theorem dX8_isField_61 : decode cX8_isField 61 = .ok (.iconst 1, 1) := by decide +kernel
theorem dX8_isField_62 : decode cX8_isField 62 = .ok (.ldc2_w 170, 3) := by decide +kernel
theorem dX8_isField_65 : decode cX8_isField 65 = .ok (.bipush 8, 2) := by decide +kernel
theorem dX8_isField_67 : decode cX8_isField 67 = .ok (.invokevirtual 166, 3) := by decide +kernel
theorem dX8_isField_70 : decode cX8_isField 70 = .ok (.ifCond .eq 16, 3) := by decide +kernel
theorem dX8_isField_73 : decode cX8_isField 73 = .ok (.aload_n 0, 1) := by decide +kernel
theorem dX8_isField_74 : decode cX8_isField 74 = .ok (.iconst 2, 1) := by decide +kernel
theorem dX8_isField_75 : decode cX8_isField 75 = .ok (.ldc2_w 172, 3) := by decide +kernel
theorem dX8_isField_78 : decode cX8_isField 78 = .ok (.bipush 6, 2) := by decide +kernel
theorem dX8_isField_80 : decode cX8_isField 80 = .ok (.invokevirtual 166, 3) := by decide +kernel
theorem dX8_isField_83 : decode cX8_isField 83 = .ok (.ifCond .ne 5, 3) := by decide +kernel
theorem dX8_isField_86 : decode cX8_isField 86 = .ok (.iconst 0, 1) := by decide +kernel
theorem dX8_isField_87 : decode cX8_isField 87 = .ok (.ireturn, 1) := by decide +kernel
theorem dX8_isField_88 : decode cX8_isField 88 = .ok (.aload_n 0, 1) := by decide +kernel
theorem dX8_isField_89 : decode cX8_isField 89 = .ok (.getfield 91, 3) := by decide +kernel
theorem dX8_isField_92 : decode cX8_isField 92 = .ok (.ifCond .ne 12, 3) := by decide +kernel
theorem dX8_isField_95 : decode cX8_isField 95 = .ok (.aload_n 0, 1) := by decide +kernel
theorem dX8_isField_96 : decode cX8_isField 96 = .ok (.getfield 25, 3) := by decide +kernel
theorem dX8_isField_99 : decode cX8_isField 99 = .ok (.iconst 3, 1) := by decide +kernel
theorem dX8_isField_100 : decode cX8_isField 100 = .ok (.iaload, 1) := by decide +kernel
theorem dX8_isField_101 : decode cX8_isField 101 = .ok (.ifCond .gt 11, 3) := by decide +kernel
theorem dX8_isField_104 : decode cX8_isField 104 = .ok (.aload_n 0, 1) := by decide +kernel
theorem dX8_isField_105 : decode cX8_isField 105 = .ok (.iconst 1, 1) := by decide +kernel
theorem dX8_isField_106 : decode cX8_isField 106 = .ok (.invokevirtual 113, 3) := by decide +kernel
theorem dX8_isField_109 : decode cX8_isField 109 = .ok (.ifCond .eq 7, 3) := by decide +kernel
theorem dX8_isField_112 : decode cX8_isField 112 = .ok (.iconst 1, 1) := by decide +kernel
theorem dX8_isField_113 : decode cX8_isField 113 = .ok (.goto 4, 3) := by decide +kernel
theorem dX8_isField_116 : decode cX8_isField 116 = .ok (.iconst 0, 1) := by decide +kernel
theorem dX8_isField_117 : decode cX8_isField 117 = .ok (.ireturn, 1) := by decide +kernel
theorem dX8_field_0 : decode cX8_field 0 = .ok (.aload_n 0, 1) := by decide +kernel
theorem dX8_field_1 : decode cX8_field 1 = .ok (.invokevirtual 174, 3) := by decide +kernel
theorem dX8_field_4 : decode cX8_field 4 = .ok (.istore_n 1, 1) := by decide +kernel
theorem dX8_field_5 : decode cX8_field 5 = .ok (.aload_n 0, 1) := by decide +kernel
theorem dX8_field_6 : decode cX8_field 6 = .ok (.iconst 0, 1) := by decide +kernel
theorem dX8_field_7 : decode cX8_field 7 = .ok (.putfield 75, 3) := by decide +kernel
theorem dX8_field_10 : decode cX8_field 10 = .ok (.iload_n 1, 1) := by decide +kernel
theorem dX8_field_11 : decode cX8_field 11 = .ok (.ifCond .ne 19, 3) := by decide +kernel
theorem dX8_field_14 : decode cX8_field 14 = .ok (.aload_n 0, 1) := by decide +kernel
theorem dX8_field_15 : decode cX8_field 15 = .ok (.aload_n 0, 1) := by decide +kernel
theorem dX8_field_16 : decode cX8_field 16 = .ok (.getfield 107, 3) := by decide +kernel
theorem dX8_field_19 : decode cX8_field 19 = .ok (.putfield 177, 3) := by decide +kernel
theorem dX8_field_22 : decode cX8_field 22 = .ok (.ldc 180, 2) := by decide +kernel
theorem dX8_field_24 : decode cX8_field 24 = .ok (.aload_n 0, 1) := by decide +kernel
theorem dX8_field_25 : decode cX8_field 25 = .ok (.getfield 88, 3) := by decide +kernel
theorem dX8_field_28 : decode cX8_field 28 = .ok (.isub, 1) := by decide +kernel
theorem dX8_field_29 : decode cX8_field 29 = .ok (.ireturn, 1) := by decide +kernel
theorem dX8_field_30 : decode cX8_field 30 = .ok (.iconst 0, 1) := by decide +kernel
theorem dX8_field_31 : decode cX8_field 31 = .ok (.istore_n 2, 1) := by decide +kernel
theorem dX8_field_32 : decode cX8_field 32 = .ok (.iload_n 2, 1) := by decide +kernel
theorem dX8_field_33 : decode cX8_field 33 = .ok (.sipush 168, 3) := by decide +kernel
theorem dX8_field_36 : decode cX8_field 36 = .ok (.if_icmp .ge 21, 3) := by decide +kernel
theorem dX8_field_39 : decode cX8_field 39 = .ok (.aload_n 0, 1) := by decide +kernel
theorem dX8_field_40 : decode cX8_field 40 = .ok (.getfield 22, 3) := by decide +kernel
theorem dX8_field_43 : decode cX8_field 43 = .ok (.iload_n 2, 1) := by decide +kernel
theorem dX8_field_44 : decode cX8_field 44 = .ok (.aload_n 0, 1) := by decide +kernel
theorem dX8_field_45 : decode cX8_field 45 = .ok (.getfield 25, 3) := by decide +kernel
theorem dX8_field_48 : decode cX8_field 48 = .ok (.iload_n 2, 1) := by decide +kernel
theorem dX8_field_49 : decode cX8_field 49 = .ok (.iaload, 1) := by decide +kernel
theorem dX8_field_50 : decode cX8_field 50 = .ok (.iastore, 1) := by decide +kernel
theorem dX8_field_51 : decode cX8_field 51 = .ok (.iinc 2 1, 3) := by decide +kernel
theorem dX8_field_54 : decode cX8_field 54 = .ok (.goto (-22), 3) := by decide +kernel
theorem dX8_field_57 : decode cX8_field 57 = .ok (.aload_n 0, 1) := by decide +kernel
theorem dX8_field_58 : decode cX8_field 58 = .ok (.iconst 0, 1) := by decide +kernel
theorem dX8_field_59 : decode cX8_field 59 = .ok (.putfield 181, 3) := by decide +kernel
theorem dX8_field_62 : decode cX8_field 62 = .ok (.aload_n 0, 1) := by decide +kernel
theorem dX8_field_63 : decode cX8_field 63 = .ok (.getfield 22, 3) := by decide +kernel
theorem dX8_field_66 : decode cX8_field 66 = .ok (.iconst 3, 1) := by decide +kernel
theorem dX8_field_67 : decode cX8_field 67 = .ok (.iaload, 1) := by decide +kernel
theorem dX8_field_68 : decode cX8_field 68 = .ok (.ireturn, 1) := by decide +kernel
theorem dX8_fault_0 : decode cX8_fault 0 = .ok (.aload_n 0, 1) := by decide +kernel
theorem dX8_fault_1 : decode cX8_fault 1 = .ok (.getfield 177, 3) := by decide +kernel
theorem dX8_fault_4 : decode cX8_fault 4 = .ok (.ireturn, 1) := by decide +kernel
theorem dX8_isThere_0 : decode cX8_isThere 0 = .ok (.iload_n 1, 1) := by decide +kernel
theorem dX8_isThere_1 : decode cX8_isThere 1 = .ok (.iconst 0, 1) := by decide +kernel
theorem dX8_isThere_2 : decode cX8_isThere 2 = .ok (.aload_n 0, 1) := by decide +kernel
theorem dX8_isThere_3 : decode cX8_isThere 3 = .ok (.getfield 22, 3) := by decide +kernel
theorem dX8_isThere_6 : decode cX8_isThere 6 = .ok (.iconst 3, 1) := by decide +kernel
theorem dX8_isThere_7 : decode cX8_isThere 7 = .ok (.iaload, 1) := by decide +kernel
theorem dX8_isThere_8 : decode cX8_isThere 8 = .ok (.iconst 1, 1) := by decide +kernel
theorem dX8_isThere_9 : decode cX8_isThere 9 = .ok (.isub, 1) := by decide +kernel
theorem dX8_isThere_10 : decode cX8_isThere 10 = .ok (.invokestatic 56, 3) := by decide +kernel
theorem dX8_isThere_13 : decode cX8_isThere 13 = .ok (.ireturn, 1) := by decide +kernel
theorem dX8_meetsEast_0 : decode cX8_meetsEast 0 = .ok (.aload_n 0, 1) := by decide +kernel
theorem dX8_meetsEast_1 : decode cX8_meetsEast 1 = .ok (.getfield 22, 3) := by decide +kernel
theorem dX8_meetsEast_4 : decode cX8_meetsEast 4 = .ok (.bipush 10, 2) := by decide +kernel
theorem dX8_meetsEast_6 : decode cX8_meetsEast 6 = .ok (.iload_n 1, 1) := by decide +kernel
theorem dX8_meetsEast_7 : decode cX8_meetsEast 7 = .ok (.iadd, 1) := by decide +kernel
theorem dX8_meetsEast_8 : decode cX8_meetsEast 8 = .ok (.iaload, 1) := by decide +kernel
theorem dX8_meetsEast_9 : decode cX8_meetsEast 9 = .ok (.iconst 1, 1) := by decide +kernel
theorem dX8_meetsEast_10 : decode cX8_meetsEast 10 = .ok (.iadd, 1) := by decide +kernel
theorem dX8_meetsEast_11 : decode cX8_meetsEast 11 = .ok (.istore_n 3, 1) := by decide +kernel
theorem dX8_meetsEast_12 : decode cX8_meetsEast 12 = .ok (.aload_n 0, 1) := by decide +kernel
theorem dX8_meetsEast_13 : decode cX8_meetsEast 13 = .ok (.getfield 22, 3) := by decide +kernel
theorem dX8_meetsEast_16 : decode cX8_meetsEast 16 = .ok (.bipush 10, 2) := by decide +kernel
theorem dX8_meetsEast_18 : decode cX8_meetsEast 18 = .ok (.iload_n 2, 1) := by decide +kernel
theorem dX8_meetsEast_19 : decode cX8_meetsEast 19 = .ok (.iadd, 1) := by decide +kernel
theorem dX8_meetsEast_20 : decode cX8_meetsEast 20 = .ok (.iaload, 1) := by decide +kernel
theorem dX8_meetsEast_21 : decode cX8_meetsEast 21 = .ok (.iload_n 3, 1) := by decide +kernel
theorem dX8_meetsEast_22 : decode cX8_meetsEast 22 = .ok (.aload_n 0, 1) := by decide +kernel
theorem dX8_meetsEast_23 : decode cX8_meetsEast 23 = .ok (.getfield 22, 3) := by decide +kernel
theorem dX8_meetsEast_26 : decode cX8_meetsEast 26 = .ok (.bipush 22, 2) := by decide +kernel
theorem dX8_meetsEast_28 : decode cX8_meetsEast 28 = .ok (.iload_n 1, 1) := by decide +kernel
theorem dX8_meetsEast_29 : decode cX8_meetsEast 29 = .ok (.iadd, 1) := by decide +kernel
theorem dX8_meetsEast_30 : decode cX8_meetsEast 30 = .ok (.iaload, 1) := by decide +kernel
theorem dX8_meetsEast_31 : decode cX8_meetsEast 31 = .ok (.iadd, 1) := by decide +kernel
theorem dX8_meetsEast_32 : decode cX8_meetsEast 32 = .ok (.if_icmp .ge 30, 3) := by decide +kernel
theorem dX8_meetsEast_35 : decode cX8_meetsEast 35 = .ok (.iload_n 3, 1) := by decide +kernel
theorem dX8_meetsEast_36 : decode cX8_meetsEast 36 = .ok (.aload_n 0, 1) := by decide +kernel
theorem dX8_meetsEast_37 : decode cX8_meetsEast 37 = .ok (.getfield 22, 3) := by decide +kernel
theorem dX8_meetsEast_40 : decode cX8_meetsEast 40 = .ok (.bipush 10, 2) := by decide +kernel
theorem dX8_meetsEast_42 : decode cX8_meetsEast 42 = .ok (.iload_n 2, 1) := by decide +kernel
theorem dX8_meetsEast_43 : decode cX8_meetsEast 43 = .ok (.iadd, 1) := by decide +kernel
theorem dX8_meetsEast_44 : decode cX8_meetsEast 44 = .ok (.iaload, 1) := by decide +kernel
theorem dX8_meetsEast_45 : decode cX8_meetsEast 45 = .ok (.aload_n 0, 1) := by decide +kernel
theorem dX8_meetsEast_46 : decode cX8_meetsEast 46 = .ok (.getfield 22, 3) := by decide +kernel
theorem dX8_meetsEast_49 : decode cX8_meetsEast 49 = .ok (.bipush 22, 2) := by decide +kernel
theorem dX8_meetsEast_51 : decode cX8_meetsEast 51 = .ok (.iload_n 2, 1) := by decide +kernel
theorem dX8_meetsEast_52 : decode cX8_meetsEast 52 = .ok (.iadd, 1) := by decide +kernel
theorem dX8_meetsEast_53 : decode cX8_meetsEast 53 = .ok (.iaload, 1) := by decide +kernel
theorem dX8_meetsEast_54 : decode cX8_meetsEast 54 = .ok (.iadd, 1) := by decide +kernel
theorem dX8_meetsEast_55 : decode cX8_meetsEast 55 = .ok (.if_icmp .ge 7, 3) := by decide +kernel
theorem dX8_meetsEast_58 : decode cX8_meetsEast 58 = .ok (.iconst 1, 1) := by decide +kernel
theorem dX8_meetsEast_59 : decode cX8_meetsEast 59 = .ok (.goto 4, 3) := by decide +kernel
theorem dX8_meetsEast_62 : decode cX8_meetsEast 62 = .ok (.iconst 0, 1) := by decide +kernel
theorem dX8_meetsEast_63 : decode cX8_meetsEast 63 = .ok (.istore 4, 2) := by decide +kernel
theorem dX8_meetsEast_65 : decode cX8_meetsEast 65 = .ok (.iload 4, 2) := by decide +kernel
theorem dX8_meetsEast_67 : decode cX8_meetsEast 67 = .ok (.ifCond .eq 69, 3) := by decide +kernel
theorem dX8_meetsEast_70 : decode cX8_meetsEast 70 = .ok (.aload_n 0, 1) := by decide +kernel
theorem dX8_meetsEast_71 : decode cX8_meetsEast 71 = .ok (.getfield 22, 3) := by decide +kernel
theorem dX8_meetsEast_74 : decode cX8_meetsEast 74 = .ok (.bipush 16, 2) := by decide +kernel
theorem dX8_meetsEast_76 : decode cX8_meetsEast 76 = .ok (.iload_n 2, 1) := by decide +kernel
theorem dX8_meetsEast_77 : decode cX8_meetsEast 77 = .ok (.iadd, 1) := by decide +kernel
theorem dX8_meetsEast_78 : decode cX8_meetsEast 78 = .ok (.iaload, 1) := by decide +kernel
theorem dX8_meetsEast_79 : decode cX8_meetsEast 79 = .ok (.aload_n 0, 1) := by decide +kernel
theorem dX8_meetsEast_80 : decode cX8_meetsEast 80 = .ok (.getfield 22, 3) := by decide +kernel
theorem dX8_meetsEast_83 : decode cX8_meetsEast 83 = .ok (.bipush 16, 2) := by decide +kernel
theorem dX8_meetsEast_85 : decode cX8_meetsEast 85 = .ok (.iload_n 1, 1) := by decide +kernel
theorem dX8_meetsEast_86 : decode cX8_meetsEast 86 = .ok (.iadd, 1) := by decide +kernel
theorem dX8_meetsEast_87 : decode cX8_meetsEast 87 = .ok (.iaload, 1) := by decide +kernel
theorem dX8_meetsEast_88 : decode cX8_meetsEast 88 = .ok (.aload_n 0, 1) := by decide +kernel
theorem dX8_meetsEast_89 : decode cX8_meetsEast 89 = .ok (.getfield 22, 3) := by decide +kernel
theorem dX8_meetsEast_92 : decode cX8_meetsEast 92 = .ok (.bipush 28, 2) := by decide +kernel
theorem dX8_meetsEast_94 : decode cX8_meetsEast 94 = .ok (.iload_n 1, 1) := by decide +kernel
theorem dX8_meetsEast_95 : decode cX8_meetsEast 95 = .ok (.iadd, 1) := by decide +kernel
theorem dX8_meetsEast_96 : decode cX8_meetsEast 96 = .ok (.iaload, 1) := by decide +kernel
theorem dX8_meetsEast_97 : decode cX8_meetsEast 97 = .ok (.iadd, 1) := by decide +kernel
theorem dX8_meetsEast_98 : decode cX8_meetsEast 98 = .ok (.if_icmp .ge 38, 3) := by decide +kernel
theorem dX8_meetsEast_101 : decode cX8_meetsEast 101 = .ok (.aload_n 0, 1) := by decide +kernel
theorem dX8_meetsEast_102 : decode cX8_meetsEast 102 = .ok (.getfield 22, 3) := by decide +kernel
theorem dX8_meetsEast_105 : decode cX8_meetsEast 105 = .ok (.bipush 16, 2) := by decide +kernel
theorem dX8_meetsEast_107 : decode cX8_meetsEast 107 = .ok (.iload_n 1, 1) := by decide +kernel
theorem dX8_meetsEast_108 : decode cX8_meetsEast 108 = .ok (.iadd, 1) := by decide +kernel
theorem dX8_meetsEast_109 : decode cX8_meetsEast 109 = .ok (.iaload, 1) := by decide +kernel
theorem dX8_meetsEast_110 : decode cX8_meetsEast 110 = .ok (.aload_n 0, 1) := by decide +kernel
theorem dX8_meetsEast_111 : decode cX8_meetsEast 111 = .ok (.getfield 22, 3) := by decide +kernel
theorem dX8_meetsEast_114 : decode cX8_meetsEast 114 = .ok (.bipush 16, 2) := by decide +kernel
theorem dX8_meetsEast_116 : decode cX8_meetsEast 116 = .ok (.iload_n 2, 1) := by decide +kernel
theorem dX8_meetsEast_117 : decode cX8_meetsEast 117 = .ok (.iadd, 1) := by decide +kernel
theorem dX8_meetsEast_118 : decode cX8_meetsEast 118 = .ok (.iaload, 1) := by decide +kernel
theorem dX8_meetsEast_119 : decode cX8_meetsEast 119 = .ok (.aload_n 0, 1) := by decide +kernel
theorem dX8_meetsEast_120 : decode cX8_meetsEast 120 = .ok (.getfield 22, 3) := by decide +kernel
theorem dX8_meetsEast_123 : decode cX8_meetsEast 123 = .ok (.bipush 28, 2) := by decide +kernel
theorem dX8_meetsEast_125 : decode cX8_meetsEast 125 = .ok (.iload_n 2, 1) := by decide +kernel
theorem dX8_meetsEast_126 : decode cX8_meetsEast 126 = .ok (.iadd, 1) := by decide +kernel
theorem dX8_meetsEast_127 : decode cX8_meetsEast 127 = .ok (.iaload, 1) := by decide +kernel
theorem dX8_meetsEast_128 : decode cX8_meetsEast 128 = .ok (.iadd, 1) := by decide +kernel
theorem dX8_meetsEast_129 : decode cX8_meetsEast 129 = .ok (.if_icmp .ge 7, 3) := by decide +kernel
theorem dX8_meetsEast_132 : decode cX8_meetsEast 132 = .ok (.iconst 1, 1) := by decide +kernel
theorem dX8_meetsEast_133 : decode cX8_meetsEast 133 = .ok (.goto 4, 3) := by decide +kernel
theorem dX8_meetsEast_136 : decode cX8_meetsEast 136 = .ok (.iconst 0, 1) := by decide +kernel
theorem dX8_meetsEast_137 : decode cX8_meetsEast 137 = .ok (.ireturn, 1) := by decide +kernel
theorem dX8_isStopped_0 : decode cX8_isStopped 0 = .ok (.aload_n 0, 1) := by decide +kernel
theorem dX8_isStopped_1 : decode cX8_isStopped 1 = .ok (.getfield 22, 3) := by decide +kernel
theorem dX8_isStopped_4 : decode cX8_isStopped 4 = .ok (.bipush 10, 2) := by decide +kernel
theorem dX8_isStopped_6 : decode cX8_isStopped 6 = .ok (.iload_n 1, 1) := by decide +kernel
theorem dX8_isStopped_7 : decode cX8_isStopped 7 = .ok (.iadd, 1) := by decide +kernel
theorem dX8_isStopped_8 : decode cX8_isStopped 8 = .ok (.iaload, 1) := by decide +kernel
theorem dX8_isStopped_9 : decode cX8_isStopped 9 = .ok (.aload_n 0, 1) := by decide +kernel
theorem dX8_isStopped_10 : decode cX8_isStopped 10 = .ok (.getfield 22, 3) := by decide +kernel
theorem dX8_isStopped_13 : decode cX8_isStopped 13 = .ok (.bipush 22, 2) := by decide +kernel
theorem dX8_isStopped_15 : decode cX8_isStopped 15 = .ok (.iload_n 1, 1) := by decide +kernel
theorem dX8_isStopped_16 : decode cX8_isStopped 16 = .ok (.iadd, 1) := by decide +kernel
theorem dX8_isStopped_17 : decode cX8_isStopped 17 = .ok (.iaload, 1) := by decide +kernel
theorem dX8_isStopped_18 : decode cX8_isStopped 18 = .ok (.iadd, 1) := by decide +kernel
theorem dX8_isStopped_19 : decode cX8_isStopped 19 = .ok (.istore_n 2, 1) := by decide +kernel
theorem dX8_isStopped_20 : decode cX8_isStopped 20 = .ok (.iload_n 2, 1) := by decide +kernel
theorem dX8_isStopped_21 : decode cX8_isStopped 21 = .ok (.bipush 15, 2) := by decide +kernel
theorem dX8_isStopped_23 : decode cX8_isStopped 23 = .ok (.if_icmp .le 5, 3) := by decide +kernel
theorem dX8_isStopped_26 : decode cX8_isStopped 26 = .ok (.iconst 1, 1) := by decide +kernel
theorem dX8_isStopped_27 : decode cX8_isStopped 27 = .ok (.ireturn, 1) := by decide +kernel
theorem dX8_isStopped_28 : decode cX8_isStopped 28 = .ok (.iconst 0, 1) := by decide +kernel
theorem dX8_isStopped_29 : decode cX8_isStopped 29 = .ok (.istore_n 3, 1) := by decide +kernel
theorem dX8_isStopped_30 : decode cX8_isStopped 30 = .ok (.aload_n 0, 1) := by decide +kernel
theorem dX8_isStopped_31 : decode cX8_isStopped 31 = .ok (.getfield 22, 3) := by decide +kernel
theorem dX8_isStopped_34 : decode cX8_isStopped 34 = .ok (.bipush 16, 2) := by decide +kernel
theorem dX8_isStopped_36 : decode cX8_isStopped 36 = .ok (.iload_n 1, 1) := by decide +kernel
theorem dX8_isStopped_37 : decode cX8_isStopped 37 = .ok (.iadd, 1) := by decide +kernel
theorem dX8_isStopped_38 : decode cX8_isStopped 38 = .ok (.iaload, 1) := by decide +kernel
theorem dX8_isStopped_39 : decode cX8_isStopped 39 = .ok (.istore 4, 2) := by decide +kernel
theorem dX8_isStopped_41 : decode cX8_isStopped 41 = .ok (.iload 4, 2) := by decide +kernel
theorem dX8_isStopped_43 : decode cX8_isStopped 43 = .ok (.aload_n 0, 1) := by decide +kernel
theorem dX8_isStopped_44 : decode cX8_isStopped 44 = .ok (.getfield 22, 3) := by decide +kernel
theorem dX8_isStopped_47 : decode cX8_isStopped 47 = .ok (.bipush 16, 2) := by decide +kernel
theorem dX8_isStopped_49 : decode cX8_isStopped 49 = .ok (.iload_n 1, 1) := by decide +kernel
theorem dX8_isStopped_50 : decode cX8_isStopped 50 = .ok (.iadd, 1) := by decide +kernel
theorem dX8_isStopped_51 : decode cX8_isStopped 51 = .ok (.iaload, 1) := by decide +kernel
theorem dX8_isStopped_52 : decode cX8_isStopped 52 = .ok (.aload_n 0, 1) := by decide +kernel
theorem dX8_isStopped_53 : decode cX8_isStopped 53 = .ok (.getfield 22, 3) := by decide +kernel
theorem dX8_isStopped_56 : decode cX8_isStopped 56 = .ok (.bipush 28, 2) := by decide +kernel
theorem dX8_isStopped_58 : decode cX8_isStopped 58 = .ok (.iload_n 1, 1) := by decide +kernel
theorem dX8_isStopped_59 : decode cX8_isStopped 59 = .ok (.iadd, 1) := by decide +kernel
theorem dX8_isStopped_60 : decode cX8_isStopped 60 = .ok (.iaload, 1) := by decide +kernel
theorem dX8_isStopped_61 : decode cX8_isStopped 61 = .ok (.iadd, 1) := by decide +kernel
theorem dX8_isStopped_62 : decode cX8_isStopped 62 = .ok (.if_icmp .ge 32, 3) := by decide +kernel
theorem dX8_isStopped_65 : decode cX8_isStopped 65 = .ok (.iload_n 3, 1) := by decide +kernel
theorem dX8_isStopped_66 : decode cX8_isStopped 66 = .ok (.ifCond .ne 16, 3) := by decide +kernel
theorem dX8_isStopped_69 : decode cX8_isStopped 69 = .ok (.aload_n 0, 1) := by decide +kernel
theorem dX8_isStopped_70 : decode cX8_isStopped 70 = .ok (.getfield 22, 3) := by decide +kernel
theorem dX8_isStopped_73 : decode cX8_isStopped 73 = .ok (.iload_n 2, 1) := by decide +kernel
theorem dX8_isStopped_74 : decode cX8_isStopped 74 = .ok (.iload 4, 2) := by decide +kernel
theorem dX8_isStopped_76 : decode cX8_isStopped 76 = .ok (.invokestatic 144, 3) := by decide +kernel
theorem dX8_isStopped_79 : decode cX8_isStopped 79 = .ok (.ifCond .eq 7, 3) := by decide +kernel
theorem dX8_isStopped_82 : decode cX8_isStopped 82 = .ok (.iconst 1, 1) := by decide +kernel
theorem dX8_isStopped_83 : decode cX8_isStopped 83 = .ok (.goto 4, 3) := by decide +kernel
theorem dX8_isStopped_86 : decode cX8_isStopped 86 = .ok (.iconst 0, 1) := by decide +kernel
theorem dX8_isStopped_87 : decode cX8_isStopped 87 = .ok (.istore_n 3, 1) := by decide +kernel
theorem dX8_isStopped_88 : decode cX8_isStopped 88 = .ok (.iinc 4 1, 3) := by decide +kernel
theorem dX8_isStopped_91 : decode cX8_isStopped 91 = .ok (.goto (-50), 3) := by decide +kernel
theorem dX8_isStopped_94 : decode cX8_isStopped 94 = .ok (.iload_n 3, 1) := by decide +kernel
theorem dX8_isStopped_95 : decode cX8_isStopped 95 = .ok (.ireturn, 1) := by decide +kernel
theorem dX8_slide_0 : decode cX8_slide 0 = .ok (.iconst 1, 1) := by decide +kernel
theorem dX8_slide_1 : decode cX8_slide 1 = .ok (.iload_n 1, 1) := by decide +kernel
theorem dX8_slide_2 : decode cX8_slide 2 = .ok (.ishl, 1) := by decide +kernel
theorem dX8_slide_3 : decode cX8_slide 3 = .ok (.istore_n 2, 1) := by decide +kernel
theorem dX8_slide_4 : decode cX8_slide 4 = .ok (.iconst 0, 1) := by decide +kernel
theorem dX8_slide_5 : decode cX8_slide 5 = .ok (.istore_n 3, 1) := by decide +kernel
theorem dX8_slide_6 : decode cX8_slide 6 = .ok (.iload_n 3, 1) := by decide +kernel
theorem dX8_slide_7 : decode cX8_slide 7 = .ok (.bipush 6, 2) := by decide +kernel
theorem dX8_slide_9 : decode cX8_slide 9 = .ok (.if_icmp .ge 89, 3) := by decide +kernel
theorem dX8_slide_12 : decode cX8_slide 12 = .ok (.iconst 0, 1) := by decide +kernel
theorem dX8_slide_13 : decode cX8_slide 13 = .ok (.istore 4, 2) := by decide +kernel
theorem dX8_slide_15 : decode cX8_slide 15 = .ok (.iload 4, 2) := by decide +kernel
theorem dX8_slide_17 : decode cX8_slide 17 = .ok (.aload_n 0, 1) := by decide +kernel
theorem dX8_slide_18 : decode cX8_slide 18 = .ok (.getfield 22, 3) := by decide +kernel
theorem dX8_slide_21 : decode cX8_slide 21 = .ok (.iconst 3, 1) := by decide +kernel
theorem dX8_slide_22 : decode cX8_slide 22 = .ok (.iaload, 1) := by decide +kernel
theorem dX8_slide_23 : decode cX8_slide 23 = .ok (.if_icmp .ge 69, 3) := by decide +kernel
theorem dX8_slide_26 : decode cX8_slide 26 = .ok (.iconst 0, 1) := by decide +kernel
theorem dX8_slide_27 : decode cX8_slide 27 = .ok (.istore 5, 2) := by decide +kernel
theorem dX8_slide_29 : decode cX8_slide 29 = .ok (.iload 5, 2) := by decide +kernel
theorem dX8_slide_31 : decode cX8_slide 31 = .ok (.aload_n 0, 1) := by decide +kernel
theorem dX8_slide_32 : decode cX8_slide 32 = .ok (.getfield 22, 3) := by decide +kernel
theorem dX8_slide_35 : decode cX8_slide 35 = .ok (.iconst 3, 1) := by decide +kernel
theorem dX8_slide_36 : decode cX8_slide 36 = .ok (.iaload, 1) := by decide +kernel
theorem dX8_slide_37 : decode cX8_slide 37 = .ok (.if_icmp .ge 49, 3) := by decide +kernel
theorem dX8_slide_40 : decode cX8_slide 40 = .ok (.iload_n 2, 1) := by decide +kernel
theorem dX8_slide_41 : decode cX8_slide 41 = .ok (.iload_n 2, 1) := by decide +kernel
theorem dX8_slide_42 : decode cX8_slide 42 = .ok (.iload 4, 2) := by decide +kernel
theorem dX8_slide_44 : decode cX8_slide 44 = .ok (.invokestatic 184, 3) := by decide +kernel
theorem dX8_slide_47 : decode cX8_slide 47 = .ok (.ifCond .eq 30, 3) := by decide +kernel
theorem dX8_slide_50 : decode cX8_slide 50 = .ok (.iload_n 2, 1) := by decide +kernel
theorem dX8_slide_51 : decode cX8_slide 51 = .ok (.iload 5, 2) := by decide +kernel
theorem dX8_slide_53 : decode cX8_slide 53 = .ok (.invokestatic 184, 3) := by decide +kernel
theorem dX8_slide_56 : decode cX8_slide 56 = .ok (.ifCond .ne 21, 3) := by decide +kernel
theorem dX8_slide_59 : decode cX8_slide 59 = .ok (.aload_n 0, 1) := by decide +kernel
theorem dX8_slide_60 : decode cX8_slide 60 = .ok (.iload 4, 2) := by decide +kernel
theorem dX8_slide_62 : decode cX8_slide 62 = .ok (.iload 5, 2) := by decide +kernel
theorem dX8_slide_64 : decode cX8_slide 64 = .ok (.invokevirtual 187, 3) := by decide +kernel
theorem dX8_slide_67 : decode cX8_slide 67 = .ok (.ifCond .eq 10, 3) := by decide +kernel
theorem dX8_slide_70 : decode cX8_slide 70 = .ok (.iconst 1, 1) := by decide +kernel
theorem dX8_slide_71 : decode cX8_slide 71 = .ok (.iload 5, 2) := by decide +kernel
theorem dX8_slide_73 : decode cX8_slide 73 = .ok (.ishl, 1) := by decide +kernel
theorem dX8_slide_74 : decode cX8_slide 74 = .ok (.goto 4, 3) := by decide +kernel
theorem dX8_slide_77 : decode cX8_slide 77 = .ok (.iconst 0, 1) := by decide +kernel
theorem dX8_slide_78 : decode cX8_slide 78 = .ok (.ior, 1) := by decide +kernel
theorem dX8_slide_79 : decode cX8_slide 79 = .ok (.istore_n 2, 1) := by decide +kernel
theorem dX8_slide_80 : decode cX8_slide 80 = .ok (.iinc 5 1, 3) := by decide +kernel
theorem dX8_slide_83 : decode cX8_slide 83 = .ok (.goto (-54), 3) := by decide +kernel
theorem dX8_slide_86 : decode cX8_slide 86 = .ok (.iinc 4 1, 3) := by decide +kernel
theorem dX8_slide_89 : decode cX8_slide 89 = .ok (.goto (-74), 3) := by decide +kernel
theorem dX8_slide_92 : decode cX8_slide 92 = .ok (.iinc 3 1, 3) := by decide +kernel
theorem dX8_slide_95 : decode cX8_slide 95 = .ok (.goto (-89), 3) := by decide +kernel
theorem dX8_slide_98 : decode cX8_slide 98 = .ok (.iconst 0, 1) := by decide +kernel
theorem dX8_slide_99 : decode cX8_slide 99 = .ok (.istore_n 3, 1) := by decide +kernel
theorem dX8_slide_100 : decode cX8_slide 100 = .ok (.iload_n 3, 1) := by decide +kernel
theorem dX8_slide_101 : decode cX8_slide 101 = .ok (.aload_n 0, 1) := by decide +kernel
theorem dX8_slide_102 : decode cX8_slide 102 = .ok (.getfield 22, 3) := by decide +kernel
theorem dX8_slide_105 : decode cX8_slide 105 = .ok (.iconst 3, 1) := by decide +kernel
theorem dX8_slide_106 : decode cX8_slide 106 = .ok (.iaload, 1) := by decide +kernel
theorem dX8_slide_107 : decode cX8_slide 107 = .ok (.if_icmp .ge 27, 3) := by decide +kernel
theorem dX8_slide_110 : decode cX8_slide 110 = .ok (.iload_n 2, 1) := by decide +kernel
theorem dX8_slide_111 : decode cX8_slide 111 = .ok (.iload_n 3, 1) := by decide +kernel
theorem dX8_slide_112 : decode cX8_slide 112 = .ok (.invokestatic 184, 3) := by decide +kernel
theorem dX8_slide_115 : decode cX8_slide 115 = .ok (.ifCond .eq 13, 3) := by decide +kernel
theorem dX8_slide_118 : decode cX8_slide 118 = .ok (.aload_n 0, 1) := by decide +kernel
theorem dX8_slide_119 : decode cX8_slide 119 = .ok (.iload_n 3, 1) := by decide +kernel
theorem dX8_slide_120 : decode cX8_slide 120 = .ok (.invokevirtual 190, 3) := by decide +kernel
theorem dX8_slide_123 : decode cX8_slide 123 = .ok (.ifCond .eq 5, 3) := by decide +kernel
theorem dX8_slide_126 : decode cX8_slide 126 = .ok (.iconst 0, 1) := by decide +kernel
theorem dX8_slide_127 : decode cX8_slide 127 = .ok (.ireturn, 1) := by decide +kernel
theorem dX8_slide_128 : decode cX8_slide 128 = .ok (.iinc 3 1, 3) := by decide +kernel
theorem dX8_slide_131 : decode cX8_slide 131 = .ok (.goto (-31), 3) := by decide +kernel
theorem dX8_slide_134 : decode cX8_slide 134 = .ok (.iconst 0, 1) := by decide +kernel
theorem dX8_slide_135 : decode cX8_slide 135 = .ok (.istore_n 3, 1) := by decide +kernel
theorem dX8_slide_136 : decode cX8_slide 136 = .ok (.iload_n 3, 1) := by decide +kernel
theorem dX8_slide_137 : decode cX8_slide 137 = .ok (.aload_n 0, 1) := by decide +kernel
theorem dX8_slide_138 : decode cX8_slide 138 = .ok (.getfield 22, 3) := by decide +kernel
theorem dX8_slide_141 : decode cX8_slide 141 = .ok (.iconst 3, 1) := by decide +kernel
theorem dX8_slide_142 : decode cX8_slide 142 = .ok (.iaload, 1) := by decide +kernel
theorem dX8_slide_143 : decode cX8_slide 143 = .ok (.if_icmp .ge 34, 3) := by decide +kernel
theorem dX8_slide_146 : decode cX8_slide 146 = .ok (.aload_n 0, 1) := by decide +kernel
theorem dX8_slide_147 : decode cX8_slide 147 = .ok (.getfield 22, 3) := by decide +kernel
theorem dX8_slide_150 : decode cX8_slide 150 = .ok (.bipush 10, 2) := by decide +kernel
theorem dX8_slide_152 : decode cX8_slide 152 = .ok (.iload_n 3, 1) := by decide +kernel
theorem dX8_slide_153 : decode cX8_slide 153 = .ok (.iadd, 1) := by decide +kernel
theorem dX8_slide_154 : decode cX8_slide 154 = .ok (.dup2, 1) := by decide +kernel
theorem dX8_slide_155 : decode cX8_slide 155 = .ok (.iaload, 1) := by decide +kernel
theorem dX8_slide_156 : decode cX8_slide 156 = .ok (.iload_n 2, 1) := by decide +kernel
theorem dX8_slide_157 : decode cX8_slide 157 = .ok (.iload_n 3, 1) := by decide +kernel
theorem dX8_slide_158 : decode cX8_slide 158 = .ok (.invokestatic 184, 3) := by decide +kernel
theorem dX8_slide_161 : decode cX8_slide 161 = .ok (.ifCond .eq 7, 3) := by decide +kernel
theorem dX8_slide_164 : decode cX8_slide 164 = .ok (.iconst 1, 1) := by decide +kernel
theorem dX8_slide_165 : decode cX8_slide 165 = .ok (.goto 4, 3) := by decide +kernel
theorem dX8_slide_168 : decode cX8_slide 168 = .ok (.iconst 0, 1) := by decide +kernel
theorem dX8_slide_169 : decode cX8_slide 169 = .ok (.iadd, 1) := by decide +kernel
theorem dX8_slide_170 : decode cX8_slide 170 = .ok (.iastore, 1) := by decide +kernel
theorem dX8_slide_171 : decode cX8_slide 171 = .ok (.iinc 3 1, 3) := by decide +kernel
theorem dX8_slide_174 : decode cX8_slide 174 = .ok (.goto (-38), 3) := by decide +kernel
theorem dX8_slide_177 : decode cX8_slide 177 = .ok (.iload_n 2, 1) := by decide +kernel
theorem dX8_slide_178 : decode cX8_slide 178 = .ok (.ireturn, 1) := by decide +kernel
theorem dX8_isDrowned_0 : decode cX8_isDrowned 0 = .ok (.aload_n 0, 1) := by decide +kernel
theorem dX8_isDrowned_1 : decode cX8_isDrowned 1 = .ok (.getfield 22, 3) := by decide +kernel
theorem dX8_isDrowned_4 : decode cX8_isDrowned 4 = .ok (.bipush 10, 2) := by decide +kernel
theorem dX8_isDrowned_6 : decode cX8_isDrowned 6 = .ok (.iload_n 1, 1) := by decide +kernel
theorem dX8_isDrowned_7 : decode cX8_isDrowned 7 = .ok (.iadd, 1) := by decide +kernel
theorem dX8_isDrowned_8 : decode cX8_isDrowned 8 = .ok (.iaload, 1) := by decide +kernel
theorem dX8_isDrowned_9 : decode cX8_isDrowned 9 = .ok (.aload_n 0, 1) := by decide +kernel
theorem dX8_isDrowned_10 : decode cX8_isDrowned 10 = .ok (.getfield 22, 3) := by decide +kernel
theorem dX8_isDrowned_13 : decode cX8_isDrowned 13 = .ok (.bipush 22, 2) := by decide +kernel
theorem dX8_isDrowned_15 : decode cX8_isDrowned 15 = .ok (.iload_n 1, 1) := by decide +kernel
theorem dX8_isDrowned_16 : decode cX8_isDrowned 16 = .ok (.iadd, 1) := by decide +kernel
theorem dX8_isDrowned_17 : decode cX8_isDrowned 17 = .ok (.iaload, 1) := by decide +kernel
theorem dX8_isDrowned_18 : decode cX8_isDrowned 18 = .ok (.iadd, 1) := by decide +kernel
theorem dX8_isDrowned_19 : decode cX8_isDrowned 19 = .ok (.aload_n 0, 1) := by decide +kernel
theorem dX8_isDrowned_20 : decode cX8_isDrowned 20 = .ok (.getfield 22, 3) := by decide +kernel
theorem dX8_isDrowned_23 : decode cX8_isDrowned 23 = .ok (.iconst 2, 1) := by decide +kernel
theorem dX8_isDrowned_24 : decode cX8_isDrowned 24 = .ok (.iaload, 1) := by decide +kernel
theorem dX8_isDrowned_25 : decode cX8_isDrowned 25 = .ok (.if_icmp .le 7, 3) := by decide +kernel
theorem dX8_isDrowned_28 : decode cX8_isDrowned 28 = .ok (.iconst 1, 1) := by decide +kernel
theorem dX8_isDrowned_29 : decode cX8_isDrowned 29 = .ok (.goto 4, 3) := by decide +kernel
theorem dX8_isDrowned_32 : decode cX8_isDrowned 32 = .ok (.iconst 0, 1) := by decide +kernel
theorem dX8_isDrowned_33 : decode cX8_isDrowned 33 = .ok (.ireturn, 1) := by decide +kernel
theorem dX8_isLie_0 : decode cX8_isLie 0 = .ok (.iload_n 1, 1) := by decide +kernel
theorem dX8_isLie_1 : decode cX8_isLie 1 = .ok (.iconst 1, 1) := by decide +kernel
theorem dX8_isLie_2 : decode cX8_isLie 2 = .ok (.iand, 1) := by decide +kernel
theorem dX8_isLie_3 : decode cX8_isLie 3 = .ok (.ifCond .ne 7, 3) := by decide +kernel
theorem dX8_isLie_6 : decode cX8_isLie 6 = .ok (.iconst 1, 1) := by decide +kernel
theorem dX8_isLie_7 : decode cX8_isLie 7 = .ok (.goto 4, 3) := by decide +kernel
theorem dX8_isLie_10 : decode cX8_isLie 10 = .ok (.iconst 0, 1) := by decide +kernel
theorem dX8_isLie_11 : decode cX8_isLie 11 = .ok (.aload_n 0, 1) := by decide +kernel
theorem dX8_isLie_12 : decode cX8_isLie 12 = .ok (.getfield 22, 3) := by decide +kernel
theorem dX8_isLie_15 : decode cX8_isLie 15 = .ok (.iconst 1, 1) := by decide +kernel
theorem dX8_isLie_16 : decode cX8_isLie 16 = .ok (.iaload, 1) := by decide +kernel
theorem dX8_isLie_17 : decode cX8_isLie 17 = .ok (.iload_n 1, 1) := by decide +kernel
theorem dX8_isLie_18 : decode cX8_isLie 18 = .ok (.iconst 2, 1) := by decide +kernel
theorem dX8_isLie_19 : decode cX8_isLie 19 = .ok (.idiv, 1) := by decide +kernel
theorem dX8_isLie_20 : decode cX8_isLie 20 = .ok (.invokestatic 184, 3) := by decide +kernel
theorem dX8_isLie_23 : decode cX8_isLie 23 = .ok (.if_icmp .ne 7, 3) := by decide +kernel
theorem dX8_isLie_26 : decode cX8_isLie 26 = .ok (.iconst 1, 1) := by decide +kernel
theorem dX8_isLie_27 : decode cX8_isLie 27 = .ok (.goto 4, 3) := by decide +kernel
theorem dX8_isLie_30 : decode cX8_isLie 30 = .ok (.iconst 0, 1) := by decide +kernel
theorem dX8_isLie_31 : decode cX8_isLie 31 = .ok (.ireturn, 1) := by decide +kernel
theorem dX8_saying_0 : decode cX8_saying 0 = .ok (.aload_n 0, 1) := by decide +kernel
theorem dX8_saying_1 : decode cX8_saying 1 = .ok (.getfield 181, 3) := by decide +kernel
theorem dX8_saying_4 : decode cX8_saying 4 = .ok (.bipush 24, 2) := by decide +kernel
theorem dX8_saying_6 : decode cX8_saying 6 = .ok (.if_icmp .ne 43, 3) := by decide +kernel
theorem dX8_saying_9 : decode cX8_saying 9 = .ok (.iconst 0, 1) := by decide +kernel
theorem dX8_saying_10 : decode cX8_saying 10 = .ok (.istore_n 3, 1) := by decide +kernel
theorem dX8_saying_11 : decode cX8_saying 11 = .ok (.iload_n 3, 1) := by decide +kernel
theorem dX8_saying_12 : decode cX8_saying 12 = .ok (.sipush 161, 3) := by decide +kernel
theorem dX8_saying_15 : decode cX8_saying 15 = .ok (.if_icmp .ge 24, 3) := by decide +kernel
theorem dX8_saying_18 : decode cX8_saying 18 = .ok (.aload_n 0, 1) := by decide +kernel
theorem dX8_saying_19 : decode cX8_saying 19 = .ok (.getfield 35, 3) := by decide +kernel
theorem dX8_saying_22 : decode cX8_saying 22 = .ok (.iload_n 3, 1) := by decide +kernel
theorem dX8_saying_23 : decode cX8_saying 23 = .ok (.aload_n 0, 1) := by decide +kernel
theorem dX8_saying_24 : decode cX8_saying 24 = .ok (.getfield 35, 3) := by decide +kernel
theorem dX8_saying_27 : decode cX8_saying 27 = .ok (.iload_n 3, 1) := by decide +kernel
theorem dX8_saying_28 : decode cX8_saying 28 = .ok (.bipush 7, 2) := by decide +kernel
theorem dX8_saying_30 : decode cX8_saying 30 = .ok (.iadd, 1) := by decide +kernel
theorem dX8_saying_31 : decode cX8_saying 31 = .ok (.iaload, 1) := by decide +kernel
theorem dX8_saying_32 : decode cX8_saying 32 = .ok (.iastore, 1) := by decide +kernel
theorem dX8_saying_33 : decode cX8_saying 33 = .ok (.iinc 3 1, 3) := by decide +kernel
theorem dX8_saying_36 : decode cX8_saying 36 = .ok (.goto (-25), 3) := by decide +kernel
theorem dX8_saying_39 : decode cX8_saying 39 = .ok (.aload_n 0, 1) := by decide +kernel
theorem dX8_saying_40 : decode cX8_saying 40 = .ok (.dup, 1) := by decide +kernel
theorem dX8_saying_41 : decode cX8_saying 41 = .ok (.getfield 181, 3) := by decide +kernel
theorem dX8_saying_44 : decode cX8_saying 44 = .ok (.iconst 1, 1) := by decide +kernel
theorem dX8_saying_45 : decode cX8_saying 45 = .ok (.isub, 1) := by decide +kernel
theorem dX8_saying_46 : decode cX8_saying 46 = .ok (.putfield 181, 3) := by decide +kernel
theorem dX8_saying_49 : decode cX8_saying 49 = .ok (.iconst 0, 1) := by decide +kernel
theorem dX8_saying_50 : decode cX8_saying 50 = .ok (.istore_n 3, 1) := by decide +kernel
theorem dX8_saying_51 : decode cX8_saying 51 = .ok (.iload_n 3, 1) := by decide +kernel
theorem dX8_saying_52 : decode cX8_saying 52 = .ok (.bipush 6, 2) := by decide +kernel
theorem dX8_saying_54 : decode cX8_saying 54 = .ok (.if_icmp .ge 32, 3) := by decide +kernel
theorem dX8_saying_57 : decode cX8_saying 57 = .ok (.aload_n 0, 1) := by decide +kernel
theorem dX8_saying_58 : decode cX8_saying 58 = .ok (.getfield 35, 3) := by decide +kernel
theorem dX8_saying_61 : decode cX8_saying 61 = .ok (.bipush 7, 2) := by decide +kernel
theorem dX8_saying_63 : decode cX8_saying 63 = .ok (.aload_n 0, 1) := by decide +kernel
theorem dX8_saying_64 : decode cX8_saying 64 = .ok (.getfield 181, 3) := by decide +kernel
theorem dX8_saying_67 : decode cX8_saying 67 = .ok (.imul, 1) := by decide +kernel
theorem dX8_saying_68 : decode cX8_saying 68 = .ok (.iload_n 3, 1) := by decide +kernel
theorem dX8_saying_69 : decode cX8_saying 69 = .ok (.iadd, 1) := by decide +kernel
theorem dX8_saying_70 : decode cX8_saying 70 = .ok (.aload_n 0, 1) := by decide +kernel
theorem dX8_saying_71 : decode cX8_saying 71 = .ok (.getfield 22, 3) := by decide +kernel
theorem dX8_saying_74 : decode cX8_saying 74 = .ok (.bipush 10, 2) := by decide +kernel
theorem dX8_saying_76 : decode cX8_saying 76 = .ok (.iload_n 3, 1) := by decide +kernel
theorem dX8_saying_77 : decode cX8_saying 77 = .ok (.iadd, 1) := by decide +kernel
theorem dX8_saying_78 : decode cX8_saying 78 = .ok (.iaload, 1) := by decide +kernel
theorem dX8_saying_79 : decode cX8_saying 79 = .ok (.iastore, 1) := by decide +kernel
theorem dX8_saying_80 : decode cX8_saying 80 = .ok (.iinc 3 1, 3) := by decide +kernel
theorem dX8_saying_83 : decode cX8_saying 83 = .ok (.goto (-32), 3) := by decide +kernel
theorem dX8_saying_86 : decode cX8_saying 86 = .ok (.aload_n 0, 1) := by decide +kernel
theorem dX8_saying_87 : decode cX8_saying 87 = .ok (.iload_n 2, 1) := by decide +kernel
theorem dX8_saying_88 : decode cX8_saying 88 = .ok (.invokevirtual 193, 3) := by decide +kernel
theorem dX8_saying_91 : decode cX8_saying 91 = .ok (.istore_n 3, 1) := by decide +kernel
theorem dX8_saying_92 : decode cX8_saying 92 = .ok (.aload_n 0, 1) := by decide +kernel
theorem dX8_saying_93 : decode cX8_saying 93 = .ok (.getfield 35, 3) := by decide +kernel
theorem dX8_saying_96 : decode cX8_saying 96 = .ok (.bipush 7, 2) := by decide +kernel
theorem dX8_saying_98 : decode cX8_saying 98 = .ok (.aload_n 0, 1) := by decide +kernel
theorem dX8_saying_99 : decode cX8_saying 99 = .ok (.getfield 181, 3) := by decide +kernel
theorem dX8_saying_102 : decode cX8_saying 102 = .ok (.imul, 1) := by decide +kernel
theorem dX8_saying_103 : decode cX8_saying 103 = .ok (.bipush 6, 2) := by decide +kernel
theorem dX8_saying_105 : decode cX8_saying 105 = .ok (.iadd, 1) := by decide +kernel
theorem dX8_saying_106 : decode cX8_saying 106 = .ok (.iload_n 3, 1) := by decide +kernel
theorem dX8_saying_107 : decode cX8_saying 107 = .ok (.ifCond .eq 7, 3) := by decide +kernel
theorem dX8_saying_110 : decode cX8_saying 110 = .ok (.iload_n 1, 1) := by decide +kernel
theorem dX8_saying_111 : decode cX8_saying 111 = .ok (.goto 5, 3) := by decide +kernel
theorem dX8_saying_114 : decode cX8_saying 114 = .ok (.ldc 50, 2) := by decide +kernel
theorem dX8_saying_116 : decode cX8_saying 116 = .ok (.iastore, 1) := by decide +kernel
theorem dX8_saying_117 : decode cX8_saying 117 = .ok (.aload_n 0, 1) := by decide +kernel
theorem dX8_saying_118 : decode cX8_saying 118 = .ok (.dup, 1) := by decide +kernel
theorem dX8_saying_119 : decode cX8_saying 119 = .ok (.getfield 181, 3) := by decide +kernel
theorem dX8_saying_122 : decode cX8_saying 122 = .ok (.iconst 1, 1) := by decide +kernel
theorem dX8_saying_123 : decode cX8_saying 123 = .ok (.iadd, 1) := by decide +kernel
theorem dX8_saying_124 : decode cX8_saying 124 = .ok (.putfield 181, 3) := by decide +kernel
theorem dX8_saying_127 : decode cX8_saying 127 = .ok (.iload_n 3, 1) := by decide +kernel
theorem dX8_saying_128 : decode cX8_saying 128 = .ok (.ifCond .ne 5, 3) := by decide +kernel
theorem dX8_saying_131 : decode cX8_saying 131 = .ok (.iconst 0, 1) := by decide +kernel
theorem dX8_saying_132 : decode cX8_saying 132 = .ok (.ireturn, 1) := by decide +kernel
theorem dX8_saying_133 : decode cX8_saying 133 = .ok (.aload_n 0, 1) := by decide +kernel
theorem dX8_saying_134 : decode cX8_saying 134 = .ok (.getfield 22, 3) := by decide +kernel
theorem dX8_saying_137 : decode cX8_saying 137 = .ok (.bipush 34, 2) := by decide +kernel
theorem dX8_saying_139 : decode cX8_saying 139 = .ok (.iload_n 1, 1) := by decide +kernel
theorem dX8_saying_140 : decode cX8_saying 140 = .ok (.iadd, 1) := by decide +kernel
theorem dX8_saying_141 : decode cX8_saying 141 = .ok (.dup2, 1) := by decide +kernel
theorem dX8_saying_142 : decode cX8_saying 142 = .ok (.iaload, 1) := by decide +kernel
theorem dX8_saying_143 : decode cX8_saying 143 = .ok (.iconst 1, 1) := by decide +kernel
theorem dX8_saying_144 : decode cX8_saying 144 = .ok (.iadd, 1) := by decide +kernel
theorem dX8_saying_145 : decode cX8_saying 145 = .ok (.iastore, 1) := by decide +kernel
theorem dX8_saying_146 : decode cX8_saying 146 = .ok (.aload_n 0, 1) := by decide +kernel
theorem dX8_saying_147 : decode cX8_saying 147 = .ok (.iload_n 1, 1) := by decide +kernel
theorem dX8_saying_148 : decode cX8_saying 148 = .ok (.invokevirtual 196, 3) := by decide +kernel
theorem dX8_saying_151 : decode cX8_saying 151 = .ok (.ireturn, 1) := by decide +kernel
theorem dX8_say_0 : decode cX8_say 0 = .ok (.aload_n 0, 1) := by decide +kernel
theorem dX8_say_1 : decode cX8_say 1 = .ok (.iload_n 1, 1) := by decide +kernel
theorem dX8_say_2 : decode cX8_say 2 = .ok (.invokevirtual 199, 3) := by decide +kernel
theorem dX8_say_5 : decode cX8_say 5 = .ok (.ifCond .eq 13, 3) := by decide +kernel
theorem dX8_say_8 : decode cX8_say 8 = .ok (.iload_n 2, 1) := by decide +kernel
theorem dX8_say_9 : decode cX8_say 9 = .ok (.iconst 0, 1) := by decide +kernel
theorem dX8_say_10 : decode cX8_say 10 = .ok (.bipush 15, 2) := by decide +kernel
theorem dX8_say_12 : decode cX8_say 12 = .ok (.invokestatic 56, 3) := by decide +kernel
theorem dX8_say_15 : decode cX8_say 15 = .ok (.ifCond .ne 6, 3) := by decide +kernel
theorem dX8_say_18 : decode cX8_say 18 = .ok (.ldc 64, 2) := by decide +kernel
theorem dX8_say_20 : decode cX8_say 20 = .ok (.ireturn, 1) := by decide +kernel
theorem dX8_say_21 : decode cX8_say 21 = .ok (.aload_n 0, 1) := by decide +kernel
theorem dX8_say_22 : decode cX8_say 22 = .ok (.iload_n 1, 1) := by decide +kernel
theorem dX8_say_23 : decode cX8_say 23 = .ok (.invokevirtual 202, 3) := by decide +kernel
theorem dX8_say_26 : decode cX8_say 26 = .ok (.ifCond .eq 8, 3) := by decide +kernel
theorem dX8_say_29 : decode cX8_say 29 = .ok (.ldc 205, 2) := by decide +kernel
theorem dX8_say_31 : decode cX8_say 31 = .ok (.goto 9, 3) := by decide +kernel
theorem dX8_say_34 : decode cX8_say 34 = .ok (.aload_n 0, 1) := by decide +kernel
theorem dX8_say_35 : decode cX8_say 35 = .ok (.iload_n 1, 1) := by decide +kernel
theorem dX8_say_36 : decode cX8_say 36 = .ok (.iload_n 2, 1) := by decide +kernel
theorem dX8_say_37 : decode cX8_say 37 = .ok (.invokevirtual 206, 3) := by decide +kernel
theorem dX8_say_40 : decode cX8_say 40 = .ok (.ireturn, 1) := by decide +kernel
theorem dX8_talk_0 : decode cX8_talk 0 = .ok (.aload_n 0, 1) := by decide +kernel
theorem dX8_talk_1 : decode cX8_talk 1 = .ok (.getfield 22, 3) := by decide +kernel
theorem dX8_talk_4 : decode cX8_talk 4 = .ok (.iconst 0, 1) := by decide +kernel
theorem dX8_talk_5 : decode cX8_talk 5 = .ok (.iaload, 1) := by decide +kernel
theorem dX8_talk_6 : decode cX8_talk 6 = .ok (.ifCond .ne 6, 3) := by decide +kernel
theorem dX8_talk_9 : decode cX8_talk 9 = .ok (.ldc 205, 2) := by decide +kernel
theorem dX8_talk_11 : decode cX8_talk 11 = .ok (.ireturn, 1) := by decide +kernel
theorem dX8_talk_12 : decode cX8_talk 12 = .ok (.iload_n 1, 1) := by decide +kernel
theorem dX8_talk_13 : decode cX8_talk 13 = .ok (.invokestatic 60, 3) := by decide +kernel
theorem dX8_talk_16 : decode cX8_talk 16 = .ok (.ifCond .eq 13, 3) := by decide +kernel
theorem dX8_talk_19 : decode cX8_talk 19 = .ok (.iload_n 3, 1) := by decide +kernel
theorem dX8_talk_20 : decode cX8_talk 20 = .ok (.iconst 1, 1) := by decide +kernel
theorem dX8_talk_21 : decode cX8_talk 21 = .ok (.bipush 20, 2) := by decide +kernel
theorem dX8_talk_23 : decode cX8_talk 23 = .ok (.invokestatic 56, 3) := by decide +kernel
theorem dX8_talk_26 : decode cX8_talk 26 = .ok (.ifCond .ne 6, 3) := by decide +kernel
theorem dX8_talk_29 : decode cX8_talk 29 = .ok (.ldc 64, 2) := by decide +kernel
theorem dX8_talk_31 : decode cX8_talk 31 = .ok (.ireturn, 1) := by decide +kernel
theorem dX8_talk_32 : decode cX8_talk 32 = .ok (.aload_n 0, 1) := by decide +kernel
theorem dX8_talk_33 : decode cX8_talk 33 = .ok (.iload_n 1, 1) := by decide +kernel
theorem dX8_talk_34 : decode cX8_talk 34 = .ok (.invokevirtual 72, 3) := by decide +kernel
theorem dX8_talk_37 : decode cX8_talk 37 = .ok (.ifCond .eq 9, 3) := by decide +kernel
theorem dX8_talk_40 : decode cX8_talk 40 = .ok (.aload_n 0, 1) := by decide +kernel
theorem dX8_talk_41 : decode cX8_talk 41 = .ok (.iconst 1, 1) := by decide +kernel
theorem dX8_talk_42 : decode cX8_talk 42 = .ok (.invokevirtual 65, 3) := by decide +kernel
theorem dX8_talk_45 : decode cX8_talk 45 = .ok (.ireturn, 1) := by decide +kernel
theorem dX8_talk_46 : decode cX8_talk 46 = .ok (.iload_n 2, 1) := by decide +kernel
theorem dX8_talk_47 : decode cX8_talk 47 = .ok (.ifCond .lt 15, 3) := by decide +kernel
theorem dX8_talk_50 : decode cX8_talk 50 = .ok (.iload_n 3, 1) := by decide +kernel
theorem dX8_talk_51 : decode cX8_talk 51 = .ok (.aload_n 0, 1) := by decide +kernel
theorem dX8_talk_52 : decode cX8_talk 52 = .ok (.getfield 13, 3) := by decide +kernel
theorem dX8_talk_55 : decode cX8_talk 55 = .ok (.iload_n 1, 1) := by decide +kernel
theorem dX8_talk_56 : decode cX8_talk 56 = .ok (.iaload, 1) := by decide +kernel
theorem dX8_talk_57 : decode cX8_talk 57 = .ok (.iload_n 2, 1) := by decide +kernel
theorem dX8_talk_58 : decode cX8_talk 58 = .ok (.isub, 1) := by decide +kernel
theorem dX8_talk_59 : decode cX8_talk 59 = .ok (.if_icmp .le 9, 3) := by decide +kernel
theorem dX8_talk_62 : decode cX8_talk 62 = .ok (.aload_n 0, 1) := by decide +kernel
theorem dX8_talk_63 : decode cX8_talk 63 = .ok (.iconst 2, 1) := by decide +kernel
theorem dX8_talk_64 : decode cX8_talk 64 = .ok (.invokevirtual 65, 3) := by decide +kernel
theorem dX8_talk_67 : decode cX8_talk 67 = .ok (.ireturn, 1) := by decide +kernel
theorem dX8_talk_68 : decode cX8_talk 68 = .ok (.iload_n 2, 1) := by decide +kernel
theorem dX8_talk_69 : decode cX8_talk 69 = .ok (.istore 4, 2) := by decide +kernel
theorem dX8_talk_71 : decode cX8_talk 71 = .ok (.iload 4, 2) := by decide +kernel
theorem dX8_talk_73 : decode cX8_talk 73 = .ok (.iload_n 2, 1) := by decide +kernel
theorem dX8_talk_74 : decode cX8_talk 74 = .ok (.iload_n 3, 1) := by decide +kernel
theorem dX8_talk_75 : decode cX8_talk 75 = .ok (.iadd, 1) := by decide +kernel
theorem dX8_talk_76 : decode cX8_talk 76 = .ok (.if_icmp .ge 42, 3) := by decide +kernel
theorem dX8_talk_79 : decode cX8_talk 79 = .ok (.aload_n 0, 1) := by decide +kernel
theorem dX8_talk_80 : decode cX8_talk 80 = .ok (.getfield 16, 3) := by decide +kernel
theorem dX8_talk_83 : decode cX8_talk 83 = .ok (.bipush 40, 2) := by decide +kernel
theorem dX8_talk_85 : decode cX8_talk 85 = .ok (.iload_n 1, 1) := by decide +kernel
theorem dX8_talk_86 : decode cX8_talk 86 = .ok (.imul, 1) := by decide +kernel
theorem dX8_talk_87 : decode cX8_talk 87 = .ok (.iload 4, 2) := by decide +kernel
theorem dX8_talk_89 : decode cX8_talk 89 = .ok (.iadd, 1) := by decide +kernel
theorem dX8_talk_90 : decode cX8_talk 90 = .ok (.iaload, 1) := by decide +kernel
theorem dX8_talk_91 : decode cX8_talk 91 = .ok (.iconst 0, 1) := by decide +kernel
theorem dX8_talk_92 : decode cX8_talk 92 = .ok (.bipush 16, 2) := by decide +kernel
theorem dX8_talk_94 : decode cX8_talk 94 = .ok (.aload_n 0, 1) := by decide +kernel
theorem dX8_talk_95 : decode cX8_talk 95 = .ok (.getfield 22, 3) := by decide +kernel
theorem dX8_talk_98 : decode cX8_talk 98 = .ok (.iconst 3, 1) := by decide +kernel
theorem dX8_talk_99 : decode cX8_talk 99 = .ok (.iaload, 1) := by decide +kernel
theorem dX8_talk_100 : decode cX8_talk 100 = .ok (.imul, 1) := by decide +kernel
theorem dX8_talk_101 : decode cX8_talk 101 = .ok (.iconst 1, 1) := by decide +kernel
theorem dX8_talk_102 : decode cX8_talk 102 = .ok (.isub, 1) := by decide +kernel
theorem dX8_talk_103 : decode cX8_talk 103 = .ok (.invokestatic 56, 3) := by decide +kernel
theorem dX8_talk_106 : decode cX8_talk 106 = .ok (.ifCond .ne 6, 3) := by decide +kernel
theorem dX8_talk_109 : decode cX8_talk 109 = .ok (.ldc 64, 2) := by decide +kernel
theorem dX8_talk_111 : decode cX8_talk 111 = .ok (.ireturn, 1) := by decide +kernel
theorem dX8_talk_112 : decode cX8_talk 112 = .ok (.iinc 4 1, 3) := by decide +kernel
theorem dX8_talk_115 : decode cX8_talk 115 = .ok (.goto (-44), 3) := by decide +kernel
theorem dX8_talk_118 : decode cX8_talk 118 = .ok (.iconst 0, 1) := by decide +kernel
theorem dX8_talk_119 : decode cX8_talk 119 = .ok (.istore 4, 2) := by decide +kernel
theorem dX8_talk_121 : decode cX8_talk 121 = .ok (.iload_n 2, 1) := by decide +kernel
theorem dX8_talk_122 : decode cX8_talk 122 = .ok (.istore 5, 2) := by decide +kernel
theorem dX8_talk_124 : decode cX8_talk 124 = .ok (.iload 5, 2) := by decide +kernel
theorem dX8_talk_126 : decode cX8_talk 126 = .ok (.iload_n 2, 1) := by decide +kernel
theorem dX8_talk_127 : decode cX8_talk 127 = .ok (.iload_n 3, 1) := by decide +kernel
theorem dX8_talk_128 : decode cX8_talk 128 = .ok (.iadd, 1) := by decide +kernel
theorem dX8_talk_129 : decode cX8_talk 129 = .ok (.if_icmp .ge 69, 3) := by decide +kernel
theorem dX8_talk_132 : decode cX8_talk 132 = .ok (.aload_n 0, 1) := by decide +kernel
theorem dX8_talk_133 : decode cX8_talk 133 = .ok (.getfield 16, 3) := by decide +kernel
theorem dX8_talk_136 : decode cX8_talk 136 = .ok (.bipush 40, 2) := by decide +kernel
theorem dX8_talk_138 : decode cX8_talk 138 = .ok (.iload_n 1, 1) := by decide +kernel
theorem dX8_talk_139 : decode cX8_talk 139 = .ok (.imul, 1) := by decide +kernel
theorem dX8_talk_140 : decode cX8_talk 140 = .ok (.iload 5, 2) := by decide +kernel
theorem dX8_talk_142 : decode cX8_talk 142 = .ok (.iadd, 1) := by decide +kernel
theorem dX8_talk_143 : decode cX8_talk 143 = .ok (.iaload, 1) := by decide +kernel
theorem dX8_talk_144 : decode cX8_talk 144 = .ok (.bipush 16, 2) := by decide +kernel
theorem dX8_talk_146 : decode cX8_talk 146 = .ok (.idiv, 1) := by decide +kernel
theorem dX8_talk_147 : decode cX8_talk 147 = .ok (.istore 6, 2) := by decide +kernel
theorem dX8_talk_149 : decode cX8_talk 149 = .ok (.aload_n 0, 1) := by decide +kernel
theorem dX8_talk_150 : decode cX8_talk 150 = .ok (.iload 6, 2) := by decide +kernel
theorem dX8_talk_152 : decode cX8_talk 152 = .ok (.invokevirtual 202, 3) := by decide +kernel
theorem dX8_talk_155 : decode cX8_talk 155 = .ok (.ifCond .ne 37, 3) := by decide +kernel
theorem dX8_talk_158 : decode cX8_talk 158 = .ok (.iload 4, 2) := by decide +kernel
theorem dX8_talk_160 : decode cX8_talk 160 = .ok (.aload_n 0, 1) := by decide +kernel
theorem dX8_talk_161 : decode cX8_talk 161 = .ok (.iload 6, 2) := by decide +kernel
theorem dX8_talk_163 : decode cX8_talk 163 = .ok (.aload_n 0, 1) := by decide +kernel
theorem dX8_talk_164 : decode cX8_talk 164 = .ok (.getfield 16, 3) := by decide +kernel
theorem dX8_talk_167 : decode cX8_talk 167 = .ok (.bipush 40, 2) := by decide +kernel
theorem dX8_talk_169 : decode cX8_talk 169 = .ok (.iload_n 1, 1) := by decide +kernel
theorem dX8_talk_170 : decode cX8_talk 170 = .ok (.imul, 1) := by decide +kernel
theorem dX8_talk_171 : decode cX8_talk 171 = .ok (.iload 5, 2) := by decide +kernel
theorem dX8_talk_173 : decode cX8_talk 173 = .ok (.iadd, 1) := by decide +kernel
theorem dX8_talk_174 : decode cX8_talk 174 = .ok (.iaload, 1) := by decide +kernel
theorem dX8_talk_175 : decode cX8_talk 175 = .ok (.bipush 16, 2) := by decide +kernel
theorem dX8_talk_177 : decode cX8_talk 177 = .ok (.irem, 1) := by decide +kernel
theorem dX8_talk_178 : decode cX8_talk 178 = .ok (.invokevirtual 206, 3) := by decide +kernel
theorem dX8_talk_181 : decode cX8_talk 181 = .ok (.ifCond .eq 7, 3) := by decide +kernel
theorem dX8_talk_184 : decode cX8_talk 184 = .ok (.iconst 1, 1) := by decide +kernel
theorem dX8_talk_185 : decode cX8_talk 185 = .ok (.goto 4, 3) := by decide +kernel
theorem dX8_talk_188 : decode cX8_talk 188 = .ok (.iconst 0, 1) := by decide +kernel
theorem dX8_talk_189 : decode cX8_talk 189 = .ok (.iadd, 1) := by decide +kernel
theorem dX8_talk_190 : decode cX8_talk 190 = .ok (.istore 4, 2) := by decide +kernel
theorem dX8_talk_192 : decode cX8_talk 192 = .ok (.iinc 5 1, 3) := by decide +kernel
theorem dX8_talk_195 : decode cX8_talk 195 = .ok (.goto (-71), 3) := by decide +kernel
theorem dX8_talk_198 : decode cX8_talk 198 = .ok (.aload_n 0, 1) := by decide +kernel
theorem dX8_talk_199 : decode cX8_talk 199 = .ok (.iload 4, 2) := by decide +kernel
theorem dX8_talk_201 : decode cX8_talk 201 = .ok (.invokevirtual 69, 3) := by decide +kernel
theorem dX8_talk_204 : decode cX8_talk 204 = .ok (.ireturn, 1) := by decide +kernel
theorem dX8_undo_0 : decode cX8_undo 0 = .ok (.aload_n 0, 1) := by decide +kernel
theorem dX8_undo_1 : decode cX8_undo 1 = .ok (.getfield 181, 3) := by decide +kernel
theorem dX8_undo_4 : decode cX8_undo 4 = .ok (.ifCond .ne 6, 3) := by decide +kernel
theorem dX8_undo_7 : decode cX8_undo 7 = .ok (.ldc 205, 2) := by decide +kernel
theorem dX8_undo_9 : decode cX8_undo 9 = .ok (.ireturn, 1) := by decide +kernel
theorem dX8_undo_10 : decode cX8_undo 10 = .ok (.aload_n 0, 1) := by decide +kernel
theorem dX8_undo_11 : decode cX8_undo 11 = .ok (.dup, 1) := by decide +kernel
theorem dX8_undo_12 : decode cX8_undo 12 = .ok (.getfield 181, 3) := by decide +kernel
theorem dX8_undo_15 : decode cX8_undo 15 = .ok (.iconst 1, 1) := by decide +kernel
theorem dX8_undo_16 : decode cX8_undo 16 = .ok (.isub, 1) := by decide +kernel
theorem dX8_undo_17 : decode cX8_undo 17 = .ok (.putfield 181, 3) := by decide +kernel
theorem dX8_undo_20 : decode cX8_undo 20 = .ok (.iconst 0, 1) := by decide +kernel
theorem dX8_undo_21 : decode cX8_undo 21 = .ok (.istore_n 1, 1) := by decide +kernel
theorem dX8_undo_22 : decode cX8_undo 22 = .ok (.iload_n 1, 1) := by decide +kernel
theorem dX8_undo_23 : decode cX8_undo 23 = .ok (.bipush 6, 2) := by decide +kernel
theorem dX8_undo_25 : decode cX8_undo 25 = .ok (.if_icmp .ge 32, 3) := by decide +kernel
theorem dX8_undo_28 : decode cX8_undo 28 = .ok (.aload_n 0, 1) := by decide +kernel
theorem dX8_undo_29 : decode cX8_undo 29 = .ok (.getfield 22, 3) := by decide +kernel
theorem dX8_undo_32 : decode cX8_undo 32 = .ok (.bipush 10, 2) := by decide +kernel
theorem dX8_undo_34 : decode cX8_undo 34 = .ok (.iload_n 1, 1) := by decide +kernel
theorem dX8_undo_35 : decode cX8_undo 35 = .ok (.iadd, 1) := by decide +kernel
theorem dX8_undo_36 : decode cX8_undo 36 = .ok (.aload_n 0, 1) := by decide +kernel
theorem dX8_undo_37 : decode cX8_undo 37 = .ok (.getfield 35, 3) := by decide +kernel
theorem dX8_undo_40 : decode cX8_undo 40 = .ok (.bipush 7, 2) := by decide +kernel
theorem dX8_undo_42 : decode cX8_undo 42 = .ok (.aload_n 0, 1) := by decide +kernel
theorem dX8_undo_43 : decode cX8_undo 43 = .ok (.getfield 181, 3) := by decide +kernel
theorem dX8_undo_46 : decode cX8_undo 46 = .ok (.imul, 1) := by decide +kernel
theorem dX8_undo_47 : decode cX8_undo 47 = .ok (.iload_n 1, 1) := by decide +kernel
theorem dX8_undo_48 : decode cX8_undo 48 = .ok (.iadd, 1) := by decide +kernel
theorem dX8_undo_49 : decode cX8_undo 49 = .ok (.iaload, 1) := by decide +kernel
theorem dX8_undo_50 : decode cX8_undo 50 = .ok (.iastore, 1) := by decide +kernel
theorem dX8_undo_51 : decode cX8_undo 51 = .ok (.iinc 1 1, 3) := by decide +kernel
theorem dX8_undo_54 : decode cX8_undo 54 = .ok (.goto (-32), 3) := by decide +kernel
theorem dX8_undo_57 : decode cX8_undo 57 = .ok (.aload_n 0, 1) := by decide +kernel
theorem dX8_undo_58 : decode cX8_undo 58 = .ok (.getfield 35, 3) := by decide +kernel
theorem dX8_undo_61 : decode cX8_undo 61 = .ok (.bipush 7, 2) := by decide +kernel
theorem dX8_undo_63 : decode cX8_undo 63 = .ok (.aload_n 0, 1) := by decide +kernel
theorem dX8_undo_64 : decode cX8_undo 64 = .ok (.getfield 181, 3) := by decide +kernel
theorem dX8_undo_67 : decode cX8_undo 67 = .ok (.imul, 1) := by decide +kernel
theorem dX8_undo_68 : decode cX8_undo 68 = .ok (.bipush 6, 2) := by decide +kernel
theorem dX8_undo_70 : decode cX8_undo 70 = .ok (.iadd, 1) := by decide +kernel
theorem dX8_undo_71 : decode cX8_undo 71 = .ok (.iaload, 1) := by decide +kernel
theorem dX8_undo_72 : decode cX8_undo 72 = .ok (.istore_n 1, 1) := by decide +kernel
theorem dX8_undo_73 : decode cX8_undo 73 = .ok (.iload_n 1, 1) := by decide +kernel
theorem dX8_undo_74 : decode cX8_undo 74 = .ok (.ldc 50, 2) := by decide +kernel
theorem dX8_undo_76 : decode cX8_undo 76 = .ok (.if_icmp .eq 16, 3) := by decide +kernel
theorem dX8_undo_79 : decode cX8_undo 79 = .ok (.aload_n 0, 1) := by decide +kernel
theorem dX8_undo_80 : decode cX8_undo 80 = .ok (.getfield 22, 3) := by decide +kernel
theorem dX8_undo_83 : decode cX8_undo 83 = .ok (.bipush 34, 2) := by decide +kernel
theorem dX8_undo_85 : decode cX8_undo 85 = .ok (.iload_n 1, 1) := by decide +kernel
theorem dX8_undo_86 : decode cX8_undo 86 = .ok (.iadd, 1) := by decide +kernel
theorem dX8_undo_87 : decode cX8_undo 87 = .ok (.dup2, 1) := by decide +kernel
theorem dX8_undo_88 : decode cX8_undo 88 = .ok (.iaload, 1) := by decide +kernel
theorem dX8_undo_89 : decode cX8_undo 89 = .ok (.iconst 1, 1) := by decide +kernel
theorem dX8_undo_90 : decode cX8_undo 90 = .ok (.isub, 1) := by decide +kernel
theorem dX8_undo_91 : decode cX8_undo 91 = .ok (.iastore, 1) := by decide +kernel
theorem dX8_undo_92 : decode cX8_undo 92 = .ok (.aload_n 0, 1) := by decide +kernel
theorem dX8_undo_93 : decode cX8_undo 93 = .ok (.getfield 181, 3) := by decide +kernel
theorem dX8_undo_96 : decode cX8_undo 96 = .ok (.ireturn, 1) := by decide +kernel
theorem dX8_isOpen_0 : decode cX8_isOpen 0 = .ok (.aload_n 0, 1) := by decide +kernel
theorem dX8_isOpen_1 : decode cX8_isOpen 1 = .ok (.getfield 22, 3) := by decide +kernel
theorem dX8_isOpen_4 : decode cX8_isOpen 4 = .ok (.bipush 10, 2) := by decide +kernel
theorem dX8_isOpen_6 : decode cX8_isOpen 6 = .ok (.iload_n 1, 1) := by decide +kernel
theorem dX8_isOpen_7 : decode cX8_isOpen 7 = .ok (.iadd, 1) := by decide +kernel
theorem dX8_isOpen_8 : decode cX8_isOpen 8 = .ok (.iaload, 1) := by decide +kernel
theorem dX8_isOpen_9 : decode cX8_isOpen 9 = .ok (.istore_n 2, 1) := by decide +kernel
theorem dX8_isOpen_10 : decode cX8_isOpen 10 = .ok (.aload_n 0, 1) := by decide +kernel
theorem dX8_isOpen_11 : decode cX8_isOpen 11 = .ok (.getfield 22, 3) := by decide +kernel
theorem dX8_isOpen_14 : decode cX8_isOpen 14 = .ok (.bipush 16, 2) := by decide +kernel
theorem dX8_isOpen_16 : decode cX8_isOpen 16 = .ok (.iload_n 1, 1) := by decide +kernel
theorem dX8_isOpen_17 : decode cX8_isOpen 17 = .ok (.iadd, 1) := by decide +kernel
theorem dX8_isOpen_18 : decode cX8_isOpen 18 = .ok (.iaload, 1) := by decide +kernel
theorem dX8_isOpen_19 : decode cX8_isOpen 19 = .ok (.aload_n 0, 1) := by decide +kernel
theorem dX8_isOpen_20 : decode cX8_isOpen 20 = .ok (.getfield 22, 3) := by decide +kernel
theorem dX8_isOpen_23 : decode cX8_isOpen 23 = .ok (.bipush 28, 2) := by decide +kernel
theorem dX8_isOpen_25 : decode cX8_isOpen 25 = .ok (.iload_n 1, 1) := by decide +kernel
theorem dX8_isOpen_26 : decode cX8_isOpen 26 = .ok (.iadd, 1) := by decide +kernel
theorem dX8_isOpen_27 : decode cX8_isOpen 27 = .ok (.iaload, 1) := by decide +kernel
theorem dX8_isOpen_28 : decode cX8_isOpen 28 = .ok (.iadd, 1) := by decide +kernel
theorem dX8_isOpen_29 : decode cX8_isOpen 29 = .ok (.istore_n 3, 1) := by decide +kernel
theorem dX8_isOpen_30 : decode cX8_isOpen 30 = .ok (.iload_n 3, 1) := by decide +kernel
theorem dX8_isOpen_31 : decode cX8_isOpen 31 = .ok (.bipush 8, 2) := by decide +kernel
theorem dX8_isOpen_33 : decode cX8_isOpen 33 = .ok (.if_icmp .ge 39, 3) := by decide +kernel
theorem dX8_isOpen_36 : decode cX8_isOpen 36 = .ok (.aload_n 0, 1) := by decide +kernel
theorem dX8_isOpen_37 : decode cX8_isOpen 37 = .ok (.getfield 22, 3) := by decide +kernel
theorem dX8_isOpen_40 : decode cX8_isOpen 40 = .ok (.bipush 40, 2) := by decide +kernel
theorem dX8_isOpen_42 : decode cX8_isOpen 42 = .ok (.iload_n 2, 1) := by decide +kernel
theorem dX8_isOpen_43 : decode cX8_isOpen 43 = .ok (.iadd, 1) := by decide +kernel
theorem dX8_isOpen_44 : decode cX8_isOpen 44 = .ok (.bipush 16, 2) := by decide +kernel
theorem dX8_isOpen_46 : decode cX8_isOpen 46 = .ok (.iload_n 3, 1) := by decide +kernel
theorem dX8_isOpen_47 : decode cX8_isOpen 47 = .ok (.imul, 1) := by decide +kernel
theorem dX8_isOpen_48 : decode cX8_isOpen 48 = .ok (.iadd, 1) := by decide +kernel
theorem dX8_isOpen_49 : decode cX8_isOpen 49 = .ok (.iaload, 1) := by decide +kernel
theorem dX8_isOpen_50 : decode cX8_isOpen 50 = .ok (.iconst 2, 1) := by decide +kernel
theorem dX8_isOpen_51 : decode cX8_isOpen 51 = .ok (.if_icmp .ne 21, 3) := by decide +kernel
theorem dX8_isOpen_54 : decode cX8_isOpen 54 = .ok (.aload_n 0, 1) := by decide +kernel
theorem dX8_isOpen_55 : decode cX8_isOpen 55 = .ok (.getfield 22, 3) := by decide +kernel
theorem dX8_isOpen_58 : decode cX8_isOpen 58 = .ok (.iload_n 2, 1) := by decide +kernel
theorem dX8_isOpen_59 : decode cX8_isOpen 59 = .ok (.iload_n 3, 1) := by decide +kernel
theorem dX8_isOpen_60 : decode cX8_isOpen 60 = .ok (.invokestatic 148, 3) := by decide +kernel
theorem dX8_isOpen_63 : decode cX8_isOpen 63 = .ok (.ldc 50, 2) := by decide +kernel
theorem dX8_isOpen_65 : decode cX8_isOpen 65 = .ok (.if_icmp .ne 7, 3) := by decide +kernel
theorem dX8_isOpen_68 : decode cX8_isOpen 68 = .ok (.iconst 1, 1) := by decide +kernel
theorem dX8_isOpen_69 : decode cX8_isOpen 69 = .ok (.goto 4, 3) := by decide +kernel
theorem dX8_isOpen_72 : decode cX8_isOpen 72 = .ok (.iconst 0, 1) := by decide +kernel
theorem dX8_isOpen_73 : decode cX8_isOpen 73 = .ok (.ireturn, 1) := by decide +kernel
theorem dX8_isBoxed_0 : decode cX8_isBoxed 0 = .ok (.iconst 1, 1) := by decide +kernel
theorem dX8_isBoxed_1 : decode cX8_isBoxed 1 = .ok (.istore_n 2, 1) := by decide +kernel
theorem dX8_isBoxed_2 : decode cX8_isBoxed 2 = .ok (.aload_n 0, 1) := by decide +kernel
theorem dX8_isBoxed_3 : decode cX8_isBoxed 3 = .ok (.getfield 22, 3) := by decide +kernel
theorem dX8_isBoxed_6 : decode cX8_isBoxed 6 = .ok (.bipush 16, 2) := by decide +kernel
theorem dX8_isBoxed_8 : decode cX8_isBoxed 8 = .ok (.iload_n 1, 1) := by decide +kernel
theorem dX8_isBoxed_9 : decode cX8_isBoxed 9 = .ok (.iadd, 1) := by decide +kernel
theorem dX8_isBoxed_10 : decode cX8_isBoxed 10 = .ok (.iaload, 1) := by decide +kernel
theorem dX8_isBoxed_11 : decode cX8_isBoxed 11 = .ok (.istore_n 3, 1) := by decide +kernel
theorem dX8_isBoxed_12 : decode cX8_isBoxed 12 = .ok (.iload_n 3, 1) := by decide +kernel
theorem dX8_isBoxed_13 : decode cX8_isBoxed 13 = .ok (.aload_n 0, 1) := by decide +kernel
theorem dX8_isBoxed_14 : decode cX8_isBoxed 14 = .ok (.getfield 22, 3) := by decide +kernel
theorem dX8_isBoxed_17 : decode cX8_isBoxed 17 = .ok (.bipush 16, 2) := by decide +kernel
theorem dX8_isBoxed_19 : decode cX8_isBoxed 19 = .ok (.iload_n 1, 1) := by decide +kernel
theorem dX8_isBoxed_20 : decode cX8_isBoxed 20 = .ok (.iadd, 1) := by decide +kernel
theorem dX8_isBoxed_21 : decode cX8_isBoxed 21 = .ok (.iaload, 1) := by decide +kernel
theorem dX8_isBoxed_22 : decode cX8_isBoxed 22 = .ok (.aload_n 0, 1) := by decide +kernel
theorem dX8_isBoxed_23 : decode cX8_isBoxed 23 = .ok (.getfield 22, 3) := by decide +kernel
theorem dX8_isBoxed_26 : decode cX8_isBoxed 26 = .ok (.bipush 28, 2) := by decide +kernel
theorem dX8_isBoxed_28 : decode cX8_isBoxed 28 = .ok (.iload_n 1, 1) := by decide +kernel
theorem dX8_isBoxed_29 : decode cX8_isBoxed 29 = .ok (.iadd, 1) := by decide +kernel
theorem dX8_isBoxed_30 : decode cX8_isBoxed 30 = .ok (.iaload, 1) := by decide +kernel
theorem dX8_isBoxed_31 : decode cX8_isBoxed 31 = .ok (.iadd, 1) := by decide +kernel
theorem dX8_isBoxed_32 : decode cX8_isBoxed 32 = .ok (.if_icmp .ge 75, 3) := by decide +kernel
theorem dX8_isBoxed_35 : decode cX8_isBoxed 35 = .ok (.iload_n 2, 1) := by decide +kernel
theorem dX8_isBoxed_36 : decode cX8_isBoxed 36 = .ok (.ifCond .eq 63, 3) := by decide +kernel
theorem dX8_isBoxed_39 : decode cX8_isBoxed 39 = .ok (.aload_n 0, 1) := by decide +kernel
theorem dX8_isBoxed_40 : decode cX8_isBoxed 40 = .ok (.getfield 22, 3) := by decide +kernel
theorem dX8_isBoxed_43 : decode cX8_isBoxed 43 = .ok (.aload_n 0, 1) := by decide +kernel
theorem dX8_isBoxed_44 : decode cX8_isBoxed 44 = .ok (.getfield 22, 3) := by decide +kernel
theorem dX8_isBoxed_47 : decode cX8_isBoxed 47 = .ok (.bipush 10, 2) := by decide +kernel
theorem dX8_isBoxed_49 : decode cX8_isBoxed 49 = .ok (.iload_n 1, 1) := by decide +kernel
theorem dX8_isBoxed_50 : decode cX8_isBoxed 50 = .ok (.iadd, 1) := by decide +kernel
theorem dX8_isBoxed_51 : decode cX8_isBoxed 51 = .ok (.iaload, 1) := by decide +kernel
theorem dX8_isBoxed_52 : decode cX8_isBoxed 52 = .ok (.iconst 1, 1) := by decide +kernel
theorem dX8_isBoxed_53 : decode cX8_isBoxed 53 = .ok (.isub, 1) := by decide +kernel
theorem dX8_isBoxed_54 : decode cX8_isBoxed 54 = .ok (.iload_n 3, 1) := by decide +kernel
theorem dX8_isBoxed_55 : decode cX8_isBoxed 55 = .ok (.invokestatic 148, 3) := by decide +kernel
theorem dX8_isBoxed_58 : decode cX8_isBoxed 58 = .ok (.ldc 50, 2) := by decide +kernel
theorem dX8_isBoxed_60 : decode cX8_isBoxed 60 = .ok (.if_icmp .eq 39, 3) := by decide +kernel
theorem dX8_isBoxed_63 : decode cX8_isBoxed 63 = .ok (.aload_n 0, 1) := by decide +kernel
theorem dX8_isBoxed_64 : decode cX8_isBoxed 64 = .ok (.getfield 22, 3) := by decide +kernel
theorem dX8_isBoxed_67 : decode cX8_isBoxed 67 = .ok (.aload_n 0, 1) := by decide +kernel
theorem dX8_isBoxed_68 : decode cX8_isBoxed 68 = .ok (.getfield 22, 3) := by decide +kernel
theorem dX8_isBoxed_71 : decode cX8_isBoxed 71 = .ok (.bipush 10, 2) := by decide +kernel
theorem dX8_isBoxed_73 : decode cX8_isBoxed 73 = .ok (.iload_n 1, 1) := by decide +kernel
theorem dX8_isBoxed_74 : decode cX8_isBoxed 74 = .ok (.iadd, 1) := by decide +kernel
theorem dX8_isBoxed_75 : decode cX8_isBoxed 75 = .ok (.iaload, 1) := by decide +kernel
theorem dX8_isBoxed_76 : decode cX8_isBoxed 76 = .ok (.aload_n 0, 1) := by decide +kernel
theorem dX8_isBoxed_77 : decode cX8_isBoxed 77 = .ok (.getfield 22, 3) := by decide +kernel
theorem dX8_isBoxed_80 : decode cX8_isBoxed 80 = .ok (.bipush 22, 2) := by decide +kernel
theorem dX8_isBoxed_82 : decode cX8_isBoxed 82 = .ok (.iload_n 1, 1) := by decide +kernel
theorem dX8_isBoxed_83 : decode cX8_isBoxed 83 = .ok (.iadd, 1) := by decide +kernel
theorem dX8_isBoxed_84 : decode cX8_isBoxed 84 = .ok (.iaload, 1) := by decide +kernel
theorem dX8_isBoxed_85 : decode cX8_isBoxed 85 = .ok (.iadd, 1) := by decide +kernel
theorem dX8_isBoxed_86 : decode cX8_isBoxed 86 = .ok (.iload_n 3, 1) := by decide +kernel
theorem dX8_isBoxed_87 : decode cX8_isBoxed 87 = .ok (.invokestatic 148, 3) := by decide +kernel
theorem dX8_isBoxed_90 : decode cX8_isBoxed 90 = .ok (.ldc 50, 2) := by decide +kernel
theorem dX8_isBoxed_92 : decode cX8_isBoxed 92 = .ok (.if_icmp .eq 7, 3) := by decide +kernel
theorem dX8_isBoxed_95 : decode cX8_isBoxed 95 = .ok (.iconst 1, 1) := by decide +kernel
theorem dX8_isBoxed_96 : decode cX8_isBoxed 96 = .ok (.goto 4, 3) := by decide +kernel
theorem dX8_isBoxed_99 : decode cX8_isBoxed 99 = .ok (.iconst 0, 1) := by decide +kernel
theorem dX8_isBoxed_100 : decode cX8_isBoxed 100 = .ok (.istore_n 2, 1) := by decide +kernel
theorem dX8_isBoxed_101 : decode cX8_isBoxed 101 = .ok (.iinc 3 1, 3) := by decide +kernel
theorem dX8_isBoxed_104 : decode cX8_isBoxed 104 = .ok (.goto (-92), 3) := by decide +kernel
theorem dX8_isBoxed_107 : decode cX8_isBoxed 107 = .ok (.iload_n 2, 1) := by decide +kernel
theorem dX8_isBoxed_108 : decode cX8_isBoxed 108 = .ok (.ireturn, 1) := by decide +kernel
theorem dX8_rentOf_0 : decode cX8_rentOf 0 = .ok (.aload_n 0, 1) := by decide +kernel
theorem dX8_rentOf_1 : decode cX8_rentOf 1 = .ok (.iload_n 1, 1) := by decide +kernel
theorem dX8_rentOf_2 : decode cX8_rentOf 2 = .ok (.invokevirtual 202, 3) := by decide +kernel
theorem dX8_rentOf_5 : decode cX8_rentOf 5 = .ok (.ifCond .eq 7, 3) := by decide +kernel
theorem dX8_rentOf_8 : decode cX8_rentOf 8 = .ok (.iconst 0, 1) := by decide +kernel
theorem dX8_rentOf_9 : decode cX8_rentOf 9 = .ok (.goto 32, 3) := by decide +kernel
theorem dX8_rentOf_12 : decode cX8_rentOf 12 = .ok (.aload_n 0, 1) := by decide +kernel
theorem dX8_rentOf_13 : decode cX8_rentOf 13 = .ok (.getfield 22, 3) := by decide +kernel
theorem dX8_rentOf_16 : decode cX8_rentOf 16 = .ok (.bipush 10, 2) := by decide +kernel
theorem dX8_rentOf_18 : decode cX8_rentOf 18 = .ok (.iload_n 1, 1) := by decide +kernel
theorem dX8_rentOf_19 : decode cX8_rentOf 19 = .ok (.iadd, 1) := by decide +kernel
theorem dX8_rentOf_20 : decode cX8_rentOf 20 = .ok (.iaload, 1) := by decide +kernel
theorem dX8_rentOf_21 : decode cX8_rentOf 21 = .ok (.aload_n 0, 1) := by decide +kernel
theorem dX8_rentOf_22 : decode cX8_rentOf 22 = .ok (.getfield 22, 3) := by decide +kernel
theorem dX8_rentOf_25 : decode cX8_rentOf 25 = .ok (.bipush 22, 2) := by decide +kernel
theorem dX8_rentOf_27 : decode cX8_rentOf 27 = .ok (.iload_n 1, 1) := by decide +kernel
theorem dX8_rentOf_28 : decode cX8_rentOf 28 = .ok (.iadd, 1) := by decide +kernel
theorem dX8_rentOf_29 : decode cX8_rentOf 29 = .ok (.iaload, 1) := by decide +kernel
theorem dX8_rentOf_30 : decode cX8_rentOf 30 = .ok (.imul, 1) := by decide +kernel
theorem dX8_rentOf_31 : decode cX8_rentOf 31 = .ok (.aload_n 0, 1) := by decide +kernel
theorem dX8_rentOf_32 : decode cX8_rentOf 32 = .ok (.getfield 22, 3) := by decide +kernel
theorem dX8_rentOf_35 : decode cX8_rentOf 35 = .ok (.bipush 28, 2) := by decide +kernel
theorem dX8_rentOf_37 : decode cX8_rentOf 37 = .ok (.iload_n 1, 1) := by decide +kernel
theorem dX8_rentOf_38 : decode cX8_rentOf 38 = .ok (.iadd, 1) := by decide +kernel
theorem dX8_rentOf_39 : decode cX8_rentOf 39 = .ok (.iaload, 1) := by decide +kernel
theorem dX8_rentOf_40 : decode cX8_rentOf 40 = .ok (.imul, 1) := by decide +kernel
theorem dX8_rentOf_41 : decode cX8_rentOf 41 = .ok (.ireturn, 1) := by decide +kernel
theorem dX8_house_0 : decode cX8_house 0 = .ok (.aload_n 0, 1) := by decide +kernel
theorem dX8_house_1 : decode cX8_house 1 = .ok (.iload_n 1, 1) := by decide +kernel
theorem dX8_house_2 : decode cX8_house 2 = .ok (.invokevirtual 199, 3) := by decide +kernel
theorem dX8_house_5 : decode cX8_house 5 = .ok (.ifCond .eq 13, 3) := by decide +kernel
theorem dX8_house_8 : decode cX8_house 8 = .ok (.iload_n 2, 1) := by decide +kernel
theorem dX8_house_9 : decode cX8_house 9 = .ok (.iconst 0, 1) := by decide +kernel
theorem dX8_house_10 : decode cX8_house 10 = .ok (.bipush 8, 2) := by decide +kernel
theorem dX8_house_12 : decode cX8_house 12 = .ok (.invokestatic 56, 3) := by decide +kernel
theorem dX8_house_15 : decode cX8_house 15 = .ok (.ifCond .ne 6, 3) := by decide +kernel
theorem dX8_house_18 : decode cX8_house 18 = .ok (.ldc 64, 2) := by decide +kernel
theorem dX8_house_20 : decode cX8_house 20 = .ok (.ireturn, 1) := by decide +kernel
theorem dX8_house_21 : decode cX8_house 21 = .ok (.iload_n 2, 1) := by decide +kernel
theorem dX8_house_22 : decode cX8_house 22 = .ok (.tableswitch 92 4 8 #[34, 48, 62, 76, 82], 34) := by decide +kernel
theorem dX8_house_56 : decode cX8_house 56 = .ok (.aload_n 0, 1) := by decide +kernel
theorem dX8_house_57 : decode cX8_house 57 = .ok (.iload_n 1, 1) := by decide +kernel
theorem dX8_house_58 : decode cX8_house 58 = .ok (.invokevirtual 202, 3) := by decide +kernel
theorem dX8_house_61 : decode cX8_house 61 = .ok (.ifCond .eq 7, 3) := by decide +kernel
theorem dX8_house_64 : decode cX8_house 64 = .ok (.iconst 1, 1) := by decide +kernel
theorem dX8_house_65 : decode cX8_house 65 = .ok (.goto 4, 3) := by decide +kernel
theorem dX8_house_68 : decode cX8_house 68 = .ok (.iconst 0, 1) := by decide +kernel
theorem dX8_house_69 : decode cX8_house 69 = .ok (.ireturn, 1) := by decide +kernel
theorem dX8_house_70 : decode cX8_house 70 = .ok (.aload_n 0, 1) := by decide +kernel
theorem dX8_house_71 : decode cX8_house 71 = .ok (.iload_n 1, 1) := by decide +kernel
theorem dX8_house_72 : decode cX8_house 72 = .ok (.invokevirtual 210, 3) := by decide +kernel
theorem dX8_house_75 : decode cX8_house 75 = .ok (.ifCond .eq 7, 3) := by decide +kernel
theorem dX8_house_78 : decode cX8_house 78 = .ok (.iconst 1, 1) := by decide +kernel
theorem dX8_house_79 : decode cX8_house 79 = .ok (.goto 4, 3) := by decide +kernel
theorem dX8_house_82 : decode cX8_house 82 = .ok (.iconst 0, 1) := by decide +kernel
theorem dX8_house_83 : decode cX8_house 83 = .ok (.ireturn, 1) := by decide +kernel
theorem dX8_house_84 : decode cX8_house 84 = .ok (.aload_n 0, 1) := by decide +kernel
theorem dX8_house_85 : decode cX8_house 85 = .ok (.iload_n 1, 1) := by decide +kernel
theorem dX8_house_86 : decode cX8_house 86 = .ok (.invokevirtual 213, 3) := by decide +kernel
theorem dX8_house_89 : decode cX8_house 89 = .ok (.ifCond .eq 7, 3) := by decide +kernel
theorem dX8_house_92 : decode cX8_house 92 = .ok (.iconst 1, 1) := by decide +kernel
theorem dX8_house_93 : decode cX8_house 93 = .ok (.goto 4, 3) := by decide +kernel
theorem dX8_house_96 : decode cX8_house 96 = .ok (.iconst 0, 1) := by decide +kernel
theorem dX8_house_97 : decode cX8_house 97 = .ok (.ireturn, 1) := by decide +kernel
theorem dX8_house_98 : decode cX8_house 98 = .ok (.aload_n 0, 1) := by decide +kernel
theorem dX8_house_99 : decode cX8_house 99 = .ok (.iload_n 1, 1) := by decide +kernel
theorem dX8_house_100 : decode cX8_house 100 = .ok (.invokevirtual 216, 3) := by decide +kernel
theorem dX8_house_103 : decode cX8_house 103 = .ok (.ireturn, 1) := by decide +kernel
theorem dX8_house_104 : decode cX8_house 104 = .ok (.aload_n 0, 1) := by decide +kernel
theorem dX8_house_105 : decode cX8_house 105 = .ok (.getfield 22, 3) := by decide +kernel
theorem dX8_house_108 : decode cX8_house 108 = .ok (.bipush 34, 2) := by decide +kernel
theorem dX8_house_110 : decode cX8_house 110 = .ok (.iload_n 1, 1) := by decide +kernel
theorem dX8_house_111 : decode cX8_house 111 = .ok (.iadd, 1) := by decide +kernel
theorem dX8_house_112 : decode cX8_house 112 = .ok (.iaload, 1) := by decide +kernel
theorem dX8_house_113 : decode cX8_house 113 = .ok (.ireturn, 1) := by decide +kernel
theorem dX8_house_114 : decode cX8_house 114 = .ok (.aload_n 0, 1) := by decide +kernel
theorem dX8_house_115 : decode cX8_house 115 = .ok (.getfield 22, 3) := by decide +kernel
theorem dX8_house_118 : decode cX8_house 118 = .ok (.bipush 10, 2) := by decide +kernel
theorem dX8_house_120 : decode cX8_house 120 = .ok (.bipush 6, 2) := by decide +kernel
theorem dX8_house_122 : decode cX8_house 122 = .ok (.iload_n 2, 1) := by decide +kernel
theorem dX8_house_123 : decode cX8_house 123 = .ok (.imul, 1) := by decide +kernel
theorem dX8_house_124 : decode cX8_house 124 = .ok (.iadd, 1) := by decide +kernel
theorem dX8_house_125 : decode cX8_house 125 = .ok (.iload_n 1, 1) := by decide +kernel
theorem dX8_house_126 : decode cX8_house 126 = .ok (.iadd, 1) := by decide +kernel
theorem dX8_house_127 : decode cX8_house 127 = .ok (.iaload, 1) := by decide +kernel
theorem dX8_house_128 : decode cX8_house 128 = .ok (.ireturn, 1) := by decide +kernel
theorem dX8_cell_0 : decode cX8_cell 0 = .ok (.aload_n 0, 1) := by decide +kernel
theorem dX8_cell_1 : decode cX8_cell 1 = .ok (.getfield 22, 3) := by decide +kernel
theorem dX8_cell_4 : decode cX8_cell 4 = .ok (.iconst 0, 1) := by decide +kernel
theorem dX8_cell_5 : decode cX8_cell 5 = .ok (.iaload, 1) := by decide +kernel
theorem dX8_cell_6 : decode cX8_cell 6 = .ok (.ifCond .ne 6, 3) := by decide +kernel
theorem dX8_cell_9 : decode cX8_cell 9 = .ok (.ldc 205, 2) := by decide +kernel
theorem dX8_cell_11 : decode cX8_cell 11 = .ok (.ireturn, 1) := by decide +kernel
theorem dX8_cell_12 : decode cX8_cell 12 = .ok (.iload_n 1, 1) := by decide +kernel
theorem dX8_cell_13 : decode cX8_cell 13 = .ok (.iconst 0, 1) := by decide +kernel
theorem dX8_cell_14 : decode cX8_cell 14 = .ok (.bipush 127, 2) := by decide +kernel
theorem dX8_cell_16 : decode cX8_cell 16 = .ok (.invokestatic 56, 3) := by decide +kernel
theorem dX8_cell_19 : decode cX8_cell 19 = .ok (.ifCond .ne 6, 3) := by decide +kernel
theorem dX8_cell_22 : decode cX8_cell 22 = .ok (.ldc 64, 2) := by decide +kernel
theorem dX8_cell_24 : decode cX8_cell 24 = .ok (.ireturn, 1) := by decide +kernel
theorem dX8_cell_25 : decode cX8_cell 25 = .ok (.aload_n 0, 1) := by decide +kernel
theorem dX8_cell_26 : decode cX8_cell 26 = .ok (.getfield 22, 3) := by decide +kernel
theorem dX8_cell_29 : decode cX8_cell 29 = .ok (.iload_n 1, 1) := by decide +kernel
theorem dX8_cell_30 : decode cX8_cell 30 = .ok (.bipush 16, 2) := by decide +kernel
theorem dX8_cell_32 : decode cX8_cell 32 = .ok (.irem, 1) := by decide +kernel
theorem dX8_cell_33 : decode cX8_cell 33 = .ok (.iload_n 1, 1) := by decide +kernel
theorem dX8_cell_34 : decode cX8_cell 34 = .ok (.bipush 16, 2) := by decide +kernel
theorem dX8_cell_36 : decode cX8_cell 36 = .ok (.idiv, 1) := by decide +kernel
theorem dX8_cell_37 : decode cX8_cell 37 = .ok (.invokestatic 148, 3) := by decide +kernel
theorem dX8_cell_40 : decode cX8_cell 40 = .ok (.istore_n 2, 1) := by decide +kernel
theorem dX8_cell_41 : decode cX8_cell 41 = .ok (.iload_n 2, 1) := by decide +kernel
theorem dX8_cell_42 : decode cX8_cell 42 = .ok (.ldc 50, 2) := by decide +kernel
theorem dX8_cell_44 : decode cX8_cell 44 = .ok (.if_icmp .eq 5, 3) := by decide +kernel
theorem dX8_cell_47 : decode cX8_cell 47 = .ok (.iload_n 2, 1) := by decide +kernel
theorem dX8_cell_48 : decode cX8_cell 48 = .ok (.ireturn, 1) := by decide +kernel
theorem dX8_cell_49 : decode cX8_cell 49 = .ok (.aload_n 0, 1) := by decide +kernel
theorem dX8_cell_50 : decode cX8_cell 50 = .ok (.getfield 22, 3) := by decide +kernel
theorem dX8_cell_53 : decode cX8_cell 53 = .ok (.bipush 40, 2) := by decide +kernel
theorem dX8_cell_55 : decode cX8_cell 55 = .ok (.iload_n 1, 1) := by decide +kernel
theorem dX8_cell_56 : decode cX8_cell 56 = .ok (.iadd, 1) := by decide +kernel
theorem dX8_cell_57 : decode cX8_cell 57 = .ok (.iaload, 1) := by decide +kernel
theorem dX8_cell_58 : decode cX8_cell 58 = .ok (.istore_n 3, 1) := by decide +kernel
theorem dX8_cell_59 : decode cX8_cell 59 = .ok (.iload_n 3, 1) := by decide +kernel
theorem dX8_cell_60 : decode cX8_cell 60 = .ok (.iconst 1, 1) := by decide +kernel
theorem dX8_cell_61 : decode cX8_cell 61 = .ok (.iand, 1) := by decide +kernel
theorem dX8_cell_62 : decode cX8_cell 62 = .ok (.iconst 1, 1) := by decide +kernel
theorem dX8_cell_63 : decode cX8_cell 63 = .ok (.if_icmp .ne 7, 3) := by decide +kernel
theorem dX8_cell_66 : decode cX8_cell 66 = .ok (.iconst (-1), 1) := by decide +kernel
theorem dX8_cell_67 : decode cX8_cell 67 = .ok (.goto 33, 3) := by decide +kernel
theorem dX8_cell_70 : decode cX8_cell 70 = .ok (.iload_n 3, 1) := by decide +kernel
theorem dX8_cell_71 : decode cX8_cell 71 = .ok (.iconst 2, 1) := by decide +kernel
theorem dX8_cell_72 : decode cX8_cell 72 = .ok (.if_icmp .ne 8, 3) := by decide +kernel
theorem dX8_cell_75 : decode cX8_cell 75 = .ok (.bipush (-2), 2) := by decide +kernel
theorem dX8_cell_77 : decode cX8_cell 77 = .ok (.goto 23, 3) := by decide +kernel
theorem dX8_cell_80 : decode cX8_cell 80 = .ok (.iload_n 1, 1) := by decide +kernel
theorem dX8_cell_81 : decode cX8_cell 81 = .ok (.bipush 16, 2) := by decide +kernel
theorem dX8_cell_83 : decode cX8_cell 83 = .ok (.irem, 1) := by decide +kernel
theorem dX8_cell_84 : decode cX8_cell 84 = .ok (.aload_n 0, 1) := by decide +kernel
theorem dX8_cell_85 : decode cX8_cell 85 = .ok (.getfield 22, 3) := by decide +kernel
theorem dX8_cell_88 : decode cX8_cell 88 = .ok (.iconst 2, 1) := by decide +kernel
theorem dX8_cell_89 : decode cX8_cell 89 = .ok (.iaload, 1) := by decide +kernel
theorem dX8_cell_90 : decode cX8_cell 90 = .ok (.if_icmp .lt 8, 3) := by decide +kernel
theorem dX8_cell_93 : decode cX8_cell 93 = .ok (.bipush (-3), 2) := by decide +kernel
theorem dX8_cell_95 : decode cX8_cell 95 = .ok (.goto 5, 3) := by decide +kernel
theorem dX8_cell_98 : decode cX8_cell 98 = .ok (.bipush (-4), 2) := by decide +kernel
theorem dX8_cell_100 : decode cX8_cell 100 = .ok (.ireturn, 1) := by decide +kernel
theorem dX8_putAside_0 : decode cX8_putAside 0 = .ok (.iconst 0, 1) := by decide +kernel
theorem dX8_putAside_1 : decode cX8_putAside 1 = .ok (.istore_n 1, 1) := by decide +kernel
theorem dX8_putAside_2 : decode cX8_putAside 2 = .ok (.iload_n 1, 1) := by decide +kernel
theorem dX8_putAside_3 : decode cX8_putAside 3 = .ok (.bipush 6, 2) := by decide +kernel
theorem dX8_putAside_5 : decode cX8_putAside 5 = .ok (.if_icmp .ge 24, 3) := by decide +kernel
theorem dX8_putAside_8 : decode cX8_putAside 8 = .ok (.aload_n 0, 1) := by decide +kernel
theorem dX8_putAside_9 : decode cX8_putAside 9 = .ok (.getfield 38, 3) := by decide +kernel
theorem dX8_putAside_12 : decode cX8_putAside 12 = .ok (.iload_n 1, 1) := by decide +kernel
theorem dX8_putAside_13 : decode cX8_putAside 13 = .ok (.aload_n 0, 1) := by decide +kernel
theorem dX8_putAside_14 : decode cX8_putAside 14 = .ok (.getfield 22, 3) := by decide +kernel
theorem dX8_putAside_17 : decode cX8_putAside 17 = .ok (.bipush 10, 2) := by decide +kernel
theorem dX8_putAside_19 : decode cX8_putAside 19 = .ok (.iload_n 1, 1) := by decide +kernel
theorem dX8_putAside_20 : decode cX8_putAside 20 = .ok (.iadd, 1) := by decide +kernel
theorem dX8_putAside_21 : decode cX8_putAside 21 = .ok (.iaload, 1) := by decide +kernel
theorem dX8_putAside_22 : decode cX8_putAside 22 = .ok (.iastore, 1) := by decide +kernel
theorem dX8_putAside_23 : decode cX8_putAside 23 = .ok (.iinc 1 1, 3) := by decide +kernel
theorem dX8_putAside_26 : decode cX8_putAside 26 = .ok (.goto (-24), 3) := by decide +kernel
theorem dX8_putAside_29 : decode cX8_putAside 29 = .ok (.return_, 1) := by decide +kernel
theorem dX8_putBack_0 : decode cX8_putBack 0 = .ok (.iconst 0, 1) := by decide +kernel
theorem dX8_putBack_1 : decode cX8_putBack 1 = .ok (.istore_n 1, 1) := by decide +kernel
theorem dX8_putBack_2 : decode cX8_putBack 2 = .ok (.iload_n 1, 1) := by decide +kernel
theorem dX8_putBack_3 : decode cX8_putBack 3 = .ok (.bipush 6, 2) := by decide +kernel
theorem dX8_putBack_5 : decode cX8_putBack 5 = .ok (.if_icmp .ge 24, 3) := by decide +kernel
theorem dX8_putBack_8 : decode cX8_putBack 8 = .ok (.aload_n 0, 1) := by decide +kernel
theorem dX8_putBack_9 : decode cX8_putBack 9 = .ok (.getfield 22, 3) := by decide +kernel
theorem dX8_putBack_12 : decode cX8_putBack 12 = .ok (.bipush 10, 2) := by decide +kernel
theorem dX8_putBack_14 : decode cX8_putBack 14 = .ok (.iload_n 1, 1) := by decide +kernel
theorem dX8_putBack_15 : decode cX8_putBack 15 = .ok (.iadd, 1) := by decide +kernel
theorem dX8_putBack_16 : decode cX8_putBack 16 = .ok (.aload_n 0, 1) := by decide +kernel
theorem dX8_putBack_17 : decode cX8_putBack 17 = .ok (.getfield 38, 3) := by decide +kernel
theorem dX8_putBack_20 : decode cX8_putBack 20 = .ok (.iload_n 1, 1) := by decide +kernel
theorem dX8_putBack_21 : decode cX8_putBack 21 = .ok (.iaload, 1) := by decide +kernel
theorem dX8_putBack_22 : decode cX8_putBack 22 = .ok (.iastore, 1) := by decide +kernel
theorem dX8_putBack_23 : decode cX8_putBack 23 = .ok (.iinc 1 1, 3) := by decide +kernel
theorem dX8_putBack_26 : decode cX8_putBack 26 = .ok (.goto (-24), 3) := by decide +kernel
theorem dX8_putBack_29 : decode cX8_putBack 29 = .ok (.return_, 1) := by decide +kernel
theorem dX8_whyNot_0 : decode cX8_whyNot 0 = .ok (.aload_n 0, 1) := by decide +kernel
theorem dX8_whyNot_1 : decode cX8_whyNot 1 = .ok (.getfield 22, 3) := by decide +kernel
theorem dX8_whyNot_4 : decode cX8_whyNot 4 = .ok (.iconst 0, 1) := by decide +kernel
theorem dX8_whyNot_5 : decode cX8_whyNot 5 = .ok (.iaload, 1) := by decide +kernel
theorem dX8_whyNot_6 : decode cX8_whyNot 6 = .ok (.ifCond .ne 6, 3) := by decide +kernel
theorem dX8_whyNot_9 : decode cX8_whyNot 9 = .ok (.ldc 205, 2) := by decide +kernel
theorem dX8_whyNot_11 : decode cX8_whyNot 11 = .ok (.ireturn, 1) := by decide +kernel
theorem dX8_whyNot_12 : decode cX8_whyNot 12 = .ok (.iload_n 1, 1) := by decide +kernel
theorem dX8_whyNot_13 : decode cX8_whyNot 13 = .ok (.invokestatic 60, 3) := by decide +kernel
theorem dX8_whyNot_16 : decode cX8_whyNot 16 = .ok (.ifCond .eq 25, 3) := by decide +kernel
theorem dX8_whyNot_19 : decode cX8_whyNot 19 = .ok (.iload_n 3, 1) := by decide +kernel
theorem dX8_whyNot_20 : decode cX8_whyNot 20 = .ok (.invokestatic 60, 3) := by decide +kernel
theorem dX8_whyNot_23 : decode cX8_whyNot 23 = .ok (.ifCond .eq 18, 3) := by decide +kernel
theorem dX8_whyNot_26 : decode cX8_whyNot 26 = .ok (.iload_n 2, 1) := by decide +kernel
theorem dX8_whyNot_27 : decode cX8_whyNot 27 = .ok (.iconst 1, 1) := by decide +kernel
theorem dX8_whyNot_28 : decode cX8_whyNot 28 = .ok (.bipush 8, 2) := by decide +kernel
theorem dX8_whyNot_30 : decode cX8_whyNot 30 = .ok (.invokestatic 56, 3) := by decide +kernel
theorem dX8_whyNot_33 : decode cX8_whyNot 33 = .ok (.ifCond .eq 8, 3) := by decide +kernel
theorem dX8_whyNot_36 : decode cX8_whyNot 36 = .ok (.iload 4, 2) := by decide +kernel
theorem dX8_whyNot_38 : decode cX8_whyNot 38 = .ok (.ifCond .ne 6, 3) := by decide +kernel
theorem dX8_whyNot_41 : decode cX8_whyNot 41 = .ok (.ldc 64, 2) := by decide +kernel
theorem dX8_whyNot_43 : decode cX8_whyNot 43 = .ok (.ireturn, 1) := by decide +kernel
theorem dX8_whyNot_44 : decode cX8_whyNot 44 = .ok (.aload_n 0, 1) := by decide +kernel
theorem dX8_whyNot_45 : decode cX8_whyNot 45 = .ok (.iload_n 1, 1) := by decide +kernel
theorem dX8_whyNot_46 : decode cX8_whyNot 46 = .ok (.invokevirtual 72, 3) := by decide +kernel
theorem dX8_whyNot_49 : decode cX8_whyNot 49 = .ok (.ifCond .ne 11, 3) := by decide +kernel
theorem dX8_whyNot_52 : decode cX8_whyNot 52 = .ok (.aload_n 0, 1) := by decide +kernel
theorem dX8_whyNot_53 : decode cX8_whyNot 53 = .ok (.iload_n 3, 1) := by decide +kernel
theorem dX8_whyNot_54 : decode cX8_whyNot 54 = .ok (.invokevirtual 72, 3) := by decide +kernel
