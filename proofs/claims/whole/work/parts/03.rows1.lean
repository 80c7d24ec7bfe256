theorem dX5_readHouse_68 : decode cX5_readHouse 68 = .ok (.istore 4, 2) := by decide +kernel
theorem dX5_readHouse_70 : decode cX5_readHouse 70 = .ok (.aload_n 0, 1) := by decide +kernel
theorem dX5_readHouse_71 : decode cX5_readHouse 71 = .ok (.iconst 1, 1) := by decide +kernel
theorem dX5_readHouse_72 : decode cX5_readHouse 72 = .ok (.iconst 3, 1) := by decide +kernel
theorem dX5_readHouse_73 : decode cX5_readHouse 73 = .ok (.invokevirtual 73, 3) := by decide +kernel
theorem dX5_readHouse_76 : decode cX5_readHouse 76 = .ok (.ifCond .ne 5, 3) := by decide +kernel
theorem dX5_readHouse_79 : decode cX5_readHouse 79 = .ok (.iconst 0, 1) := by decide +kernel
theorem dX5_readHouse_80 : decode cX5_readHouse 80 = .ok (.ireturn, 1) := by decide +kernel
theorem dX5_readHouse_81 : decode cX5_readHouse 81 = .ok (.aload_n 0, 1) := by decide +kernel
theorem dX5_readHouse_82 : decode cX5_readHouse 82 = .ok (.getfield 22, 3) := by decide +kernel
theorem dX5_readHouse_85 : decode cX5_readHouse 85 = .ok (.iload_n 2, 1) := by decide +kernel
theorem dX5_readHouse_86 : decode cX5_readHouse 86 = .ok (.iload_n 3, 1) := by decide +kernel
theorem dX5_readHouse_87 : decode cX5_readHouse 87 = .ok (.iload 4, 2) := by decide +kernel
theorem dX5_readHouse_89 : decode cX5_readHouse 89 = .ok (.aload_n 0, 1) := by decide +kernel
theorem dX5_readHouse_90 : decode cX5_readHouse 90 = .ok (.getfield 41, 3) := by decide +kernel
theorem dX5_readHouse_93 : decode cX5_readHouse 93 = .ok (.invokevirtual 106, 3) := by decide +kernel
theorem dX5_readHouse_96 : decode cX5_readHouse 96 = .ok (.ifCond .ne 9, 3) := by decide +kernel
theorem dX5_readHouse_99 : decode cX5_readHouse 99 = .ok (.aload_n 0, 1) := by decide +kernel
theorem dX5_readHouse_100 : decode cX5_readHouse 100 = .ok (.iconst 2, 1) := by decide +kernel
theorem dX5_readHouse_101 : decode cX5_readHouse 101 = .ok (.invokevirtual 69, 3) := by decide +kernel
theorem dX5_readHouse_104 : decode cX5_readHouse 104 = .ok (.ireturn, 1) := by decide +kernel
theorem dX5_readHouse_105 : decode cX5_readHouse 105 = .ok (.aload_n 0, 1) := by decide +kernel
theorem dX5_readHouse_106 : decode cX5_readHouse 106 = .ok (.getfield 22, 3) := by decide +kernel
theorem dX5_readHouse_109 : decode cX5_readHouse 109 = .ok (.iload_n 1, 1) := by decide +kernel
theorem dX5_readHouse_110 : decode cX5_readHouse 110 = .ok (.iload_n 2, 1) := by decide +kernel
theorem dX5_readHouse_111 : decode cX5_readHouse 111 = .ok (.iload_n 3, 1) := by decide +kernel
theorem dX5_readHouse_112 : decode cX5_readHouse 112 = .ok (.iload 4, 2) := by decide +kernel
theorem dX5_readHouse_114 : decode cX5_readHouse 114 = .ok (.aload_n 0, 1) := by decide +kernel
theorem dX5_readHouse_115 : decode cX5_readHouse 115 = .ok (.getfield 41, 3) := by decide +kernel
theorem dX5_readHouse_118 : decode cX5_readHouse 118 = .ok (.invokevirtual 110, 3) := by decide +kernel
theorem dX5_readHouse_121 : decode cX5_readHouse 121 = .ok (.aload_n 0, 1) := by decide +kernel
theorem dX5_readHouse_122 : decode cX5_readHouse 122 = .ok (.invokevirtual 83, 3) := by decide +kernel
theorem dX5_readHouse_125 : decode cX5_readHouse 125 = .ok (.ireturn, 1) := by decide +kernel
theorem dX5_kindOfWord_0 : decode cX5_kindOfWord 0 = .ok (.aload_n 0, 1) := by decide +kernel
theorem dX5_kindOfWord_1 : decode cX5_kindOfWord 1 = .ok (.ldc 114, 2) := by decide +kernel
theorem dX5_kindOfWord_3 : decode cX5_kindOfWord 3 = .ok (.invokevirtual 65, 3) := by decide +kernel
theorem dX5_kindOfWord_6 : decode cX5_kindOfWord 6 = .ok (.ifCond .eq 5, 3) := by decide +kernel
theorem dX5_kindOfWord_9 : decode cX5_kindOfWord 9 = .ok (.iconst 1, 1) := by decide +kernel
theorem dX5_kindOfWord_10 : decode cX5_kindOfWord 10 = .ok (.ireturn, 1) := by decide +kernel
theorem dX5_kindOfWord_11 : decode cX5_kindOfWord 11 = .ok (.aload_n 0, 1) := by decide +kernel
theorem dX5_kindOfWord_12 : decode cX5_kindOfWord 12 = .ok (.ldc 118, 2) := by decide +kernel
theorem dX5_kindOfWord_14 : decode cX5_kindOfWord 14 = .ok (.invokevirtual 65, 3) := by decide +kernel
theorem dX5_kindOfWord_17 : decode cX5_kindOfWord 17 = .ok (.ifCond .eq 5, 3) := by decide +kernel
theorem dX5_kindOfWord_20 : decode cX5_kindOfWord 20 = .ok (.iconst 2, 1) := by decide +kernel
theorem dX5_kindOfWord_21 : decode cX5_kindOfWord 21 = .ok (.ireturn, 1) := by decide +kernel
theorem dX5_kindOfWord_22 : decode cX5_kindOfWord 22 = .ok (.aload_n 0, 1) := by decide +kernel
theorem dX5_kindOfWord_23 : decode cX5_kindOfWord 23 = .ok (.ldc 120, 2) := by decide +kernel
theorem dX5_kindOfWord_25 : decode cX5_kindOfWord 25 = .ok (.invokevirtual 65, 3) := by decide +kernel
theorem dX5_kindOfWord_28 : decode cX5_kindOfWord 28 = .ok (.ifCond .eq 5, 3) := by decide +kernel
theorem dX5_kindOfWord_31 : decode cX5_kindOfWord 31 = .ok (.iconst 3, 1) := by decide +kernel
theorem dX5_kindOfWord_32 : decode cX5_kindOfWord 32 = .ok (.ireturn, 1) := by decide +kernel
theorem dX5_kindOfWord_33 : decode cX5_kindOfWord 33 = .ok (.aload_n 0, 1) := by decide +kernel
theorem dX5_kindOfWord_34 : decode cX5_kindOfWord 34 = .ok (.ldc 122, 2) := by decide +kernel
theorem dX5_kindOfWord_36 : decode cX5_kindOfWord 36 = .ok (.invokevirtual 65, 3) := by decide +kernel
theorem dX5_kindOfWord_39 : decode cX5_kindOfWord 39 = .ok (.ifCond .eq 5, 3) := by decide +kernel
theorem dX5_kindOfWord_42 : decode cX5_kindOfWord 42 = .ok (.iconst 4, 1) := by decide +kernel
theorem dX5_kindOfWord_43 : decode cX5_kindOfWord 43 = .ok (.ireturn, 1) := by decide +kernel
theorem dX5_kindOfWord_44 : decode cX5_kindOfWord 44 = .ok (.aload_n 0, 1) := by decide +kernel
theorem dX5_kindOfWord_45 : decode cX5_kindOfWord 45 = .ok (.ldc 124, 2) := by decide +kernel
theorem dX5_kindOfWord_47 : decode cX5_kindOfWord 47 = .ok (.invokevirtual 65, 3) := by decide +kernel
theorem dX5_kindOfWord_50 : decode cX5_kindOfWord 50 = .ok (.ifCond .eq 7, 3) := by decide +kernel
theorem dX5_kindOfWord_53 : decode cX5_kindOfWord 53 = .ok (.iconst 5, 1) := by decide +kernel
theorem dX5_kindOfWord_54 : decode cX5_kindOfWord 54 = .ok (.goto 4, 3) := by decide +kernel
theorem dX5_kindOfWord_57 : decode cX5_kindOfWord 57 = .ok (.iconst 0, 1) := by decide +kernel
theorem dX5_kindOfWord_58 : decode cX5_kindOfWord 58 = .ok (.ireturn, 1) := by decide +kernel
theorem dX5_failWith_0 : decode cX5_failWith 0 = .ok (.aload_n 0, 1) := by decide +kernel
theorem dX5_failWith_1 : decode cX5_failWith 1 = .ok (.iload_n 1, 1) := by decide +kernel
theorem dX5_failWith_2 : decode cX5_failWith 2 = .ok (.putfield 26, 3) := by decide +kernel
theorem dX5_failWith_5 : decode cX5_failWith 5 = .ok (.aload_n 0, 1) := by decide +kernel
theorem dX5_failWith_6 : decode cX5_failWith 6 = .ok (.aload_n 0, 1) := by decide +kernel
theorem dX5_failWith_7 : decode cX5_failWith 7 = .ok (.getfield 32, 3) := by decide +kernel
theorem dX5_failWith_10 : decode cX5_failWith 10 = .ok (.putfield 29, 3) := by decide +kernel
theorem dX5_failWith_13 : decode cX5_failWith 13 = .ok (.iconst 0, 1) := by decide +kernel
theorem dX5_failWith_14 : decode cX5_failWith 14 = .ok (.ireturn, 1) := by decide +kernel
theorem dX5_takeNumber_0 : decode cX5_takeNumber 0 = .ok (.aload_n 0, 1) := by decide +kernel
theorem dX5_takeNumber_1 : decode cX5_takeNumber 1 = .ok (.invokevirtual 47, 3) := by decide +kernel
theorem dX5_takeNumber_4 : decode cX5_takeNumber 4 = .ok (.aload_n 0, 1) := by decide +kernel
theorem dX5_takeNumber_5 : decode cX5_takeNumber 5 = .ok (.getfield 38, 3) := by decide +kernel
theorem dX5_takeNumber_8 : decode cX5_takeNumber 8 = .ok (.iconst 2, 1) := by decide +kernel
theorem dX5_takeNumber_9 : decode cX5_takeNumber 9 = .ok (.if_icmp .eq 9, 3) := by decide +kernel
theorem dX5_takeNumber_12 : decode cX5_takeNumber 12 = .ok (.aload_n 0, 1) := by decide +kernel
theorem dX5_takeNumber_13 : decode cX5_takeNumber 13 = .ok (.iconst 1, 1) := by decide +kernel
theorem dX5_takeNumber_14 : decode cX5_takeNumber 14 = .ok (.invokevirtual 69, 3) := by decide +kernel
theorem dX5_takeNumber_17 : decode cX5_takeNumber 17 = .ok (.ireturn, 1) := by decide +kernel
theorem dX5_takeNumber_18 : decode cX5_takeNumber 18 = .ok (.aload_n 0, 1) := by decide +kernel
theorem dX5_takeNumber_19 : decode cX5_takeNumber 19 = .ok (.getfield 41, 3) := by decide +kernel
theorem dX5_takeNumber_22 : decode cX5_takeNumber 22 = .ok (.iload_n 1, 1) := by decide +kernel
theorem dX5_takeNumber_23 : decode cX5_takeNumber 23 = .ok (.if_icmp .lt 11, 3) := by decide +kernel
theorem dX5_takeNumber_26 : decode cX5_takeNumber 26 = .ok (.aload_n 0, 1) := by decide +kernel
theorem dX5_takeNumber_27 : decode cX5_takeNumber 27 = .ok (.getfield 41, 3) := by decide +kernel
theorem dX5_takeNumber_30 : decode cX5_takeNumber 30 = .ok (.iload_n 2, 1) := by decide +kernel
theorem dX5_takeNumber_31 : decode cX5_takeNumber 31 = .ok (.if_icmp .le 11, 3) := by decide +kernel
theorem dX5_takeNumber_34 : decode cX5_takeNumber 34 = .ok (.aload_n 0, 1) := by decide +kernel
theorem dX5_takeNumber_35 : decode cX5_takeNumber 35 = .ok (.iconst 2, 1) := by decide +kernel
theorem dX5_takeNumber_36 : decode cX5_takeNumber 36 = .ok (.invokevirtual 69, 3) := by decide +kernel
theorem dX5_takeNumber_39 : decode cX5_takeNumber 39 = .ok (.ifCond .eq 7, 3) := by decide +kernel
theorem dX5_takeNumber_42 : decode cX5_takeNumber 42 = .ok (.iconst 1, 1) := by decide +kernel
theorem dX5_takeNumber_43 : decode cX5_takeNumber 43 = .ok (.goto 4, 3) := by decide +kernel
theorem dX5_takeNumber_46 : decode cX5_takeNumber 46 = .ok (.iconst 0, 1) := by decide +kernel
theorem dX5_takeNumber_47 : decode cX5_takeNumber 47 = .ok (.ireturn, 1) := by decide +kernel
theorem dX5_takeSemicolon_0 : decode cX5_takeSemicolon 0 = .ok (.aload_n 0, 1) := by decide +kernel
theorem dX5_takeSemicolon_1 : decode cX5_takeSemicolon 1 = .ok (.invokevirtual 47, 3) := by decide +kernel
theorem dX5_takeSemicolon_4 : decode cX5_takeSemicolon 4 = .ok (.aload_n 0, 1) := by decide +kernel
theorem dX5_takeSemicolon_5 : decode cX5_takeSemicolon 5 = .ok (.getfield 38, 3) := by decide +kernel
theorem dX5_takeSemicolon_8 : decode cX5_takeSemicolon 8 = .ok (.iconst 3, 1) := by decide +kernel
theorem dX5_takeSemicolon_9 : decode cX5_takeSemicolon 9 = .ok (.if_icmp .eq 9, 3) := by decide +kernel
theorem dX5_takeSemicolon_12 : decode cX5_takeSemicolon 12 = .ok (.aload_n 0, 1) := by decide +kernel
theorem dX5_takeSemicolon_13 : decode cX5_takeSemicolon 13 = .ok (.iconst 1, 1) := by decide +kernel
theorem dX5_takeSemicolon_14 : decode cX5_takeSemicolon 14 = .ok (.invokevirtual 69, 3) := by decide +kernel
theorem dX5_takeSemicolon_17 : decode cX5_takeSemicolon 17 = .ok (.ireturn, 1) := by decide +kernel
theorem dX5_takeSemicolon_18 : decode cX5_takeSemicolon 18 = .ok (.aload_n 0, 1) := by decide +kernel
theorem dX5_takeSemicolon_19 : decode cX5_takeSemicolon 19 = .ok (.invokevirtual 47, 3) := by decide +kernel
theorem dX5_takeSemicolon_22 : decode cX5_takeSemicolon 22 = .ok (.iconst 1, 1) := by decide +kernel
theorem dX5_takeSemicolon_23 : decode cX5_takeSemicolon 23 = .ok (.ireturn, 1) := by decide +kernel
theorem dX5_isWord_0 : decode cX5_isWord 0 = .ok (.aload_n 0, 1) := by decide +kernel
theorem dX5_isWord_1 : decode cX5_isWord 1 = .ok (.getfield 38, 3) := by decide +kernel
theorem dX5_isWord_4 : decode cX5_isWord 4 = .ok (.iconst 1, 1) := by decide +kernel
theorem dX5_isWord_5 : decode cX5_isWord 5 = .ok (.if_icmp .ne 19, 3) := by decide +kernel
theorem dX5_isWord_8 : decode cX5_isWord 8 = .ok (.aload_n 0, 1) := by decide +kernel
theorem dX5_isWord_9 : decode cX5_isWord 9 = .ok (.getfield 35, 3) := by decide +kernel
theorem dX5_isWord_12 : decode cX5_isWord 12 = .ok (.aload_n 0, 1) := by decide +kernel
theorem dX5_isWord_13 : decode cX5_isWord 13 = .ok (.getfield 32, 3) := by decide +kernel
theorem dX5_isWord_16 : decode cX5_isWord 16 = .ok (.isub, 1) := by decide +kernel
theorem dX5_isWord_17 : decode cX5_isWord 17 = .ok (.aload_n 1, 1) := by decide +kernel
theorem dX5_isWord_18 : decode cX5_isWord 18 = .ok (.invokevirtual 126, 3) := by decide +kernel
theorem dX5_isWord_21 : decode cX5_isWord 21 = .ok (.if_icmp .eq 5, 3) := by decide +kernel
theorem dX5_isWord_24 : decode cX5_isWord 24 = .ok (.iconst 0, 1) := by decide +kernel
theorem dX5_isWord_25 : decode cX5_isWord 25 = .ok (.ireturn, 1) := by decide +kernel
theorem dX5_isWord_26 : decode cX5_isWord 26 = .ok (.iconst 0, 1) := by decide +kernel
theorem dX5_isWord_27 : decode cX5_isWord 27 = .ok (.istore_n 2, 1) := by decide +kernel
theorem dX5_isWord_28 : decode cX5_isWord 28 = .ok (.iload_n 2, 1) := by decide +kernel
theorem dX5_isWord_29 : decode cX5_isWord 29 = .ok (.aload_n 1, 1) := by decide +kernel
theorem dX5_isWord_30 : decode cX5_isWord 30 = .ok (.invokevirtual 126, 3) := by decide +kernel
theorem dX5_isWord_33 : decode cX5_isWord 33 = .ok (.if_icmp .ge 30, 3) := by decide +kernel
theorem dX5_isWord_36 : decode cX5_isWord 36 = .ok (.aload_n 0, 1) := by decide +kernel
theorem dX5_isWord_37 : decode cX5_isWord 37 = .ok (.getfield 11, 3) := by decide +kernel
theorem dX5_isWord_40 : decode cX5_isWord 40 = .ok (.aload_n 0, 1) := by decide +kernel
theorem dX5_isWord_41 : decode cX5_isWord 41 = .ok (.getfield 32, 3) := by decide +kernel
theorem dX5_isWord_44 : decode cX5_isWord 44 = .ok (.iload_n 2, 1) := by decide +kernel
theorem dX5_isWord_45 : decode cX5_isWord 45 = .ok (.iadd, 1) := by decide +kernel
theorem dX5_isWord_46 : decode cX5_isWord 46 = .ok (.baload, 1) := by decide +kernel
theorem dX5_isWord_47 : decode cX5_isWord 47 = .ok (.aload_n 1, 1) := by decide +kernel
theorem dX5_isWord_48 : decode cX5_isWord 48 = .ok (.iload_n 2, 1) := by decide +kernel
theorem dX5_isWord_49 : decode cX5_isWord 49 = .ok (.invokevirtual 131, 3) := by decide +kernel
theorem dX5_isWord_52 : decode cX5_isWord 52 = .ok (.if_icmp .eq 5, 3) := by decide +kernel
theorem dX5_isWord_55 : decode cX5_isWord 55 = .ok (.iconst 0, 1) := by decide +kernel
theorem dX5_isWord_56 : decode cX5_isWord 56 = .ok (.ireturn, 1) := by decide +kernel
theorem dX5_isWord_57 : decode cX5_isWord 57 = .ok (.iinc 2 1, 3) := by decide +kernel
theorem dX5_isWord_60 : decode cX5_isWord 60 = .ok (.goto (-32), 3) := by decide +kernel
theorem dX5_isWord_63 : decode cX5_isWord 63 = .ok (.iconst 1, 1) := by decide +kernel
theorem dX5_isWord_64 : decode cX5_isWord 64 = .ok (.ireturn, 1) := by decide +kernel
theorem dX5_takeToken_0 : decode cX5_takeToken 0 = .ok (.aload_n 0, 1) := by decide +kernel
theorem dX5_takeToken_1 : decode cX5_takeToken 1 = .ok (.aload_n 0, 1) := by decide +kernel
theorem dX5_takeToken_2 : decode cX5_takeToken 2 = .ok (.getfield 35, 3) := by decide +kernel
theorem dX5_takeToken_5 : decode cX5_takeToken 5 = .ok (.putfield 32, 3) := by decide +kernel
theorem dX5_takeToken_8 : decode cX5_takeToken 8 = .ok (.aload_n 0, 1) := by decide +kernel
theorem dX5_takeToken_9 : decode cX5_takeToken 9 = .ok (.getfield 32, 3) := by decide +kernel
theorem dX5_takeToken_12 : decode cX5_takeToken 12 = .ok (.aload_n 0, 1) := by decide +kernel
theorem dX5_takeToken_13 : decode cX5_takeToken 13 = .ok (.getfield 15, 3) := by decide +kernel
theorem dX5_takeToken_16 : decode cX5_takeToken 16 = .ok (.if_icmp .ge 44, 3) := by decide +kernel
theorem dX5_takeToken_19 : decode cX5_takeToken 19 = .ok (.aload_n 0, 1) := by decide +kernel
theorem dX5_takeToken_20 : decode cX5_takeToken 20 = .ok (.getfield 11, 3) := by decide +kernel
theorem dX5_takeToken_23 : decode cX5_takeToken 23 = .ok (.aload_n 0, 1) := by decide +kernel
theorem dX5_takeToken_24 : decode cX5_takeToken 24 = .ok (.getfield 32, 3) := by decide +kernel
theorem dX5_takeToken_27 : decode cX5_takeToken 27 = .ok (.baload, 1) := by decide +kernel
theorem dX5_takeToken_28 : decode cX5_takeToken 28 = .ok (.bipush 32, 2) := by decide +kernel
theorem dX5_takeToken_30 : decode cX5_takeToken 30 = .ok (.if_icmp .eq 17, 3) := by decide +kernel
theorem dX5_takeToken_33 : decode cX5_takeToken 33 = .ok (.aload_n 0, 1) := by decide +kernel
theorem dX5_takeToken_34 : decode cX5_takeToken 34 = .ok (.getfield 11, 3) := by decide +kernel
theorem dX5_takeToken_37 : decode cX5_takeToken 37 = .ok (.aload_n 0, 1) := by decide +kernel
theorem dX5_takeToken_38 : decode cX5_takeToken 38 = .ok (.getfield 32, 3) := by decide +kernel
theorem dX5_takeToken_41 : decode cX5_takeToken 41 = .ok (.baload, 1) := by decide +kernel
theorem dX5_takeToken_42 : decode cX5_takeToken 42 = .ok (.bipush 10, 2) := by decide +kernel
theorem dX5_takeToken_44 : decode cX5_takeToken 44 = .ok (.if_icmp .ne 16, 3) := by decide +kernel
theorem dX5_takeToken_47 : decode cX5_takeToken 47 = .ok (.aload_n 0, 1) := by decide +kernel
theorem dX5_takeToken_48 : decode cX5_takeToken 48 = .ok (.dup, 1) := by decide +kernel
theorem dX5_takeToken_49 : decode cX5_takeToken 49 = .ok (.getfield 32, 3) := by decide +kernel
theorem dX5_takeToken_52 : decode cX5_takeToken 52 = .ok (.iconst 1, 1) := by decide +kernel
theorem dX5_takeToken_53 : decode cX5_takeToken 53 = .ok (.iadd, 1) := by decide +kernel
theorem dX5_takeToken_54 : decode cX5_takeToken 54 = .ok (.putfield 32, 3) := by decide +kernel
theorem dX5_takeToken_57 : decode cX5_takeToken 57 = .ok (.goto (-49), 3) := by decide +kernel
theorem dX5_takeToken_60 : decode cX5_takeToken 60 = .ok (.aload_n 0, 1) := by decide +kernel
theorem dX5_takeToken_61 : decode cX5_takeToken 61 = .ok (.getfield 32, 3) := by decide +kernel
theorem dX5_takeToken_64 : decode cX5_takeToken 64 = .ok (.aload_n 0, 1) := by decide +kernel
theorem dX5_takeToken_65 : decode cX5_takeToken 65 = .ok (.getfield 15, 3) := by decide +kernel
theorem dX5_takeToken_68 : decode cX5_takeToken 68 = .ok (.if_icmp .lt 17, 3) := by decide +kernel
theorem dX5_takeToken_71 : decode cX5_takeToken 71 = .ok (.aload_n 0, 1) := by decide +kernel
theorem dX5_takeToken_72 : decode cX5_takeToken 72 = .ok (.iconst 0, 1) := by decide +kernel
theorem dX5_takeToken_73 : decode cX5_takeToken 73 = .ok (.putfield 38, 3) := by decide +kernel
theorem dX5_takeToken_76 : decode cX5_takeToken 76 = .ok (.aload_n 0, 1) := by decide +kernel
theorem dX5_takeToken_77 : decode cX5_takeToken 77 = .ok (.aload_n 0, 1) := by decide +kernel
theorem dX5_takeToken_78 : decode cX5_takeToken 78 = .ok (.getfield 32, 3) := by decide +kernel
theorem dX5_takeToken_81 : decode cX5_takeToken 81 = .ok (.putfield 35, 3) := by decide +kernel
theorem dX5_takeToken_84 : decode cX5_takeToken 84 = .ok (.return_, 1) := by decide +kernel
theorem dX5_takeToken_85 : decode cX5_takeToken 85 = .ok (.aload_n 0, 1) := by decide +kernel
theorem dX5_takeToken_86 : decode cX5_takeToken 86 = .ok (.aload_n 0, 1) := by decide +kernel
theorem dX5_takeToken_87 : decode cX5_takeToken 87 = .ok (.bipush 97, 2) := by decide +kernel
theorem dX5_takeToken_89 : decode cX5_takeToken 89 = .ok (.bipush 122, 2) := by decide +kernel
theorem dX5_takeToken_91 : decode cX5_takeToken 91 = .ok (.invokevirtual 135, 3) := by decide +kernel
theorem dX5_takeToken_94 : decode cX5_takeToken 94 = .ok (.putfield 35, 3) := by decide +kernel
theorem dX5_takeToken_97 : decode cX5_takeToken 97 = .ok (.aload_n 0, 1) := by decide +kernel
theorem dX5_takeToken_98 : decode cX5_takeToken 98 = .ok (.getfield 35, 3) := by decide +kernel
theorem dX5_takeToken_101 : decode cX5_takeToken 101 = .ok (.aload_n 0, 1) := by decide +kernel
theorem dX5_takeToken_102 : decode cX5_takeToken 102 = .ok (.getfield 32, 3) := by decide +kernel
theorem dX5_takeToken_105 : decode cX5_takeToken 105 = .ok (.if_icmp .le 9, 3) := by decide +kernel
theorem dX5_takeToken_108 : decode cX5_takeToken 108 = .ok (.aload_n 0, 1) := by decide +kernel
theorem dX5_takeToken_109 : decode cX5_takeToken 109 = .ok (.iconst 1, 1) := by decide +kernel
theorem dX5_takeToken_110 : decode cX5_takeToken 110 = .ok (.putfield 38, 3) := by decide +kernel
theorem dX5_takeToken_113 : decode cX5_takeToken 113 = .ok (.return_, 1) := by decide +kernel
theorem dX5_takeToken_114 : decode cX5_takeToken 114 = .ok (.aload_n 0, 1) := by decide +kernel
theorem dX5_takeToken_115 : decode cX5_takeToken 115 = .ok (.aload_n 0, 1) := by decide +kernel
theorem dX5_takeToken_116 : decode cX5_takeToken 116 = .ok (.bipush 48, 2) := by decide +kernel
theorem dX5_takeToken_118 : decode cX5_takeToken 118 = .ok (.bipush 57, 2) := by decide +kernel
theorem dX5_takeToken_120 : decode cX5_takeToken 120 = .ok (.invokevirtual 135, 3) := by decide +kernel
theorem dX5_takeToken_123 : decode cX5_takeToken 123 = .ok (.putfield 35, 3) := by decide +kernel
theorem dX5_takeToken_126 : decode cX5_takeToken 126 = .ok (.aload_n 0, 1) := by decide +kernel
theorem dX5_takeToken_127 : decode cX5_takeToken 127 = .ok (.getfield 35, 3) := by decide +kernel
theorem dX5_takeToken_130 : decode cX5_takeToken 130 = .ok (.aload_n 0, 1) := by decide +kernel
theorem dX5_takeToken_131 : decode cX5_takeToken 131 = .ok (.getfield 32, 3) := by decide +kernel
theorem dX5_takeToken_134 : decode cX5_takeToken 134 = .ok (.if_icmp .le 34, 3) := by decide +kernel
theorem dX5_takeToken_137 : decode cX5_takeToken 137 = .ok (.aload_n 0, 1) := by decide +kernel
theorem dX5_takeToken_138 : decode cX5_takeToken 138 = .ok (.aload_n 0, 1) := by decide +kernel
theorem dX5_takeToken_139 : decode cX5_takeToken 139 = .ok (.getfield 35, 3) := by decide +kernel
theorem dX5_takeToken_142 : decode cX5_takeToken 142 = .ok (.aload_n 0, 1) := by decide +kernel
theorem dX5_takeToken_143 : decode cX5_takeToken 143 = .ok (.getfield 32, 3) := by decide +kernel
theorem dX5_takeToken_146 : decode cX5_takeToken 146 = .ok (.isub, 1) := by decide +kernel
theorem dX5_takeToken_147 : decode cX5_takeToken 147 = .ok (.iconst 3, 1) := by decide +kernel
theorem dX5_takeToken_148 : decode cX5_takeToken 148 = .ok (.if_icmp .gt 7, 3) := by decide +kernel
theorem dX5_takeToken_151 : decode cX5_takeToken 151 = .ok (.iconst 2, 1) := by decide +kernel
theorem dX5_takeToken_152 : decode cX5_takeToken 152 = .ok (.goto 4, 3) := by decide +kernel
theorem dX5_takeToken_155 : decode cX5_takeToken 155 = .ok (.iconst 4, 1) := by decide +kernel
theorem dX5_takeToken_156 : decode cX5_takeToken 156 = .ok (.putfield 38, 3) := by decide +kernel
theorem dX5_takeToken_159 : decode cX5_takeToken 159 = .ok (.aload_n 0, 1) := by decide +kernel
theorem dX5_takeToken_160 : decode cX5_takeToken 160 = .ok (.aload_n 0, 1) := by decide +kernel
theorem dX5_takeToken_161 : decode cX5_takeToken 161 = .ok (.invokevirtual 139, 3) := by decide +kernel
theorem dX5_takeToken_164 : decode cX5_takeToken 164 = .ok (.putfield 41, 3) := by decide +kernel
theorem dX5_takeToken_167 : decode cX5_takeToken 167 = .ok (.return_, 1) := by decide +kernel
theorem dX5_takeToken_168 : decode cX5_takeToken 168 = .ok (.aload_n 0, 1) := by decide +kernel
theorem dX5_takeToken_169 : decode cX5_takeToken 169 = .ok (.aload_n 0, 1) := by decide +kernel
theorem dX5_takeToken_170 : decode cX5_takeToken 170 = .ok (.getfield 11, 3) := by decide +kernel
theorem dX5_takeToken_173 : decode cX5_takeToken 173 = .ok (.aload_n 0, 1) := by decide +kernel
theorem dX5_takeToken_174 : decode cX5_takeToken 174 = .ok (.getfield 32, 3) := by decide +kernel
theorem dX5_takeToken_177 : decode cX5_takeToken 177 = .ok (.baload, 1) := by decide +kernel
theorem dX5_takeToken_178 : decode cX5_takeToken 178 = .ok (.bipush 59, 2) := by decide +kernel
theorem dX5_takeToken_180 : decode cX5_takeToken 180 = .ok (.if_icmp .ne 7, 3) := by decide +kernel
theorem dX5_takeToken_183 : decode cX5_takeToken 183 = .ok (.iconst 3, 1) := by decide +kernel
theorem dX5_takeToken_184 : decode cX5_takeToken 184 = .ok (.goto 4, 3) := by decide +kernel
theorem dX5_takeToken_187 : decode cX5_takeToken 187 = .ok (.iconst 4, 1) := by decide +kernel
theorem dX5_takeToken_188 : decode cX5_takeToken 188 = .ok (.putfield 38, 3) := by decide +kernel
theorem dX5_takeToken_191 : decode cX5_takeToken 191 = .ok (.aload_n 0, 1) := by decide +kernel
theorem dX5_takeToken_192 : decode cX5_takeToken 192 = .ok (.aload_n 0, 1) := by decide +kernel
theorem dX5_takeToken_193 : decode cX5_takeToken 193 = .ok (.getfield 32, 3) := by decide +kernel
theorem dX5_takeToken_196 : decode cX5_takeToken 196 = .ok (.iconst 1, 1) := by decide +kernel
theorem dX5_takeToken_197 : decode cX5_takeToken 197 = .ok (.iadd, 1) := by decide +kernel
theorem dX5_takeToken_198 : decode cX5_takeToken 198 = .ok (.putfield 35, 3) := by decide +kernel
theorem dX5_takeToken_201 : decode cX5_takeToken 201 = .ok (.return_, 1) := by decide +kernel
theorem dX5_endOfRun_0 : decode cX5_endOfRun 0 = .ok (.aload_n 0, 1) := by decide +kernel
theorem dX5_endOfRun_1 : decode cX5_endOfRun 1 = .ok (.getfield 32, 3) := by decide +kernel
theorem dX5_endOfRun_4 : decode cX5_endOfRun 4 = .ok (.istore_n 3, 1) := by decide +kernel
theorem dX5_endOfRun_5 : decode cX5_endOfRun 5 = .ok (.iload_n 3, 1) := by decide +kernel
theorem dX5_endOfRun_6 : decode cX5_endOfRun 6 = .ok (.aload_n 0, 1) := by decide +kernel
theorem dX5_endOfRun_7 : decode cX5_endOfRun 7 = .ok (.getfield 15, 3) := by decide +kernel
theorem dX5_endOfRun_10 : decode cX5_endOfRun 10 = .ok (.if_icmp .ge 29, 3) := by decide +kernel
theorem dX5_endOfRun_13 : decode cX5_endOfRun 13 = .ok (.aload_n 0, 1) := by decide +kernel
theorem dX5_endOfRun_14 : decode cX5_endOfRun 14 = .ok (.getfield 11, 3) := by decide +kernel
theorem dX5_endOfRun_17 : decode cX5_endOfRun 17 = .ok (.iload_n 3, 1) := by decide +kernel
theorem dX5_endOfRun_18 : decode cX5_endOfRun 18 = .ok (.baload, 1) := by decide +kernel
theorem dX5_endOfRun_19 : decode cX5_endOfRun 19 = .ok (.iload_n 1, 1) := by decide +kernel
theorem dX5_endOfRun_20 : decode cX5_endOfRun 20 = .ok (.if_icmp .lt 19, 3) := by decide +kernel
theorem dX5_endOfRun_23 : decode cX5_endOfRun 23 = .ok (.aload_n 0, 1) := by decide +kernel
theorem dX5_endOfRun_24 : decode cX5_endOfRun 24 = .ok (.getfield 11, 3) := by decide +kernel
theorem dX5_endOfRun_27 : decode cX5_endOfRun 27 = .ok (.iload_n 3, 1) := by decide +kernel
theorem dX5_endOfRun_28 : decode cX5_endOfRun 28 = .ok (.baload, 1) := by decide +kernel
theorem dX5_endOfRun_29 : decode cX5_endOfRun 29 = .ok (.iload_n 2, 1) := by decide +kernel
theorem dX5_endOfRun_30 : decode cX5_endOfRun 30 = .ok (.if_icmp .gt 9, 3) := by decide +kernel
theorem dX5_endOfRun_33 : decode cX5_endOfRun 33 = .ok (.iinc 3 1, 3) := by decide +kernel
theorem dX5_endOfRun_36 : decode cX5_endOfRun 36 = .ok (.goto (-31), 3) := by decide +kernel
theorem dX5_endOfRun_39 : decode cX5_endOfRun 39 = .ok (.iload_n 3, 1) := by decide +kernel
theorem dX5_endOfRun_40 : decode cX5_endOfRun 40 = .ok (.ireturn, 1) := by decide +kernel
theorem dX5_valueOfFigures_0 : decode cX5_valueOfFigures 0 = .ok (.iconst 0, 1) := by decide +kernel
theorem dX5_valueOfFigures_1 : decode cX5_valueOfFigures 1 = .ok (.istore_n 1, 1) := by decide +kernel
theorem dX5_valueOfFigures_2 : decode cX5_valueOfFigures 2 = .ok (.aload_n 0, 1) := by decide +kernel
theorem dX5_valueOfFigures_3 : decode cX5_valueOfFigures 3 = .ok (.getfield 32, 3) := by decide +kernel
theorem dX5_valueOfFigures_6 : decode cX5_valueOfFigures 6 = .ok (.istore_n 2, 1) := by decide +kernel
theorem dX5_valueOfFigures_7 : decode cX5_valueOfFigures 7 = .ok (.iload_n 2, 1) := by decide +kernel
theorem dX5_valueOfFigures_8 : decode cX5_valueOfFigures 8 = .ok (.aload_n 0, 1) := by decide +kernel
theorem dX5_valueOfFigures_9 : decode cX5_valueOfFigures 9 = .ok (.getfield 35, 3) := by decide +kernel
theorem dX5_valueOfFigures_12 : decode cX5_valueOfFigures 12 = .ok (.if_icmp .ge 34, 3) := by decide +kernel
theorem dX5_valueOfFigures_15 : decode cX5_valueOfFigures 15 = .ok (.iload_n 2, 1) := by decide +kernel
theorem dX5_valueOfFigures_16 : decode cX5_valueOfFigures 16 = .ok (.aload_n 0, 1) := by decide +kernel
theorem dX5_valueOfFigures_17 : decode cX5_valueOfFigures 17 = .ok (.getfield 32, 3) := by decide +kernel
theorem dX5_valueOfFigures_20 : decode cX5_valueOfFigures 20 = .ok (.iconst 3, 1) := by decide +kernel
theorem dX5_valueOfFigures_21 : decode cX5_valueOfFigures 21 = .ok (.iadd, 1) := by decide +kernel
theorem dX5_valueOfFigures_22 : decode cX5_valueOfFigures 22 = .ok (.if_icmp .ge 24, 3) := by decide +kernel
theorem dX5_valueOfFigures_25 : decode cX5_valueOfFigures 25 = .ok (.bipush 10, 2) := by decide +kernel
theorem dX5_valueOfFigures_27 : decode cX5_valueOfFigures 27 = .ok (.iload_n 1, 1) := by decide +kernel
theorem dX5_valueOfFigures_28 : decode cX5_valueOfFigures 28 = .ok (.imul, 1) := by decide +kernel
theorem dX5_valueOfFigures_29 : decode cX5_valueOfFigures 29 = .ok (.aload_n 0, 1) := by decide +kernel
theorem dX5_valueOfFigures_30 : decode cX5_valueOfFigures 30 = .ok (.getfield 11, 3) := by decide +kernel
theorem dX5_valueOfFigures_33 : decode cX5_valueOfFigures 33 = .ok (.iload_n 2, 1) := by decide +kernel
theorem dX5_valueOfFigures_34 : decode cX5_valueOfFigures 34 = .ok (.baload, 1) := by decide +kernel
theorem dX5_valueOfFigures_35 : decode cX5_valueOfFigures 35 = .ok (.iadd, 1) := by decide +kernel
theorem dX5_valueOfFigures_36 : decode cX5_valueOfFigures 36 = .ok (.bipush 48, 2) := by decide +kernel
theorem dX5_valueOfFigures_38 : decode cX5_valueOfFigures 38 = .ok (.isub, 1) := by decide +kernel
theorem dX5_valueOfFigures_39 : decode cX5_valueOfFigures 39 = .ok (.istore_n 1, 1) := by decide +kernel
theorem dX5_valueOfFigures_40 : decode cX5_valueOfFigures 40 = .ok (.iinc 2 1, 3) := by decide +kernel
theorem dX5_valueOfFigures_43 : decode cX5_valueOfFigures 43 = .ok (.goto (-36), 3) := by decide +kernel
theorem dX5_valueOfFigures_46 : decode cX5_valueOfFigures 46 = .ok (.iload_n 1, 1) := by decide +kernel
theorem dX5_valueOfFigures_47 : decode cX5_valueOfFigures 47 = .ok (.ireturn, 1) := by decide +kernel
theorem dX6_init_0 : decode cX6_init 0 = .ok (.aload_n 0, 1) := by decide +kernel
theorem dX6_init_1 : decode cX6_init 1 = .ok (.invokespecial 1, 3) := by decide +kernel
theorem dX6_init_4 : decode cX6_init 4 = .ok (.aload_n 0, 1) := by decide +kernel
theorem dX6_init_5 : decode cX6_init 5 = .ok (.bipush 8, 2) := by decide +kernel
theorem dX6_init_7 : decode cX6_init 7 = .ok (.newarray .int, 2) := by decide +kernel
theorem dX6_init_9 : decode cX6_init 9 = .ok (.dup, 1) := by decide +kernel
theorem dX6_init_10 : decode cX6_init 10 = .ok (.iconst 0, 1) := by decide +kernel
theorem dX6_init_11 : decode cX6_init 11 = .ok (.iconst (-1), 1) := by decide +kernel
theorem dX6_init_12 : decode cX6_init 12 = .ok (.iastore, 1) := by decide +kernel
theorem dX6_init_13 : decode cX6_init 13 = .ok (.dup, 1) := by decide +kernel
theorem dX6_init_14 : decode cX6_init 14 = .ok (.iconst 1, 1) := by decide +kernel
theorem dX6_init_15 : decode cX6_init 15 = .ok (.iconst (-1), 1) := by decide +kernel
theorem dX6_init_16 : decode cX6_init 16 = .ok (.iastore, 1) := by decide +kernel
theorem dX6_init_17 : decode cX6_init 17 = .ok (.dup, 1) := by decide +kernel
theorem dX6_init_18 : decode cX6_init 18 = .ok (.iconst 2, 1) := by decide +kernel
theorem dX6_init_19 : decode cX6_init 19 = .ok (.iconst (-1), 1) := by decide +kernel
theorem dX6_init_20 : decode cX6_init 20 = .ok (.iastore, 1) := by decide +kernel
theorem dX6_init_21 : decode cX6_init 21 = .ok (.dup, 1) := by decide +kernel
theorem dX6_init_22 : decode cX6_init 22 = .ok (.iconst 3, 1) := by decide +kernel
theorem dX6_init_23 : decode cX6_init 23 = .ok (.iconst (-1), 1) := by decide +kernel
theorem dX6_init_24 : decode cX6_init 24 = .ok (.iastore, 1) := by decide +kernel
theorem dX6_init_25 : decode cX6_init 25 = .ok (.dup, 1) := by decide +kernel
theorem dX6_init_26 : decode cX6_init 26 = .ok (.iconst 4, 1) := by decide +kernel
theorem dX6_init_27 : decode cX6_init 27 = .ok (.iconst (-1), 1) := by decide +kernel
theorem dX6_init_28 : decode cX6_init 28 = .ok (.iastore, 1) := by decide +kernel
theorem dX6_init_29 : decode cX6_init 29 = .ok (.dup, 1) := by decide +kernel
theorem dX6_init_30 : decode cX6_init 30 = .ok (.iconst 5, 1) := by decide +kernel
theorem dX6_init_31 : decode cX6_init 31 = .ok (.iconst (-1), 1) := by decide +kernel
theorem dX6_init_32 : decode cX6_init 32 = .ok (.iastore, 1) := by decide +kernel
theorem dX6_init_33 : decode cX6_init 33 = .ok (.dup, 1) := by decide +kernel
theorem dX6_init_34 : decode cX6_init 34 = .ok (.bipush 6, 2) := by decide +kernel
theorem dX6_init_36 : decode cX6_init 36 = .ok (.iconst (-1), 1) := by decide +kernel
theorem dX6_init_37 : decode cX6_init 37 = .ok (.iastore, 1) := by decide +kernel
theorem dX6_init_38 : decode cX6_init 38 = .ok (.dup, 1) := by decide +kernel
theorem dX6_init_39 : decode cX6_init 39 = .ok (.bipush 7, 2) := by decide +kernel
theorem dX6_init_41 : decode cX6_init 41 = .ok (.iconst (-1), 1) := by decide +kernel
theorem dX6_init_42 : decode cX6_init 42 = .ok (.iastore, 1) := by decide +kernel
theorem dX6_init_43 : decode cX6_init 43 = .ok (.putfield 9, 3) := by decide +kernel
theorem dX6_init_46 : decode cX6_init 46 = .ok (.aload_n 0, 1) := by decide +kernel
theorem dX6_init_47 : decode cX6_init 47 = .ok (.bipush 8, 2) := by decide +kernel
theorem dX6_init_49 : decode cX6_init 49 = .ok (.newarray .int, 2) := by decide +kernel
theorem dX6_init_51 : decode cX6_init 51 = .ok (.putfield 13, 3) := by decide +kernel
theorem dX6_init_54 : decode cX6_init 54 = .ok (.aload_n 0, 1) := by decide +kernel
theorem dX6_init_55 : decode cX6_init 55 = .ok (.sipush 320, 3) := by decide +kernel
theorem dX6_init_58 : decode cX6_init 58 = .ok (.newarray .int, 2) := by decide +kernel
theorem dX6_init_60 : decode cX6_init 60 = .ok (.putfield 16, 3) := by decide +kernel
theorem dX6_init_63 : decode cX6_init 63 = .ok (.return_, 1) := by decide +kernel
theorem dX6_isNumber_0 : decode cX6_isNumber 0 = .ok (.iload_n 1, 1) := by decide +kernel
theorem dX6_isNumber_1 : decode cX6_isNumber 1 = .ok (.ifCond .lt 13, 3) := by decide +kernel
theorem dX6_isNumber_4 : decode cX6_isNumber 4 = .ok (.iload_n 1, 1) := by decide +kernel
theorem dX6_isNumber_5 : decode cX6_isNumber 5 = .ok (.bipush 8, 2) := by decide +kernel
theorem dX6_isNumber_7 : decode cX6_isNumber 7 = .ok (.if_icmp .ge 7, 3) := by decide +kernel
theorem dX6_isNumber_10 : decode cX6_isNumber 10 = .ok (.iconst 1, 1) := by decide +kernel
theorem dX6_isNumber_11 : decode cX6_isNumber 11 = .ok (.goto 4, 3) := by decide +kernel
theorem dX6_isNumber_14 : decode cX6_isNumber 14 = .ok (.iconst 0, 1) := by decide +kernel
theorem dX6_isNumber_15 : decode cX6_isNumber 15 = .ok (.ireturn, 1) := by decide +kernel
theorem dX6_isLane_0 : decode cX6_isLane 0 = .ok (.iload_n 1, 1) := by decide +kernel
theorem dX6_isLane_1 : decode cX6_isLane 1 = .ok (.ifCond .lt 12, 3) := by decide +kernel
theorem dX6_isLane_4 : decode cX6_isLane 4 = .ok (.iload_n 1, 1) := by decide +kernel
theorem dX6_isLane_5 : decode cX6_isLane 5 = .ok (.iconst 3, 1) := by decide +kernel
theorem dX6_isLane_6 : decode cX6_isLane 6 = .ok (.if_icmp .ge 7, 3) := by decide +kernel
theorem dX6_isLane_9 : decode cX6_isLane 9 = .ok (.iconst 1, 1) := by decide +kernel
theorem dX6_isLane_10 : decode cX6_isLane 10 = .ok (.goto 4, 3) := by decide +kernel
theorem dX6_isLane_13 : decode cX6_isLane 13 = .ok (.iconst 0, 1) := by decide +kernel
theorem dX6_isLane_14 : decode cX6_isLane 14 = .ok (.ireturn, 1) := by decide +kernel
theorem dX6_isMissing_0 : decode cX6_isMissing 0 = .ok (.aload_n 0, 1) := by decide +kernel
theorem dX6_isMissing_1 : decode cX6_isMissing 1 = .ok (.getfield 9, 3) := by decide +kernel
theorem dX6_isMissing_4 : decode cX6_isMissing 4 = .ok (.iload_n 1, 1) := by decide +kernel
theorem dX6_isMissing_5 : decode cX6_isMissing 5 = .ok (.iaload, 1) := by decide +kernel
theorem dX6_isMissing_6 : decode cX6_isMissing 6 = .ok (.iconst (-1), 1) := by decide +kernel
theorem dX6_isMissing_7 : decode cX6_isMissing 7 = .ok (.if_icmp .ne 7, 3) := by decide +kernel
theorem dX6_isMissing_10 : decode cX6_isMissing 10 = .ok (.iconst 1, 1) := by decide +kernel
theorem dX6_isMissing_11 : decode cX6_isMissing 11 = .ok (.goto 4, 3) := by decide +kernel
theorem dX6_isMissing_14 : decode cX6_isMissing 14 = .ok (.iconst 0, 1) := by decide +kernel
theorem dX6_isMissing_15 : decode cX6_isMissing 15 = .ok (.ireturn, 1) := by decide +kernel
theorem dX6_laneOf_0 : decode cX6_laneOf 0 = .ok (.aload_n 0, 1) := by decide +kernel
theorem dX6_laneOf_1 : decode cX6_laneOf 1 = .ok (.getfield 9, 3) := by decide +kernel
theorem dX6_laneOf_4 : decode cX6_laneOf 4 = .ok (.iload_n 1, 1) := by decide +kernel
theorem dX6_laneOf_5 : decode cX6_laneOf 5 = .ok (.iaload, 1) := by decide +kernel
theorem dX6_laneOf_6 : decode cX6_laneOf 6 = .ok (.ireturn, 1) := by decide +kernel
theorem dX6_item_0 : decode cX6_item 0 = .ok (.aload_n 0, 1) := by decide +kernel
theorem dX6_item_1 : decode cX6_item 1 = .ok (.getfield 16, 3) := by decide +kernel
theorem dX6_item_4 : decode cX6_item 4 = .ok (.iload_n 1, 1) := by decide +kernel
theorem dX6_item_5 : decode cX6_item 5 = .ok (.bipush 40, 2) := by decide +kernel
theorem dX6_item_7 : decode cX6_item 7 = .ok (.imul, 1) := by decide +kernel
theorem dX6_item_8 : decode cX6_item 8 = .ok (.iload_n 2, 1) := by decide +kernel
theorem dX6_item_9 : decode cX6_item 9 = .ok (.iadd, 1) := by decide +kernel
theorem dX6_item_10 : decode cX6_item 10 = .ok (.iaload, 1) := by decide +kernel
theorem dX6_item_11 : decode cX6_item 11 = .ok (.ireturn, 1) := by decide +kernel
theorem dX6_hasPlaces_0 : decode cX6_hasPlaces 0 = .ok (.iload_n 2, 1) := by decide +kernel
theorem dX6_hasPlaces_1 : decode cX6_hasPlaces 1 = .ok (.ifCond .lt 27, 3) := by decide +kernel
theorem dX6_hasPlaces_4 : decode cX6_hasPlaces 4 = .ok (.iload_n 3, 1) := by decide +kernel
theorem dX6_hasPlaces_5 : decode cX6_hasPlaces 5 = .ok (.ifCond .lt 23, 3) := by decide +kernel
theorem dX6_hasPlaces_8 : decode cX6_hasPlaces 8 = .ok (.iload_n 2, 1) := by decide +kernel
theorem dX6_hasPlaces_9 : decode cX6_hasPlaces 9 = .ok (.i2l, 1) := by decide +kernel
theorem dX6_hasPlaces_10 : decode cX6_hasPlaces 10 = .ok (.iload_n 3, 1) := by decide +kernel
theorem dX6_hasPlaces_11 : decode cX6_hasPlaces 11 = .ok (.i2l, 1) := by decide +kernel
theorem dX6_hasPlaces_12 : decode cX6_hasPlaces 12 = .ok (.ladd, 1) := by decide +kernel
theorem dX6_hasPlaces_13 : decode cX6_hasPlaces 13 = .ok (.aload_n 0, 1) := by decide +kernel
theorem dX6_hasPlaces_14 : decode cX6_hasPlaces 14 = .ok (.getfield 13, 3) := by decide +kernel
theorem dX6_hasPlaces_17 : decode cX6_hasPlaces 17 = .ok (.iload_n 1, 1) := by decide +kernel
theorem dX6_hasPlaces_18 : decode cX6_hasPlaces 18 = .ok (.iaload, 1) := by decide +kernel
theorem dX6_hasPlaces_19 : decode cX6_hasPlaces 19 = .ok (.i2l, 1) := by decide +kernel
theorem dX6_hasPlaces_20 : decode cX6_hasPlaces 20 = .ok (.lcmp, 1) := by decide +kernel
theorem dX6_hasPlaces_21 : decode cX6_hasPlaces 21 = .ok (.ifCond .gt 7, 3) := by decide +kernel
theorem dX6_hasPlaces_24 : decode cX6_hasPlaces 24 = .ok (.iconst 1, 1) := by decide +kernel
theorem dX6_hasPlaces_25 : decode cX6_hasPlaces 25 = .ok (.goto 4, 3) := by decide +kernel
theorem dX6_hasPlaces_28 : decode cX6_hasPlaces 28 = .ok (.iconst 0, 1) := by decide +kernel
theorem dX6_hasPlaces_29 : decode cX6_hasPlaces 29 = .ok (.ireturn, 1) := by decide +kernel
theorem dX6_make_0 : decode cX6_make 0 = .ok (.iload_n 1, 1) := by decide +kernel
theorem dX6_make_1 : decode cX6_make 1 = .ok (.bipush 40, 2) := by decide +kernel
theorem dX6_make_3 : decode cX6_make 3 = .ok (.imul, 1) := by decide +kernel
theorem dX6_make_4 : decode cX6_make 4 = .ok (.istore 4, 2) := by decide +kernel
theorem dX6_make_6 : decode cX6_make 6 = .ok (.aload_n 0, 1) := by decide +kernel
theorem dX6_make_7 : decode cX6_make 7 = .ok (.getfield 9, 3) := by decide +kernel
theorem dX6_make_10 : decode cX6_make 10 = .ok (.iload_n 1, 1) := by decide +kernel
theorem dX6_make_11 : decode cX6_make 11 = .ok (.iload_n 2, 1) := by decide +kernel
theorem dX6_make_12 : decode cX6_make 12 = .ok (.iastore, 1) := by decide +kernel
theorem dX6_make_13 : decode cX6_make 13 = .ok (.aload_n 0, 1) := by decide +kernel
theorem dX6_make_14 : decode cX6_make 14 = .ok (.getfield 13, 3) := by decide +kernel
theorem dX6_make_17 : decode cX6_make 17 = .ok (.iload_n 1, 1) := by decide +kernel
theorem dX6_make_18 : decode cX6_make 18 = .ok (.iload_n 3, 1) := by decide +kernel
theorem dX6_make_19 : decode cX6_make 19 = .ok (.iastore, 1) := by decide +kernel
theorem dX6_make_20 : decode cX6_make 20 = .ok (.iload 4, 2) := by decide +kernel
theorem dX6_make_22 : decode cX6_make 22 = .ok (.istore 5, 2) := by decide +kernel
theorem dX6_make_24 : decode cX6_make 24 = .ok (.iload 5, 2) := by decide +kernel
theorem dX6_make_26 : decode cX6_make 26 = .ok (.iload 4, 2) := by decide +kernel
theorem dX6_make_28 : decode cX6_make 28 = .ok (.iload_n 3, 1) := by decide +kernel
theorem dX6_make_29 : decode cX6_make 29 = .ok (.iadd, 1) := by decide +kernel
theorem dX6_make_30 : decode cX6_make 30 = .ok (.if_icmp .ge 17, 3) := by decide +kernel
theorem dX6_make_33 : decode cX6_make 33 = .ok (.aload_n 0, 1) := by decide +kernel
theorem dX6_make_34 : decode cX6_make 34 = .ok (.getfield 16, 3) := by decide +kernel
theorem dX6_make_37 : decode cX6_make 37 = .ok (.iload 5, 2) := by decide +kernel
theorem dX6_make_39 : decode cX6_make 39 = .ok (.iconst 0, 1) := by decide +kernel
theorem dX6_make_40 : decode cX6_make 40 = .ok (.iastore, 1) := by decide +kernel
theorem dX6_make_41 : decode cX6_make 41 = .ok (.iinc 5 1, 3) := by decide +kernel
theorem dX6_make_44 : decode cX6_make 44 = .ok (.goto (-20), 3) := by decide +kernel
theorem dX6_make_47 : decode cX6_make 47 = .ok (.return_, 1) := by decide +kernel
theorem dX6_put_0 : decode cX6_put 0 = .ok (.iload_n 3, 1) := by decide +kernel
theorem dX6_put_1 : decode cX6_put 1 = .ok (.istore 4, 2) := by decide +kernel
theorem dX6_put_3 : decode cX6_put 3 = .ok (.aload_n 0, 1) := by decide +kernel
theorem dX6_put_4 : decode cX6_put 4 = .ok (.getfield 9, 3) := by decide +kernel
theorem dX6_put_7 : decode cX6_put 7 = .ok (.iload_n 1, 1) := by decide +kernel
theorem dX6_put_8 : decode cX6_put 8 = .ok (.iaload, 1) := by decide +kernel
theorem dX6_put_9 : decode cX6_put 9 = .ok (.ifCond .ne 10, 3) := by decide +kernel
theorem dX6_put_12 : decode cX6_put 12 = .ok (.iload_n 3, 1) := by decide +kernel
theorem dX6_put_13 : decode cX6_put 13 = .ok (.i2b, 1) := by decide +kernel
theorem dX6_put_14 : decode cX6_put 14 = .ok (.istore 4, 2) := by decide +kernel
theorem dX6_put_16 : decode cX6_put 16 = .ok (.goto 17, 3) := by decide +kernel
theorem dX6_put_19 : decode cX6_put 19 = .ok (.aload_n 0, 1) := by decide +kernel
theorem dX6_put_20 : decode cX6_put 20 = .ok (.getfield 9, 3) := by decide +kernel
theorem dX6_put_23 : decode cX6_put 23 = .ok (.iload_n 1, 1) := by decide +kernel
theorem dX6_put_24 : decode cX6_put 24 = .ok (.iaload, 1) := by decide +kernel
theorem dX6_put_25 : decode cX6_put 25 = .ok (.iconst 1, 1) := by decide +kernel
theorem dX6_put_26 : decode cX6_put 26 = .ok (.if_icmp .ne 7, 3) := by decide +kernel
theorem dX6_put_29 : decode cX6_put 29 = .ok (.iload_n 3, 1) := by decide +kernel
theorem dX6_put_30 : decode cX6_put 30 = .ok (.i2s, 1) := by decide +kernel
theorem dX6_put_31 : decode cX6_put 31 = .ok (.istore 4, 2) := by decide +kernel
theorem dX6_put_33 : decode cX6_put 33 = .ok (.aload_n 0, 1) := by decide +kernel
theorem dX6_put_34 : decode cX6_put 34 = .ok (.getfield 16, 3) := by decide +kernel
theorem dX6_put_37 : decode cX6_put 37 = .ok (.iload_n 1, 1) := by decide +kernel
theorem dX6_put_38 : decode cX6_put 38 = .ok (.bipush 40, 2) := by decide +kernel
theorem dX6_put_40 : decode cX6_put 40 = .ok (.imul, 1) := by decide +kernel
theorem dX6_put_41 : decode cX6_put 41 = .ok (.iload_n 2, 1) := by decide +kernel
theorem dX6_put_42 : decode cX6_put 42 = .ok (.iadd, 1) := by decide +kernel
theorem dX6_put_43 : decode cX6_put 43 = .ok (.iload 4, 2) := by decide +kernel
theorem dX6_put_45 : decode cX6_put 45 = .ok (.iastore, 1) := by decide +kernel
theorem dX6_put_46 : decode cX6_put 46 = .ok (.iload 4, 2) := by decide +kernel
theorem dX6_put_48 : decode cX6_put 48 = .ok (.ireturn, 1) := by decide +kernel
theorem dX6_move_0 : decode cX6_move 0 = .ok (.aload_n 0, 1) := by decide +kernel
theorem dX6_move_1 : decode cX6_move 1 = .ok (.getfield 16, 3) := by decide +kernel
theorem dX6_move_4 : decode cX6_move 4 = .ok (.iload_n 1, 1) := by decide +kernel
theorem dX6_move_5 : decode cX6_move 5 = .ok (.bipush 40, 2) := by decide +kernel
theorem dX6_move_7 : decode cX6_move 7 = .ok (.imul, 1) := by decide +kernel
theorem dX6_move_8 : decode cX6_move 8 = .ok (.iload_n 2, 1) := by decide +kernel
theorem dX6_move_9 : decode cX6_move 9 = .ok (.iadd, 1) := by decide +kernel
theorem dX6_move_10 : decode cX6_move 10 = .ok (.aload_n 0, 1) := by decide +kernel
theorem dX6_move_11 : decode cX6_move 11 = .ok (.getfield 16, 3) := by decide +kernel
theorem dX6_move_14 : decode cX6_move 14 = .ok (.iload_n 3, 1) := by decide +kernel
theorem dX6_move_15 : decode cX6_move 15 = .ok (.bipush 40, 2) := by decide +kernel
theorem dX6_move_17 : decode cX6_move 17 = .ok (.imul, 1) := by decide +kernel
theorem dX6_move_18 : decode cX6_move 18 = .ok (.iload 4, 2) := by decide +kernel
theorem dX6_move_20 : decode cX6_move 20 = .ok (.iadd, 1) := by decide +kernel
theorem dX6_move_21 : decode cX6_move 21 = .ok (.iload 5, 2) := by decide +kernel
theorem dX6_move_23 : decode cX6_move 23 = .ok (.invokestatic 19, 3) := by decide +kernel
theorem dX6_move_26 : decode cX6_move 26 = .ok (.return_, 1) := by decide +kernel
theorem dX6_remove_0 : decode cX6_remove 0 = .ok (.aload_n 0, 1) := by decide +kernel
theorem dX6_remove_1 : decode cX6_remove 1 = .ok (.getfield 9, 3) := by decide +kernel
theorem dX6_remove_4 : decode cX6_remove 4 = .ok (.iload_n 1, 1) := by decide +kernel
theorem dX6_remove_5 : decode cX6_remove 5 = .ok (.iconst (-1), 1) := by decide +kernel
theorem dX6_remove_6 : decode cX6_remove 6 = .ok (.iastore, 1) := by decide +kernel
theorem dX6_remove_7 : decode cX6_remove 7 = .ok (.aload_n 0, 1) := by decide +kernel
theorem dX6_remove_8 : decode cX6_remove 8 = .ok (.getfield 13, 3) := by decide +kernel
theorem dX6_remove_11 : decode cX6_remove 11 = .ok (.iload_n 1, 1) := by decide +kernel
theorem dX6_remove_12 : decode cX6_remove 12 = .ok (.iaload, 1) := by decide +kernel
theorem dX6_remove_13 : decode cX6_remove 13 = .ok (.ireturn, 1) := by decide +kernel
theorem dX6_present_0 : decode cX6_present 0 = .ok (.iconst 0, 1) := by decide +kernel
theorem dX6_present_1 : decode cX6_present 1 = .ok (.istore_n 1, 1) := by decide +kernel
theorem dX6_present_2 : decode cX6_present 2 = .ok (.iconst 0, 1) := by decide +kernel
theorem dX6_present_3 : decode cX6_present 3 = .ok (.istore_n 2, 1) := by decide +kernel
theorem dX6_present_4 : decode cX6_present 4 = .ok (.iload_n 2, 1) := by decide +kernel
theorem dX6_present_5 : decode cX6_present 5 = .ok (.bipush 8, 2) := by decide +kernel
theorem dX6_present_7 : decode cX6_present 7 = .ok (.if_icmp .ge 22, 3) := by decide +kernel
theorem dX6_present_10 : decode cX6_present 10 = .ok (.aload_n 0, 1) := by decide +kernel
theorem dX6_present_11 : decode cX6_present 11 = .ok (.getfield 9, 3) := by decide +kernel
theorem dX6_present_14 : decode cX6_present 14 = .ok (.iload_n 2, 1) := by decide +kernel
theorem dX6_present_15 : decode cX6_present 15 = .ok (.iaload, 1) := by decide +kernel
theorem dX6_present_16 : decode cX6_present 16 = .ok (.iconst (-1), 1) := by decide +kernel
theorem dX6_present_17 : decode cX6_present 17 = .ok (.if_icmp .eq 6, 3) := by decide +kernel
theorem dX6_present_20 : decode cX6_present 20 = .ok (.iinc 1 1, 3) := by decide +kernel
theorem dX6_present_23 : decode cX6_present 23 = .ok (.iinc 2 1, 3) := by decide +kernel
theorem dX6_present_26 : decode cX6_present 26 = .ok (.goto (-22), 3) := by decide +kernel
theorem dX6_present_29 : decode cX6_present 29 = .ok (.iload_n 1, 1) := by decide +kernel
theorem dX6_present_30 : decode cX6_present 30 = .ok (.ireturn, 1) := by decide +kernel
theorem dX7_init_0 : decode cX7_init 0 = .ok (.aload_n 0, 1) := by decide +kernel
theorem dX7_init_1 : decode cX7_init 1 = .ok (.invokespecial 1, 3) := by decide +kernel
theorem dX7_init_4 : decode cX7_init 4 = .ok (.aload_n 0, 1) := by decide +kernel
theorem dX7_init_5 : decode cX7_init 5 = .ok (.new 7, 3) := by decide +kernel
theorem dX7_init_8 : decode cX7_init 8 = .ok (.dup, 1) := by decide +kernel
theorem dX7_init_9 : decode cX7_init 9 = .ok (.invokespecial 9, 3) := by decide +kernel
theorem dX7_init_12 : decode cX7_init 12 = .ok (.putfield 10, 3) := by decide +kernel
theorem dX7_init_15 : decode cX7_init 15 = .ok (.aload_n 0, 1) := by decide +kernel
theorem dX7_init_16 : decode cX7_init 16 = .ok (.new 16, 3) := by decide +kernel
theorem dX7_init_19 : decode cX7_init 19 = .ok (.dup, 1) := by decide +kernel
theorem dX7_init_20 : decode cX7_init 20 = .ok (.invokespecial 18, 3) := by decide +kernel
theorem dX7_init_23 : decode cX7_init 23 = .ok (.putfield 19, 3) := by decide +kernel
theorem dX7_init_26 : decode cX7_init 26 = .ok (.aload_n 0, 1) := by decide +kernel
theorem dX7_init_27 : decode cX7_init 27 = .ok (.new 23, 3) := by decide +kernel
theorem dX7_init_30 : decode cX7_init 30 = .ok (.dup, 1) := by decide +kernel
theorem dX7_init_31 : decode cX7_init 31 = .ok (.invokespecial 25, 3) := by decide +kernel
theorem dX7_init_34 : decode cX7_init 34 = .ok (.putfield 26, 3) := by decide +kernel
theorem dX7_init_37 : decode cX7_init 37 = .ok (.aload_n 0, 1) := by decide +kernel
theorem dX7_init_38 : decode cX7_init 38 = .ok (.iconst 2, 1) := by decide +kernel
theorem dX7_init_39 : decode cX7_init 39 = .ok (.anewarray 23, 3) := by decide +kernel
theorem dX7_init_42 : decode cX7_init 42 = .ok (.dup, 1) := by decide +kernel
theorem dX7_init_43 : decode cX7_init 43 = .ok (.iconst 0, 1) := by decide +kernel
theorem dX7_init_44 : decode cX7_init 44 = .ok (.new 23, 3) := by decide +kernel
theorem dX7_init_47 : decode cX7_init 47 = .ok (.dup, 1) := by decide +kernel
theorem dX7_init_48 : decode cX7_init 48 = .ok (.invokespecial 25, 3) := by decide +kernel
theorem dX7_init_51 : decode cX7_init 51 = .ok (.aastore, 1) := by decide +kernel
theorem dX7_init_52 : decode cX7_init 52 = .ok (.dup, 1) := by decide +kernel
theorem dX7_init_53 : decode cX7_init 53 = .ok (.iconst 1, 1) := by decide +kernel
theorem dX7_init_54 : decode cX7_init 54 = .ok (.new 23, 3) := by decide +kernel
theorem dX7_init_57 : decode cX7_init 57 = .ok (.dup, 1) := by decide +kernel
theorem dX7_init_58 : decode cX7_init 58 = .ok (.invokespecial 25, 3) := by decide +kernel
theorem dX7_init_61 : decode cX7_init 61 = .ok (.aastore, 1) := by decide +kernel
theorem dX7_init_62 : decode cX7_init 62 = .ok (.putfield 30, 3) := by decide +kernel
theorem dX7_init_65 : decode cX7_init 65 = .ok (.aload_n 0, 1) := by decide +kernel
theorem dX7_init_66 : decode cX7_init 66 = .ok (.new 34, 3) := by decide +kernel
theorem dX7_init_69 : decode cX7_init 69 = .ok (.dup, 1) := by decide +kernel
theorem dX7_init_70 : decode cX7_init 70 = .ok (.invokespecial 36, 3) := by decide +kernel
theorem dX7_init_73 : decode cX7_init 73 = .ok (.putfield 37, 3) := by decide +kernel
theorem dX7_init_76 : decode cX7_init 76 = .ok (.aload_n 0, 1) := by decide +kernel
theorem dX7_init_77 : decode cX7_init 77 = .ok (.new 41, 3) := by decide +kernel
theorem dX7_init_80 : decode cX7_init 80 = .ok (.dup, 1) := by decide +kernel
theorem dX7_init_81 : decode cX7_init 81 = .ok (.invokespecial 43, 3) := by decide +kernel
theorem dX7_init_84 : decode cX7_init 84 = .ok (.putfield 44, 3) := by decide +kernel
theorem dX7_init_87 : decode cX7_init 87 = .ok (.aload_n 0, 1) := by decide +kernel
theorem dX7_init_88 : decode cX7_init 88 = .ok (.new 48, 3) := by decide +kernel
theorem dX7_init_91 : decode cX7_init 91 = .ok (.dup, 1) := by decide +kernel
theorem dX7_init_92 : decode cX7_init 92 = .ok (.invokespecial 50, 3) := by decide +kernel
theorem dX7_init_95 : decode cX7_init 95 = .ok (.putfield 51, 3) := by decide +kernel
theorem dX7_init_98 : decode cX7_init 98 = .ok (.aload_n 0, 1) := by decide +kernel
theorem dX7_init_99 : decode cX7_init 99 = .ok (.iconst 0, 1) := by decide +kernel
theorem dX7_init_100 : decode cX7_init 100 = .ok (.putfield 55, 3) := by decide +kernel
theorem dX7_init_103 : decode cX7_init 103 = .ok (.return_, 1) := by decide +kernel
theorem dX7_row_0 : decode cX7_row 0 = .ok (.aload_n 0, 1) := by decide +kernel
theorem dX7_row_1 : decode cX7_row 1 = .ok (.getfield 10, 3) := by decide +kernel
theorem dX7_row_4 : decode cX7_row 4 = .ok (.iload_n 1, 1) := by decide +kernel
theorem dX7_row_5 : decode cX7_row 5 = .ok (.invokevirtual 59, 3) := by decide +kernel
theorem dX7_row_8 : decode cX7_row 8 = .ok (.ifCond .eq 20, 3) := by decide +kernel
theorem dX7_row_11 : decode cX7_row 11 = .ok (.aload_n 0, 1) := by decide +kernel
theorem dX7_row_12 : decode cX7_row 12 = .ok (.getfield 10, 3) := by decide +kernel
theorem dX7_row_15 : decode cX7_row 15 = .ok (.iload_n 2, 1) := by decide +kernel
theorem dX7_row_16 : decode cX7_row 16 = .ok (.invokevirtual 63, 3) := by decide +kernel
theorem dX7_row_19 : decode cX7_row 19 = .ok (.ifCond .eq 9, 3) := by decide +kernel
theorem dX7_row_22 : decode cX7_row 22 = .ok (.iload_n 3, 1) := by decide +kernel
theorem dX7_row_23 : decode cX7_row 23 = .ok (.bipush 40, 2) := by decide +kernel
theorem dX7_row_25 : decode cX7_row 25 = .ok (.if_icmp .le 6, 3) := by decide +kernel
theorem dX7_row_28 : decode cX7_row 28 = .ok (.ldc 66, 2) := by decide +kernel
theorem dX7_row_30 : decode cX7_row 30 = .ok (.ireturn, 1) := by decide +kernel
theorem dX7_row_31 : decode cX7_row 31 = .ok (.iload_n 3, 1) := by decide +kernel
theorem dX7_row_32 : decode cX7_row 32 = .ok (.ifCond .ge 9, 3) := by decide +kernel
theorem dX7_row_35 : decode cX7_row 35 = .ok (.aload_n 0, 1) := by decide +kernel
theorem dX7_row_36 : decode cX7_row 36 = .ok (.iconst 4, 1) := by decide +kernel
theorem dX7_row_37 : decode cX7_row 37 = .ok (.invokevirtual 67, 3) := by decide +kernel
theorem dX7_row_40 : decode cX7_row 40 = .ok (.ireturn, 1) := by decide +kernel
theorem dX7_row_41 : decode cX7_row 41 = .ok (.aload_n 0, 1) := by decide +kernel
theorem dX7_row_42 : decode cX7_row 42 = .ok (.getfield 10, 3) := by decide +kernel
theorem dX7_row_45 : decode cX7_row 45 = .ok (.iload_n 1, 1) := by decide +kernel
theorem dX7_row_46 : decode cX7_row 46 = .ok (.iload_n 2, 1) := by decide +kernel
theorem dX7_row_47 : decode cX7_row 47 = .ok (.iload_n 3, 1) := by decide +kernel
theorem dX7_row_48 : decode cX7_row 48 = .ok (.invokevirtual 71, 3) := by decide +kernel
theorem dX7_row_51 : decode cX7_row 51 = .ok (.aload_n 0, 1) := by decide +kernel
theorem dX7_row_52 : decode cX7_row 52 = .ok (.iload_n 3, 1) := by decide +kernel
theorem dX7_row_53 : decode cX7_row 53 = .ok (.invokevirtual 75, 3) := by decide +kernel
theorem dX7_row_56 : decode cX7_row 56 = .ok (.ireturn, 1) := by decide +kernel
theorem dX7_set_0 : decode cX7_set 0 = .ok (.aload_n 0, 1) := by decide +kernel
theorem dX7_set_1 : decode cX7_set 1 = .ok (.getfield 10, 3) := by decide +kernel
theorem dX7_set_4 : decode cX7_set 4 = .ok (.iload_n 1, 1) := by decide +kernel
theorem dX7_set_5 : decode cX7_set 5 = .ok (.invokevirtual 59, 3) := by decide +kernel
theorem dX7_set_8 : decode cX7_set 8 = .ok (.ifCond .ne 6, 3) := by decide +kernel
theorem dX7_set_11 : decode cX7_set 11 = .ok (.ldc 66, 2) := by decide +kernel
theorem dX7_set_13 : decode cX7_set 13 = .ok (.ireturn, 1) := by decide +kernel
theorem dX7_set_14 : decode cX7_set 14 = .ok (.aload_n 0, 1) := by decide +kernel
theorem dX7_set_15 : decode cX7_set 15 = .ok (.getfield 10, 3) := by decide +kernel
theorem dX7_set_18 : decode cX7_set 18 = .ok (.iload_n 1, 1) := by decide +kernel
theorem dX7_set_19 : decode cX7_set 19 = .ok (.invokevirtual 78, 3) := by decide +kernel
theorem dX7_set_22 : decode cX7_set 22 = .ok (.ifCond .eq 9, 3) := by decide +kernel
theorem dX7_set_25 : decode cX7_set 25 = .ok (.aload_n 0, 1) := by decide +kernel
theorem dX7_set_26 : decode cX7_set 26 = .ok (.iconst 1, 1) := by decide +kernel
theorem dX7_set_27 : decode cX7_set 27 = .ok (.invokevirtual 67, 3) := by decide +kernel
theorem dX7_set_30 : decode cX7_set 30 = .ok (.ireturn, 1) := by decide +kernel
theorem dX7_set_31 : decode cX7_set 31 = .ok (.aload_n 0, 1) := by decide +kernel
theorem dX7_set_32 : decode cX7_set 32 = .ok (.getfield 10, 3) := by decide +kernel
theorem dX7_set_35 : decode cX7_set 35 = .ok (.iload_n 1, 1) := by decide +kernel
theorem dX7_set_36 : decode cX7_set 36 = .ok (.iload_n 2, 1) := by decide +kernel
theorem dX7_set_37 : decode cX7_set 37 = .ok (.iconst 1, 1) := by decide +kernel
theorem dX7_set_38 : decode cX7_set 38 = .ok (.invokevirtual 81, 3) := by decide +kernel
theorem dX7_set_41 : decode cX7_set 41 = .ok (.ifCond .ne 9, 3) := by decide +kernel
theorem dX7_set_44 : decode cX7_set 44 = .ok (.aload_n 0, 1) := by decide +kernel
theorem dX7_set_45 : decode cX7_set 45 = .ok (.iconst 2, 1) := by decide +kernel
theorem dX7_set_46 : decode cX7_set 46 = .ok (.invokevirtual 67, 3) := by decide +kernel
theorem dX7_set_49 : decode cX7_set 49 = .ok (.ireturn, 1) := by decide +kernel
theorem dX7_set_50 : decode cX7_set 50 = .ok (.aload_n 0, 1) := by decide +kernel
theorem dX7_set_51 : decode cX7_set 51 = .ok (.aload_n 0, 1) := by decide +kernel
theorem dX7_set_52 : decode cX7_set 52 = .ok (.getfield 10, 3) := by decide +kernel
theorem dX7_set_55 : decode cX7_set 55 = .ok (.iload_n 1, 1) := by decide +kernel
theorem dX7_set_56 : decode cX7_set 56 = .ok (.iload_n 2, 1) := by decide +kernel
theorem dX7_set_57 : decode cX7_set 57 = .ok (.iload_n 3, 1) := by decide +kernel
theorem dX7_set_58 : decode cX7_set 58 = .ok (.invokevirtual 85, 3) := by decide +kernel
theorem dX7_set_61 : decode cX7_set 61 = .ok (.invokevirtual 75, 3) := by decide +kernel
theorem dX7_set_64 : decode cX7_set 64 = .ok (.ireturn, 1) := by decide +kernel
theorem dX7_copy_0 : decode cX7_copy 0 = .ok (.aload_n 0, 1) := by decide +kernel
theorem dX7_copy_1 : decode cX7_copy 1 = .ok (.getfield 10, 3) := by decide +kernel
theorem dX7_copy_4 : decode cX7_copy 4 = .ok (.iload_n 1, 1) := by decide +kernel
theorem dX7_copy_5 : decode cX7_copy 5 = .ok (.invokevirtual 59, 3) := by decide +kernel
theorem dX7_copy_8 : decode cX7_copy 8 = .ok (.ifCond .eq 14, 3) := by decide +kernel
theorem dX7_copy_11 : decode cX7_copy 11 = .ok (.aload_n 0, 1) := by decide +kernel
theorem dX7_copy_12 : decode cX7_copy 12 = .ok (.getfield 10, 3) := by decide +kernel
theorem dX7_copy_15 : decode cX7_copy 15 = .ok (.iload_n 3, 1) := by decide +kernel
theorem dX7_copy_16 : decode cX7_copy 16 = .ok (.invokevirtual 59, 3) := by decide +kernel
theorem dX7_copy_19 : decode cX7_copy 19 = .ok (.ifCond .ne 6, 3) := by decide +kernel
theorem dX7_copy_22 : decode cX7_copy 22 = .ok (.ldc 66, 2) := by decide +kernel
theorem dX7_copy_24 : decode cX7_copy 24 = .ok (.ireturn, 1) := by decide +kernel
theorem dX7_copy_25 : decode cX7_copy 25 = .ok (.aload_n 0, 1) := by decide +kernel
theorem dX7_copy_26 : decode cX7_copy 26 = .ok (.getfield 10, 3) := by decide +kernel
theorem dX7_copy_29 : decode cX7_copy 29 = .ok (.iload_n 1, 1) := by decide +kernel
theorem dX7_copy_30 : decode cX7_copy 30 = .ok (.invokevirtual 78, 3) := by decide +kernel
theorem dX7_copy_33 : decode cX7_copy 33 = .ok (.ifCond .ne 14, 3) := by decide +kernel
theorem dX7_copy_36 : decode cX7_copy 36 = .ok (.aload_n 0, 1) := by decide +kernel
theorem dX7_copy_37 : decode cX7_copy 37 = .ok (.getfield 10, 3) := by decide +kernel
theorem dX7_copy_40 : decode cX7_copy 40 = .ok (.iload_n 3, 1) := by decide +kernel
theorem dX7_copy_41 : decode cX7_copy 41 = .ok (.invokevirtual 78, 3) := by decide +kernel
theorem dX7_copy_44 : decode cX7_copy 44 = .ok (.ifCond .eq 9, 3) := by decide +kernel
theorem dX7_copy_47 : decode cX7_copy 47 = .ok (.aload_n 0, 1) := by decide +kernel
theorem dX7_copy_48 : decode cX7_copy 48 = .ok (.iconst 1, 1) := by decide +kernel
theorem dX7_copy_49 : decode cX7_copy 49 = .ok (.invokevirtual 67, 3) := by decide +kernel
theorem dX7_copy_52 : decode cX7_copy 52 = .ok (.ireturn, 1) := by decide +kernel
theorem dX7_copy_53 : decode cX7_copy 53 = .ok (.aload_n 0, 1) := by decide +kernel
theorem dX7_copy_54 : decode cX7_copy 54 = .ok (.getfield 10, 3) := by decide +kernel
theorem dX7_copy_57 : decode cX7_copy 57 = .ok (.iload_n 1, 1) := by decide +kernel
theorem dX7_copy_58 : decode cX7_copy 58 = .ok (.invokevirtual 89, 3) := by decide +kernel
theorem dX7_copy_61 : decode cX7_copy 61 = .ok (.aload_n 0, 1) := by decide +kernel
theorem dX7_copy_62 : decode cX7_copy 62 = .ok (.getfield 10, 3) := by decide +kernel
theorem dX7_copy_65 : decode cX7_copy 65 = .ok (.iload_n 3, 1) := by decide +kernel
theorem dX7_copy_66 : decode cX7_copy 66 = .ok (.invokevirtual 89, 3) := by decide +kernel
theorem dX7_copy_69 : decode cX7_copy 69 = .ok (.if_icmp .eq 9, 3) := by decide +kernel
theorem dX7_copy_72 : decode cX7_copy 72 = .ok (.aload_n 0, 1) := by decide +kernel
theorem dX7_copy_73 : decode cX7_copy 73 = .ok (.iconst 5, 1) := by decide +kernel
theorem dX7_copy_74 : decode cX7_copy 74 = .ok (.invokevirtual 67, 3) := by decide +kernel
theorem dX7_copy_77 : decode cX7_copy 77 = .ok (.ireturn, 1) := by decide +kernel
theorem dX7_copy_78 : decode cX7_copy 78 = .ok (.aload_n 0, 1) := by decide +kernel
theorem dX7_copy_79 : decode cX7_copy 79 = .ok (.getfield 10, 3) := by decide +kernel
theorem dX7_copy_82 : decode cX7_copy 82 = .ok (.iload_n 1, 1) := by decide +kernel
theorem dX7_copy_83 : decode cX7_copy 83 = .ok (.iload_n 2, 1) := by decide +kernel
theorem dX7_copy_84 : decode cX7_copy 84 = .ok (.iload 5, 2) := by decide +kernel
theorem dX7_copy_86 : decode cX7_copy 86 = .ok (.invokevirtual 81, 3) := by decide +kernel
theorem dX7_copy_89 : decode cX7_copy 89 = .ok (.ifCond .eq 18, 3) := by decide +kernel
theorem dX7_copy_92 : decode cX7_copy 92 = .ok (.aload_n 0, 1) := by decide +kernel
theorem dX7_copy_93 : decode cX7_copy 93 = .ok (.getfield 10, 3) := by decide +kernel
theorem dX7_copy_96 : decode cX7_copy 96 = .ok (.iload_n 3, 1) := by decide +kernel
theorem dX7_copy_97 : decode cX7_copy 97 = .ok (.iload 4, 2) := by decide +kernel
theorem dX7_copy_99 : decode cX7_copy 99 = .ok (.iload 5, 2) := by decide +kernel
theorem dX7_copy_101 : decode cX7_copy 101 = .ok (.invokevirtual 81, 3) := by decide +kernel
theorem dX7_copy_104 : decode cX7_copy 104 = .ok (.ifCond .ne 9, 3) := by decide +kernel
theorem dX7_copy_107 : decode cX7_copy 107 = .ok (.aload_n 0, 1) := by decide +kernel
theorem dX7_copy_108 : decode cX7_copy 108 = .ok (.iconst 2, 1) := by decide +kernel
theorem dX7_copy_109 : decode cX7_copy 109 = .ok (.invokevirtual 67, 3) := by decide +kernel
theorem dX7_copy_112 : decode cX7_copy 112 = .ok (.ireturn, 1) := by decide +kernel
theorem dX7_copy_113 : decode cX7_copy 113 = .ok (.aload_n 0, 1) := by decide +kernel
theorem dX7_copy_114 : decode cX7_copy 114 = .ok (.getfield 10, 3) := by decide +kernel
theorem dX7_copy_117 : decode cX7_copy 117 = .ok (.iload_n 1, 1) := by decide +kernel
theorem dX7_copy_118 : decode cX7_copy 118 = .ok (.iload_n 2, 1) := by decide +kernel
theorem dX7_copy_119 : decode cX7_copy 119 = .ok (.iload_n 3, 1) := by decide +kernel
theorem dX7_copy_120 : decode cX7_copy 120 = .ok (.iload 4, 2) := by decide +kernel
theorem dX7_copy_122 : decode cX7_copy 122 = .ok (.iload 5, 2) := by decide +kernel
theorem dX7_copy_124 : decode cX7_copy 124 = .ok (.invokevirtual 92, 3) := by decide +kernel
theorem dX7_copy_127 : decode cX7_copy 127 = .ok (.aload_n 0, 1) := by decide +kernel
theorem dX7_copy_128 : decode cX7_copy 128 = .ok (.iload 5, 2) := by decide +kernel
theorem dX7_copy_130 : decode cX7_copy 130 = .ok (.invokevirtual 75, 3) := by decide +kernel
theorem dX7_copy_133 : decode cX7_copy 133 = .ok (.ireturn, 1) := by decide +kernel
theorem dX7_drop_0 : decode cX7_drop 0 = .ok (.aload_n 0, 1) := by decide +kernel
theorem dX7_drop_1 : decode cX7_drop 1 = .ok (.getfield 10, 3) := by decide +kernel
theorem dX7_drop_4 : decode cX7_drop 4 = .ok (.iload_n 1, 1) := by decide +kernel
theorem dX7_drop_5 : decode cX7_drop 5 = .ok (.invokevirtual 59, 3) := by decide +kernel
theorem dX7_drop_8 : decode cX7_drop 8 = .ok (.ifCond .ne 6, 3) := by decide +kernel
theorem dX7_drop_11 : decode cX7_drop 11 = .ok (.ldc 66, 2) := by decide +kernel
theorem dX7_drop_13 : decode cX7_drop 13 = .ok (.ireturn, 1) := by decide +kernel
theorem dX7_drop_14 : decode cX7_drop 14 = .ok (.aload_n 0, 1) := by decide +kernel
theorem dX7_drop_15 : decode cX7_drop 15 = .ok (.getfield 10, 3) := by decide +kernel
theorem dX7_drop_18 : decode cX7_drop 18 = .ok (.iload_n 1, 1) := by decide +kernel
theorem dX7_drop_19 : decode cX7_drop 19 = .ok (.invokevirtual 78, 3) := by decide +kernel
theorem dX7_drop_22 : decode cX7_drop 22 = .ok (.ifCond .eq 9, 3) := by decide +kernel
theorem dX7_drop_25 : decode cX7_drop 25 = .ok (.aload_n 0, 1) := by decide +kernel
theorem dX7_drop_26 : decode cX7_drop 26 = .ok (.iconst 1, 1) := by decide +kernel
theorem dX7_drop_27 : decode cX7_drop 27 = .ok (.invokevirtual 67, 3) := by decide +kernel
theorem dX7_drop_30 : decode cX7_drop 30 = .ok (.ireturn, 1) := by decide +kernel
theorem dX7_drop_31 : decode cX7_drop 31 = .ok (.aload_n 0, 1) := by decide +kernel
theorem dX7_drop_32 : decode cX7_drop 32 = .ok (.aload_n 0, 1) := by decide +kernel
theorem dX7_drop_33 : decode cX7_drop 33 = .ok (.getfield 10, 3) := by decide +kernel
theorem dX7_drop_36 : decode cX7_drop 36 = .ok (.iload_n 1, 1) := by decide +kernel
theorem dX7_drop_37 : decode cX7_drop 37 = .ok (.invokevirtual 96, 3) := by decide +kernel
theorem dX7_drop_40 : decode cX7_drop 40 = .ok (.invokevirtual 75, 3) := by decide +kernel
theorem dX7_drop_43 : decode cX7_drop 43 = .ok (.ireturn, 1) := by decide +kernel
theorem dX7_feed_0 : decode cX7_feed 0 = .ok (.iload_n 3, 1) := by decide +kernel
theorem dX7_feed_1 : decode cX7_feed 1 = .ok (.iconst 1, 1) := by decide +kernel
theorem dX7_feed_2 : decode cX7_feed 2 = .ok (.if_icmp .lt 9, 3) := by decide +kernel
theorem dX7_feed_5 : decode cX7_feed 5 = .ok (.iload_n 3, 1) := by decide +kernel
theorem dX7_feed_6 : decode cX7_feed 6 = .ok (.bipush 8, 2) := by decide +kernel
theorem dX7_feed_8 : decode cX7_feed 8 = .ok (.if_icmp .le 6, 3) := by decide +kernel
theorem dX7_feed_11 : decode cX7_feed 11 = .ok (.ldc 66, 2) := by decide +kernel
theorem dX7_feed_13 : decode cX7_feed 13 = .ok (.ireturn, 1) := by decide +kernel
theorem dX7_feed_14 : decode cX7_feed 14 = .ok (.aload_n 0, 1) := by decide +kernel
theorem dX7_feed_15 : decode cX7_feed 15 = .ok (.getfield 19, 3) := by decide +kernel
theorem dX7_feed_18 : decode cX7_feed 18 = .ok (.lload_n 1, 1) := by decide +kernel
theorem dX7_feed_19 : decode cX7_feed 19 = .ok (.iload_n 3, 1) := by decide +kernel
theorem dX7_feed_20 : decode cX7_feed 20 = .ok (.invokevirtual 99, 3) := by decide +kernel
theorem dX7_feed_23 : decode cX7_feed 23 = .ok (.ifCond .eq 13, 3) := by decide +kernel
theorem dX7_feed_26 : decode cX7_feed 26 = .ok (.aload_n 0, 1) := by decide +kernel
theorem dX7_feed_27 : decode cX7_feed 27 = .ok (.getfield 19, 3) := by decide +kernel
theorem dX7_feed_30 : decode cX7_feed 30 = .ok (.invokevirtual 103, 3) := by decide +kernel
theorem dX7_feed_33 : decode cX7_feed 33 = .ok (.goto 5, 3) := by decide +kernel
theorem dX7_feed_36 : decode cX7_feed 36 = .ok (.ldc 107, 2) := by decide +kernel
theorem dX7_feed_38 : decode cX7_feed 38 = .ok (.ireturn, 1) := by decide +kernel
theorem dX7_field_0 : decode cX7_field 0 = .ok (.aload_n 0, 1) := by decide +kernel
theorem dX7_field_1 : decode cX7_field 1 = .ok (.getfield 19, 3) := by decide +kernel
theorem dX7_field_4 : decode cX7_field 4 = .ok (.invokevirtual 108, 3) := by decide +kernel
theorem dX7_field_7 : decode cX7_field 7 = .ok (.ifCond .ne 14, 3) := by decide +kernel
theorem dX7_field_10 : decode cX7_field 10 = .ok (.ldc 112, 2) := by decide +kernel
theorem dX7_field_12 : decode cX7_field 12 = .ok (.aload_n 0, 1) := by decide +kernel
theorem dX7_field_13 : decode cX7_field 13 = .ok (.getfield 19, 3) := by decide +kernel
theorem dX7_field_16 : decode cX7_field 16 = .ok (.invokevirtual 113, 3) := by decide +kernel
theorem dX7_field_19 : decode cX7_field 19 = .ok (.isub, 1) := by decide +kernel
theorem dX7_field_20 : decode cX7_field 20 = .ok (.ireturn, 1) := by decide +kernel
theorem dX7_field_21 : decode cX7_field 21 = .ok (.aload_n 0, 1) := by decide +kernel
theorem dX7_field_22 : decode cX7_field 22 = .ok (.getfield 26, 3) := by decide +kernel
theorem dX7_field_25 : decode cX7_field 25 = .ok (.aload_n 0, 1) := by decide +kernel
theorem dX7_field_26 : decode cX7_field 26 = .ok (.getfield 19, 3) := by decide +kernel
theorem dX7_field_29 : decode cX7_field 29 = .ok (.invokevirtual 116, 3) := by decide +kernel
theorem dX7_field_32 : decode cX7_field 32 = .ok (.invokevirtual 120, 3) := by decide +kernel
theorem dX7_field_35 : decode cX7_field 35 = .ok (.aload_n 0, 1) := by decide +kernel
theorem dX7_field_36 : decode cX7_field 36 = .ok (.getfield 37, 3) := by decide +kernel
theorem dX7_field_39 : decode cX7_field 39 = .ok (.invokevirtual 124, 3) := by decide +kernel
theorem dX7_field_42 : decode cX7_field 42 = .ok (.aload_n 0, 1) := by decide +kernel
theorem dX7_field_43 : decode cX7_field 43 = .ok (.getfield 26, 3) := by decide +kernel
theorem dX7_field_46 : decode cX7_field 46 = .ok (.getfield 127, 3) := by decide +kernel
theorem dX7_field_49 : decode cX7_field 49 = .ok (.ireturn, 1) := by decide +kernel
theorem dX7_fault_0 : decode cX7_fault 0 = .ok (.aload_n 0, 1) := by decide +kernel
theorem dX7_fault_1 : decode cX7_fault 1 = .ok (.getfield 19, 3) := by decide +kernel
theorem dX7_fault_4 : decode cX7_fault 4 = .ok (.invokevirtual 130, 3) := by decide +kernel
theorem dX7_fault_7 : decode cX7_fault 7 = .ok (.ireturn, 1) := by decide +kernel
theorem dX7_say_0 : decode cX7_say 0 = .ok (.aload_n 0, 1) := by decide +kernel
theorem dX7_say_1 : decode cX7_say 1 = .ok (.getfield 26, 3) := by decide +kernel
theorem dX7_say_4 : decode cX7_say 4 = .ok (.iload_n 1, 1) := by decide +kernel
theorem dX7_say_5 : decode cX7_say 5 = .ok (.invokevirtual 133, 3) := by decide +kernel
theorem dX7_say_8 : decode cX7_say 8 = .ok (.ifCond .eq 13, 3) := by decide +kernel
theorem dX7_say_11 : decode cX7_say 11 = .ok (.iload_n 2, 1) := by decide +kernel
theorem dX7_say_12 : decode cX7_say 12 = .ok (.ifCond .lt 9, 3) := by decide +kernel
theorem dX7_say_15 : decode cX7_say 15 = .ok (.iload_n 2, 1) := by decide +kernel
theorem dX7_say_16 : decode cX7_say 16 = .ok (.bipush 15, 2) := by decide +kernel
theorem dX7_say_18 : decode cX7_say 18 = .ok (.if_icmp .le 6, 3) := by decide +kernel
theorem dX7_say_21 : decode cX7_say 21 = .ok (.ldc 66, 2) := by decide +kernel
theorem dX7_say_23 : decode cX7_say 23 = .ok (.ireturn, 1) := by decide +kernel
theorem dX7_say_24 : decode cX7_say 24 = .ok (.aload_n 0, 1) := by decide +kernel
theorem dX7_say_25 : decode cX7_say 25 = .ok (.getfield 26, 3) := by decide +kernel
theorem dX7_say_28 : decode cX7_say 28 = .ok (.aload_n 0, 1) := by decide +kernel
theorem dX7_say_29 : decode cX7_say 29 = .ok (.getfield 26, 3) := by decide +kernel
theorem dX7_say_32 : decode cX7_say 32 = .ok (.getfield 136, 3) := by decide +kernel
theorem dX7_say_35 : decode cX7_say 35 = .ok (.iload_n 1, 1) := by decide +kernel
theorem dX7_say_36 : decode cX7_say 36 = .ok (.invokevirtual 139, 3) := by decide +kernel
theorem dX7_say_39 : decode cX7_say 39 = .ok (.ifCond .eq 8, 3) := by decide +kernel
theorem dX7_say_42 : decode cX7_say 42 = .ok (.ldc 143, 2) := by decide +kernel
theorem dX7_say_44 : decode cX7_say 44 = .ok (.goto 9, 3) := by decide +kernel
theorem dX7_say_47 : decode cX7_say 47 = .ok (.aload_n 0, 1) := by decide +kernel
theorem dX7_say_48 : decode cX7_say 48 = .ok (.iload_n 1, 1) := by decide +kernel
theorem dX7_say_49 : decode cX7_say 49 = .ok (.iload_n 2, 1) := by decide +kernel
theorem dX7_say_50 : decode cX7_say 50 = .ok (.invokevirtual 144, 3) := by decide +kernel
theorem dX7_say_53 : decode cX7_say 53 = .ok (.ireturn, 1) := by decide +kernel
theorem dX7_talk_0 : decode cX7_talk 0 = .ok (.aload_n 0, 1) := by decide +kernel
theorem dX7_talk_1 : decode cX7_talk 1 = .ok (.getfield 26, 3) := by decide +kernel
theorem dX7_talk_4 : decode cX7_talk 4 = .ok (.invokevirtual 148, 3) := by decide +kernel
theorem dX7_talk_7 : decode cX7_talk 7 = .ok (.ifCond .ne 6, 3) := by decide +kernel
theorem dX7_talk_10 : decode cX7_talk 10 = .ok (.ldc 143, 2) := by decide +kernel
theorem dX7_talk_12 : decode cX7_talk 12 = .ok (.ireturn, 1) := by decide +kernel
theorem dX7_talk_13 : decode cX7_talk 13 = .ok (.aload_n 0, 1) := by decide +kernel
theorem dX7_talk_14 : decode cX7_talk 14 = .ok (.getfield 10, 3) := by decide +kernel
theorem dX7_talk_17 : decode cX7_talk 17 = .ok (.iload_n 1, 1) := by decide +kernel
theorem dX7_talk_18 : decode cX7_talk 18 = .ok (.invokevirtual 59, 3) := by decide +kernel
theorem dX7_talk_21 : decode cX7_talk 21 = .ok (.ifCond .eq 14, 3) := by decide +kernel
theorem dX7_talk_24 : decode cX7_talk 24 = .ok (.iload_n 3, 1) := by decide +kernel
theorem dX7_talk_25 : decode cX7_talk 25 = .ok (.iconst 1, 1) := by decide +kernel
theorem dX7_talk_26 : decode cX7_talk 26 = .ok (.if_icmp .lt 9, 3) := by decide +kernel
theorem dX7_talk_29 : decode cX7_talk 29 = .ok (.iload_n 3, 1) := by decide +kernel
theorem dX7_talk_30 : decode cX7_talk 30 = .ok (.bipush 20, 2) := by decide +kernel
theorem dX7_talk_32 : decode cX7_talk 32 = .ok (.if_icmp .le 6, 3) := by decide +kernel
theorem dX7_talk_35 : decode cX7_talk 35 = .ok (.ldc 66, 2) := by decide +kernel
theorem dX7_talk_37 : decode cX7_talk 37 = .ok (.ireturn, 1) := by decide +kernel
theorem dX7_talk_38 : decode cX7_talk 38 = .ok (.aload_n 0, 1) := by decide +kernel
theorem dX7_talk_39 : decode cX7_talk 39 = .ok (.getfield 10, 3) := by decide +kernel
theorem dX7_talk_42 : decode cX7_talk 42 = .ok (.iload_n 1, 1) := by decide +kernel
theorem dX7_talk_43 : decode cX7_talk 43 = .ok (.invokevirtual 78, 3) := by decide +kernel
theorem dX7_talk_46 : decode cX7_talk 46 = .ok (.ifCond .eq 9, 3) := by decide +kernel
theorem dX7_talk_49 : decode cX7_talk 49 = .ok (.aload_n 0, 1) := by decide +kernel
theorem dX7_talk_50 : decode cX7_talk 50 = .ok (.iconst 1, 1) := by decide +kernel
theorem dX7_talk_51 : decode cX7_talk 51 = .ok (.invokevirtual 67, 3) := by decide +kernel
theorem dX7_talk_54 : decode cX7_talk 54 = .ok (.ireturn, 1) := by decide +kernel
theorem dX7_talk_55 : decode cX7_talk 55 = .ok (.aload_n 0, 1) := by decide +kernel
theorem dX7_talk_56 : decode cX7_talk 56 = .ok (.getfield 10, 3) := by decide +kernel
theorem dX7_talk_59 : decode cX7_talk 59 = .ok (.iload_n 1, 1) := by decide +kernel
theorem dX7_talk_60 : decode cX7_talk 60 = .ok (.iload_n 2, 1) := by decide +kernel
theorem dX7_talk_61 : decode cX7_talk 61 = .ok (.iload_n 3, 1) := by decide +kernel
theorem dX7_talk_62 : decode cX7_talk 62 = .ok (.invokevirtual 81, 3) := by decide +kernel
theorem dX7_talk_65 : decode cX7_talk 65 = .ok (.ifCond .ne 9, 3) := by decide +kernel
theorem dX7_talk_68 : decode cX7_talk 68 = .ok (.aload_n 0, 1) := by decide +kernel
theorem dX7_talk_69 : decode cX7_talk 69 = .ok (.iconst 2, 1) := by decide +kernel
theorem dX7_talk_70 : decode cX7_talk 70 = .ok (.invokevirtual 67, 3) := by decide +kernel
theorem dX7_talk_73 : decode cX7_talk 73 = .ok (.ireturn, 1) := by decide +kernel
theorem dX7_talk_74 : decode cX7_talk 74 = .ok (.aload_n 0, 1) := by decide +kernel
theorem dX7_talk_75 : decode cX7_talk 75 = .ok (.iload_n 1, 1) := by decide +kernel
theorem dX7_talk_76 : decode cX7_talk 76 = .ok (.iload_n 2, 1) := by decide +kernel
theorem dX7_talk_77 : decode cX7_talk 77 = .ok (.iload_n 3, 1) := by decide +kernel
theorem dX7_talk_78 : decode cX7_talk 78 = .ok (.invokevirtual 151, 3) := by decide +kernel
theorem dX7_talk_81 : decode cX7_talk 81 = .ok (.ifCond .eq 17, 3) := by decide +kernel
theorem dX7_talk_84 : decode cX7_talk 84 = .ok (.aload_n 0, 1) := by decide +kernel
theorem dX7_talk_85 : decode cX7_talk 85 = .ok (.aload_n 0, 1) := by decide +kernel
theorem dX7_talk_86 : decode cX7_talk 86 = .ok (.iload_n 1, 1) := by decide +kernel
theorem dX7_talk_87 : decode cX7_talk 87 = .ok (.iload_n 2, 1) := by decide +kernel
theorem dX7_talk_88 : decode cX7_talk 88 = .ok (.iload_n 3, 1) := by decide +kernel
theorem dX7_talk_89 : decode cX7_talk 89 = .ok (.invokevirtual 154, 3) := by decide +kernel
theorem dX7_talk_92 : decode cX7_talk 92 = .ok (.invokevirtual 75, 3) := by decide +kernel
theorem dX7_talk_95 : decode cX7_talk 95 = .ok (.goto 5, 3) := by decide +kernel
theorem dX7_talk_98 : decode cX7_talk 98 = .ok (.ldc 66, 2) := by decide +kernel
theorem dX7_talk_100 : decode cX7_talk 100 = .ok (.ireturn, 1) := by decide +kernel
theorem dX7_undo_0 : decode cX7_undo 0 = .ok (.aload_n 0, 1) := by decide +kernel
theorem dX7_undo_1 : decode cX7_undo 1 = .ok (.getfield 37, 3) := by decide +kernel
theorem dX7_undo_4 : decode cX7_undo 4 = .ok (.invokevirtual 157, 3) := by decide +kernel
theorem dX7_undo_7 : decode cX7_undo 7 = .ok (.ifCond .ne 6, 3) := by decide +kernel
theorem dX7_undo_10 : decode cX7_undo 10 = .ok (.ldc 143, 2) := by decide +kernel
theorem dX7_undo_12 : decode cX7_undo 12 = .ok (.ireturn, 1) := by decide +kernel
theorem dX7_undo_13 : decode cX7_undo 13 = .ok (.aload_n 0, 1) := by decide +kernel
theorem dX7_undo_14 : decode cX7_undo 14 = .ok (.getfield 37, 3) := by decide +kernel
theorem dX7_undo_17 : decode cX7_undo 17 = .ok (.aload_n 0, 1) := by decide +kernel
theorem dX7_undo_18 : decode cX7_undo 18 = .ok (.getfield 26, 3) := by decide +kernel
theorem dX7_undo_21 : decode cX7_undo 21 = .ok (.invokevirtual 160, 3) := by decide +kernel
theorem dX7_undo_24 : decode cX7_undo 24 = .ok (.aload_n 0, 1) := by decide +kernel
theorem dX7_undo_25 : decode cX7_undo 25 = .ok (.getfield 37, 3) := by decide +kernel
theorem dX7_undo_28 : decode cX7_undo 28 = .ok (.invokevirtual 157, 3) := by decide +kernel
theorem dX7_undo_31 : decode cX7_undo 31 = .ok (.ireturn, 1) := by decide +kernel
theorem dX7_house_0 : decode cX7_house 0 = .ok (.aload_n 0, 1) := by decide +kernel
theorem dX7_house_1 : decode cX7_house 1 = .ok (.getfield 26, 3) := by decide +kernel
theorem dX7_house_4 : decode cX7_house 4 = .ok (.iload_n 1, 1) := by decide +kernel
theorem dX7_house_5 : decode cX7_house 5 = .ok (.invokevirtual 133, 3) := by decide +kernel
theorem dX7_house_8 : decode cX7_house 8 = .ok (.ifCond .ne 6, 3) := by decide +kernel
theorem dX7_house_11 : decode cX7_house 11 = .ok (.ldc 66, 2) := by decide +kernel
theorem dX7_house_13 : decode cX7_house 13 = .ok (.ireturn, 1) := by decide +kernel
theorem dX7_house_14 : decode cX7_house 14 = .ok (.iload_n 2, 1) := by decide +kernel
theorem dX7_house_15 : decode cX7_house 15 = .ok (.tableswitch 172 0 8 #[49, 65, 75, 85, 95, 119, 136, 153, 162], 49) := by decide +kernel
theorem dX7_house_64 : decode cX7_house 64 = .ok (.aload_n 0, 1) := by decide +kernel
theorem dX7_house_65 : decode cX7_house 65 = .ok (.getfield 26, 3) := by decide +kernel
theorem dX7_house_68 : decode cX7_house 68 = .ok (.aload_n 0, 1) := by decide +kernel
theorem dX7_house_69 : decode cX7_house 69 = .ok (.getfield 26, 3) := by decide +kernel
theorem dX7_house_72 : decode cX7_house 72 = .ok (.getfield 136, 3) := by decide +kernel
theorem dX7_house_75 : decode cX7_house 75 = .ok (.iload_n 1, 1) := by decide +kernel
theorem dX7_house_76 : decode cX7_house 76 = .ok (.invokevirtual 163, 3) := by decide +kernel
theorem dX7_house_79 : decode cX7_house 79 = .ok (.ireturn, 1) := by decide +kernel
theorem dX7_house_80 : decode cX7_house 80 = .ok (.aload_n 0, 1) := by decide +kernel
theorem dX7_house_81 : decode cX7_house 81 = .ok (.getfield 26, 3) := by decide +kernel
theorem dX7_house_84 : decode cX7_house 84 = .ok (.getfield 166, 3) := by decide +kernel
theorem dX7_house_87 : decode cX7_house 87 = .ok (.iload_n 1, 1) := by decide +kernel
theorem dX7_house_88 : decode cX7_house 88 = .ok (.iaload, 1) := by decide +kernel
theorem dX7_house_89 : decode cX7_house 89 = .ok (.ireturn, 1) := by decide +kernel
theorem dX7_house_90 : decode cX7_house 90 = .ok (.aload_n 0, 1) := by decide +kernel
theorem dX7_house_91 : decode cX7_house 91 = .ok (.getfield 26, 3) := by decide +kernel
theorem dX7_house_94 : decode cX7_house 94 = .ok (.getfield 170, 3) := by decide +kernel
theorem dX7_house_97 : decode cX7_house 97 = .ok (.iload_n 1, 1) := by decide +kernel
theorem dX7_house_98 : decode cX7_house 98 = .ok (.iaload, 1) := by decide +kernel
theorem dX7_house_99 : decode cX7_house 99 = .ok (.ireturn, 1) := by decide +kernel
theorem dX7_house_100 : decode cX7_house 100 = .ok (.aload_n 0, 1) := by decide +kernel
theorem dX7_house_101 : decode cX7_house 101 = .ok (.getfield 26, 3) := by decide +kernel
theorem dX7_house_104 : decode cX7_house 104 = .ok (.getfield 173, 3) := by decide +kernel
theorem dX7_house_107 : decode cX7_house 107 = .ok (.iload_n 1, 1) := by decide +kernel
theorem dX7_house_108 : decode cX7_house 108 = .ok (.iaload, 1) := by decide +kernel
theorem dX7_house_109 : decode cX7_house 109 = .ok (.ireturn, 1) := by decide +kernel
theorem dX7_house_110 : decode cX7_house 110 = .ok (.aload_n 0, 1) := by decide +kernel
theorem dX7_house_111 : decode cX7_house 111 = .ok (.getfield 26, 3) := by decide +kernel
theorem dX7_house_114 : decode cX7_house 114 = .ok (.aload_n 0, 1) := by decide +kernel
theorem dX7_house_115 : decode cX7_house 115 = .ok (.getfield 26, 3) := by decide +kernel
theorem dX7_house_118 : decode cX7_house 118 = .ok (.getfield 136, 3) := by decide +kernel
theorem dX7_house_121 : decode cX7_house 121 = .ok (.iload_n 1, 1) := by decide +kernel
theorem dX7_house_122 : decode cX7_house 122 = .ok (.invokevirtual 139, 3) := by decide +kernel
theorem dX7_house_125 : decode cX7_house 125 = .ok (.ifCond .eq 7, 3) := by decide +kernel
theorem dX7_house_128 : decode cX7_house 128 = .ok (.iconst 1, 1) := by decide +kernel
theorem dX7_house_129 : decode cX7_house 129 = .ok (.goto 4, 3) := by decide +kernel
theorem dX7_house_132 : decode cX7_house 132 = .ok (.iconst 0, 1) := by decide +kernel
theorem dX7_house_133 : decode cX7_house 133 = .ok (.ireturn, 1) := by decide +kernel
theorem dX7_house_134 : decode cX7_house 134 = .ok (.aload_n 0, 1) := by decide +kernel
theorem dX7_house_135 : decode cX7_house 135 = .ok (.getfield 26, 3) := by decide +kernel
theorem dX7_house_138 : decode cX7_house 138 = .ok (.iload_n 1, 1) := by decide +kernel
theorem dX7_house_139 : decode cX7_house 139 = .ok (.invokevirtual 176, 3) := by decide +kernel
theorem dX7_house_142 : decode cX7_house 142 = .ok (.ifCond .eq 7, 3) := by decide +kernel
theorem dX7_house_145 : decode cX7_house 145 = .ok (.iconst 1, 1) := by decide +kernel
theorem dX7_house_146 : decode cX7_house 146 = .ok (.goto 4, 3) := by decide +kernel
theorem dX7_house_149 : decode cX7_house 149 = .ok (.iconst 0, 1) := by decide +kernel
theorem dX7_house_150 : decode cX7_house 150 = .ok (.ireturn, 1) := by decide +kernel
theorem dX7_house_151 : decode cX7_house 151 = .ok (.aload_n 0, 1) := by decide +kernel
theorem dX7_house_152 : decode cX7_house 152 = .ok (.getfield 26, 3) := by decide +kernel
theorem dX7_house_155 : decode cX7_house 155 = .ok (.iload_n 1, 1) := by decide +kernel
theorem dX7_house_156 : decode cX7_house 156 = .ok (.invokevirtual 179, 3) := by decide +kernel
theorem dX7_house_159 : decode cX7_house 159 = .ok (.ifCond .eq 7, 3) := by decide +kernel
theorem dX7_house_162 : decode cX7_house 162 = .ok (.iconst 1, 1) := by decide +kernel
theorem dX7_house_163 : decode cX7_house 163 = .ok (.goto 4, 3) := by decide +kernel
theorem dX7_house_166 : decode cX7_house 166 = .ok (.iconst 0, 1) := by decide +kernel
theorem dX7_house_167 : decode cX7_house 167 = .ok (.ireturn, 1) := by decide +kernel
theorem dX7_house_168 : decode cX7_house 168 = .ok (.aload_n 0, 1) := by decide +kernel
theorem dX7_house_169 : decode cX7_house 169 = .ok (.getfield 26, 3) := by decide +kernel
theorem dX7_house_172 : decode cX7_house 172 = .ok (.iload_n 1, 1) := by decide +kernel
theorem dX7_house_173 : decode cX7_house 173 = .ok (.invokevirtual 182, 3) := by decide +kernel
theorem dX7_house_176 : decode cX7_house 176 = .ok (.ireturn, 1) := by decide +kernel
theorem dX7_house_177 : decode cX7_house 177 = .ok (.aload_n 0, 1) := by decide +kernel
theorem dX7_house_178 : decode cX7_house 178 = .ok (.getfield 26, 3) := by decide +kernel
theorem dX7_house_181 : decode cX7_house 181 = .ok (.getfield 185, 3) := by decide +kernel
theorem dX7_house_184 : decode cX7_house 184 = .ok (.iload_n 1, 1) := by decide +kernel
theorem dX7_house_185 : decode cX7_house 185 = .ok (.iaload, 1) := by decide +kernel
theorem dX7_house_186 : decode cX7_house 186 = .ok (.ireturn, 1) := by decide +kernel
theorem dX7_house_187 : decode cX7_house 187 = .ok (.ldc 66, 2) := by decide +kernel
theorem dX7_house_189 : decode cX7_house 189 = .ok (.ireturn, 1) := by decide +kernel
theorem dX7_cell_0 : decode cX7_cell 0 = .ok (.aload_n 0, 1) := by decide +kernel
theorem dX7_cell_1 : decode cX7_cell 1 = .ok (.getfield 26, 3) := by decide +kernel
theorem dX7_cell_4 : decode cX7_cell 4 = .ok (.invokevirtual 148, 3) := by decide +kernel
theorem dX7_cell_7 : decode cX7_cell 7 = .ok (.ifCond .ne 6, 3) := by decide +kernel
theorem dX7_cell_10 : decode cX7_cell 10 = .ok (.ldc 143, 2) := by decide +kernel
theorem dX7_cell_12 : decode cX7_cell 12 = .ok (.ireturn, 1) := by decide +kernel
theorem dX7_cell_13 : decode cX7_cell 13 = .ok (.iload_n 1, 1) := by decide +kernel
theorem dX7_cell_14 : decode cX7_cell 14 = .ok (.ifCond .lt 10, 3) := by decide +kernel
theorem dX7_cell_17 : decode cX7_cell 17 = .ok (.iload_n 1, 1) := by decide +kernel
theorem dX7_cell_18 : decode cX7_cell 18 = .ok (.sipush 128, 3) := by decide +kernel
theorem dX7_cell_21 : decode cX7_cell 21 = .ok (.if_icmp .lt 6, 3) := by decide +kernel
theorem dX7_cell_24 : decode cX7_cell 24 = .ok (.ldc 66, 2) := by decide +kernel
theorem dX7_cell_26 : decode cX7_cell 26 = .ok (.ireturn, 1) := by decide +kernel
theorem dX7_cell_27 : decode cX7_cell 27 = .ok (.aload_n 0, 1) := by decide +kernel
theorem dX7_cell_28 : decode cX7_cell 28 = .ok (.getfield 26, 3) := by decide +kernel
theorem dX7_cell_31 : decode cX7_cell 31 = .ok (.iload_n 1, 1) := by decide +kernel
theorem dX7_cell_32 : decode cX7_cell 32 = .ok (.bipush 16, 2) := by decide +kernel
theorem dX7_cell_34 : decode cX7_cell 34 = .ok (.irem, 1) := by decide +kernel
theorem dX7_cell_35 : decode cX7_cell 35 = .ok (.iload_n 1, 1) := by decide +kernel
theorem dX7_cell_36 : decode cX7_cell 36 = .ok (.bipush 16, 2) := by decide +kernel
theorem dX7_cell_38 : decode cX7_cell 38 = .ok (.idiv, 1) := by decide +kernel
theorem dX7_cell_39 : decode cX7_cell 39 = .ok (.invokevirtual 188, 3) := by decide +kernel
theorem dX7_cell_42 : decode cX7_cell 42 = .ok (.ireturn, 1) := by decide +kernel
theorem dX7_lies_0 : decode cX7_lies 0 = .ok (.aload_n 0, 1) := by decide +kernel
theorem dX7_lies_1 : decode cX7_lies 1 = .ok (.iload_n 1, 1) := by decide +kernel
theorem dX7_lies_2 : decode cX7_lies 2 = .ok (.iload_n 2, 1) := by decide +kernel
theorem dX7_lies_3 : decode cX7_lies 3 = .ok (.iload_n 3, 1) := by decide +kernel
theorem dX7_lies_4 : decode cX7_lies 4 = .ok (.iload 4, 2) := by decide +kernel
theorem dX7_lies_6 : decode cX7_lies 6 = .ok (.iconst (-1), 1) := by decide +kernel
theorem dX7_lies_7 : decode cX7_lies 7 = .ok (.if_icmp .lt 7, 3) := by decide +kernel
theorem dX7_lies_10 : decode cX7_lies 10 = .ok (.iconst 1, 1) := by decide +kernel
theorem dX7_lies_11 : decode cX7_lies 11 = .ok (.goto 4, 3) := by decide +kernel
theorem dX7_lies_14 : decode cX7_lies 14 = .ok (.iconst 0, 1) := by decide +kernel
theorem dX7_lies_15 : decode cX7_lies 15 = .ok (.invokevirtual 191, 3) := by decide +kernel
theorem dX7_lies_18 : decode cX7_lies 18 = .ok (.istore 5, 2) := by decide +kernel
theorem dX7_lies_20 : decode cX7_lies 20 = .ok (.iload 5, 2) := by decide +kernel
theorem dX7_lies_22 : decode cX7_lies 22 = .ok (.ifCond .eq 6, 3) := by decide +kernel
theorem dX7_lies_25 : decode cX7_lies 25 = .ok (.iload 5, 2) := by decide +kernel
theorem dX7_lies_27 : decode cX7_lies 27 = .ok (.ireturn, 1) := by decide +kernel
theorem dX7_lies_28 : decode cX7_lies 28 = .ok (.aload_n 0, 1) := by decide +kernel
theorem dX7_lies_29 : decode cX7_lies 29 = .ok (.iload_n 1, 1) := by decide +kernel
theorem dX7_lies_30 : decode cX7_lies 30 = .ok (.iload_n 2, 1) := by decide +kernel
theorem dX7_lies_31 : decode cX7_lies 31 = .ok (.iload_n 3, 1) := by decide +kernel
theorem dX7_lies_32 : decode cX7_lies 32 = .ok (.invokevirtual 195, 3) := by decide +kernel
theorem dX7_lies_35 : decode cX7_lies 35 = .ok (.iload 4, 2) := by decide +kernel
theorem dX7_lies_37 : decode cX7_lies 37 = .ok (.iconst (-1), 1) := by decide +kernel
theorem dX7_lies_38 : decode cX7_lies 38 = .ok (.if_icmp .ne 13, 3) := by decide +kernel
theorem dX7_lies_41 : decode cX7_lies 41 = .ok (.aload_n 0, 1) := by decide +kernel
theorem dX7_lies_42 : decode cX7_lies 42 = .ok (.getfield 44, 3) := by decide +kernel
theorem dX7_lies_45 : decode cX7_lies 45 = .ok (.invokevirtual 198, 3) := by decide +kernel
theorem dX7_lies_48 : decode cX7_lies 48 = .ok (.goto 12, 3) := by decide +kernel
theorem dX7_lies_51 : decode cX7_lies 51 = .ok (.aload_n 0, 1) := by decide +kernel
theorem dX7_lies_52 : decode cX7_lies 52 = .ok (.getfield 44, 3) := by decide +kernel
theorem dX7_lies_55 : decode cX7_lies 55 = .ok (.iload 4, 2) := by decide +kernel
theorem dX7_lies_57 : decode cX7_lies 57 = .ok (.invokevirtual 201, 3) := by decide +kernel
theorem dX7_lies_60 : decode cX7_lies 60 = .ok (.ireturn, 1) := by decide +kernel
theorem dX7_guess_0 : decode cX7_guess 0 = .ok (.aload_n 0, 1) := by decide +kernel
theorem dX7_guess_1 : decode cX7_guess 1 = .ok (.iload_n 1, 1) := by decide +kernel
theorem dX7_guess_2 : decode cX7_guess 2 = .ok (.iload_n 2, 1) := by decide +kernel
theorem dX7_guess_3 : decode cX7_guess 3 = .ok (.iload_n 3, 1) := by decide +kernel
theorem dX7_guess_4 : decode cX7_guess 4 = .ok (.iload 4, 2) := by decide +kernel
theorem dX7_guess_6 : decode cX7_guess 6 = .ok (.ifCond .lt 13, 3) := by decide +kernel
theorem dX7_guess_9 : decode cX7_guess 9 = .ok (.iload 4, 2) := by decide +kernel
theorem dX7_guess_11 : decode cX7_guess 11 = .ok (.iconst 2, 1) := by decide +kernel
theorem dX7_guess_12 : decode cX7_guess 12 = .ok (.if_icmp .gt 7, 3) := by decide +kernel
theorem dX7_guess_15 : decode cX7_guess 15 = .ok (.iconst 1, 1) := by decide +kernel
theorem dX7_guess_16 : decode cX7_guess 16 = .ok (.goto 4, 3) := by decide +kernel
theorem dX7_guess_19 : decode cX7_guess 19 = .ok (.iconst 0, 1) := by decide +kernel
theorem dX7_guess_20 : decode cX7_guess 20 = .ok (.invokevirtual 191, 3) := by decide +kernel
theorem dX7_guess_23 : decode cX7_guess 23 = .ok (.istore 5, 2) := by decide +kernel
theorem dX7_guess_25 : decode cX7_guess 25 = .ok (.iload 5, 2) := by decide +kernel
theorem dX7_guess_27 : decode cX7_guess 27 = .ok (.ifCond .eq 6, 3) := by decide +kernel
theorem dX7_guess_30 : decode cX7_guess 30 = .ok (.iload 5, 2) := by decide +kernel
theorem dX7_guess_32 : decode cX7_guess 32 = .ok (.ireturn, 1) := by decide +kernel
theorem dX7_guess_33 : decode cX7_guess 33 = .ok (.aload_n 0, 1) := by decide +kernel
theorem dX7_guess_34 : decode cX7_guess 34 = .ok (.iload_n 1, 1) := by decide +kernel
theorem dX7_guess_35 : decode cX7_guess 35 = .ok (.iload_n 2, 1) := by decide +kernel
theorem dX7_guess_36 : decode cX7_guess 36 = .ok (.iload_n 3, 1) := by decide +kernel
theorem dX7_guess_37 : decode cX7_guess 37 = .ok (.invokevirtual 195, 3) := by decide +kernel
theorem dX7_guess_40 : decode cX7_guess 40 = .ok (.iload 4, 2) := by decide +kernel
theorem dX7_guess_42 : decode cX7_guess 42 = .ok (.ifCond .ne 11, 3) := by decide +kernel
theorem dX7_guess_45 : decode cX7_guess 45 = .ok (.aload_n 0, 1) := by decide +kernel
theorem dX7_guess_46 : decode cX7_guess 46 = .ok (.getfield 44, 3) := by decide +kernel
theorem dX7_guess_49 : decode cX7_guess 49 = .ok (.invokevirtual 204, 3) := by decide +kernel
theorem dX7_guess_52 : decode cX7_guess 52 = .ok (.ireturn, 1) := by decide +kernel
theorem dX7_guess_53 : decode cX7_guess 53 = .ok (.iload 4, 2) := by decide +kernel
theorem dX7_guess_55 : decode cX7_guess 55 = .ok (.iconst 1, 1) := by decide +kernel
theorem dX7_guess_56 : decode cX7_guess 56 = .ok (.if_icmp .ne 13, 3) := by decide +kernel
theorem dX7_guess_59 : decode cX7_guess 59 = .ok (.aload_n 0, 1) := by decide +kernel
theorem dX7_guess_60 : decode cX7_guess 60 = .ok (.getfield 44, 3) := by decide +kernel
theorem dX7_guess_63 : decode cX7_guess 63 = .ok (.invokevirtual 207, 3) := by decide +kernel
theorem dX7_guess_66 : decode cX7_guess 66 = .ok (.goto 11, 3) := by decide +kernel
theorem dX7_guess_69 : decode cX7_guess 69 = .ok (.aload_n 0, 1) := by decide +kernel
theorem dX7_guess_70 : decode cX7_guess 70 = .ok (.getfield 44, 3) := by decide +kernel
theorem dX7_guess_73 : decode cX7_guess 73 = .ok (.iload_n 2, 1) := by decide +kernel
theorem dX7_guess_74 : decode cX7_guess 74 = .ok (.invokevirtual 210, 3) := by decide +kernel
theorem dX7_guess_77 : decode cX7_guess 77 = .ok (.ireturn, 1) := by decide +kernel
theorem dX7_wanted_0 : decode cX7_wanted 0 = .ok (.aload_n 0, 1) := by decide +kernel
theorem dX7_wanted_1 : decode cX7_wanted 1 = .ok (.getfield 26, 3) := by decide +kernel
theorem dX7_wanted_4 : decode cX7_wanted 4 = .ok (.iload_n 1, 1) := by decide +kernel
theorem dX7_wanted_5 : decode cX7_wanted 5 = .ok (.invokevirtual 133, 3) := by decide +kernel
theorem dX7_wanted_8 : decode cX7_wanted 8 = .ok (.ifCond .eq 18, 3) := by decide +kernel
theorem dX7_wanted_11 : decode cX7_wanted 11 = .ok (.iload_n 2, 1) := by decide +kernel
theorem dX7_wanted_12 : decode cX7_wanted 12 = .ok (.ifCond .lt 14, 3) := by decide +kernel
theorem dX7_wanted_15 : decode cX7_wanted 15 = .ok (.iload_n 2, 1) := by decide +kernel
theorem dX7_wanted_16 : decode cX7_wanted 16 = .ok (.bipush 16, 2) := by decide +kernel
theorem dX7_wanted_18 : decode cX7_wanted 18 = .ok (.if_icmp .ge 8, 3) := by decide +kernel
theorem dX7_wanted_21 : decode cX7_wanted 21 = .ok (.iload_n 3, 1) := by decide +kernel
theorem dX7_wanted_22 : decode cX7_wanted 22 = .ok (.iconst (-1), 1) := by decide +kernel
theorem dX7_wanted_23 : decode cX7_wanted 23 = .ok (.if_icmp .ge 6, 3) := by decide +kernel
theorem dX7_wanted_26 : decode cX7_wanted 26 = .ok (.ldc 66, 2) := by decide +kernel
theorem dX7_wanted_28 : decode cX7_wanted 28 = .ok (.ireturn, 1) := by decide +kernel
theorem dX7_wanted_29 : decode cX7_wanted 29 = .ok (.aload_n 0, 1) := by decide +kernel
theorem dX7_wanted_30 : decode cX7_wanted 30 = .ok (.getfield 44, 3) := by decide +kernel
theorem dX7_wanted_33 : decode cX7_wanted 33 = .ok (.aload_n 0, 1) := by decide +kernel
theorem dX7_wanted_34 : decode cX7_wanted 34 = .ok (.getfield 26, 3) := by decide +kernel
theorem dX7_wanted_37 : decode cX7_wanted 37 = .ok (.iload_n 1, 1) := by decide +kernel
theorem dX7_wanted_38 : decode cX7_wanted 38 = .ok (.iload_n 2, 1) := by decide +kernel
theorem dX7_wanted_39 : decode cX7_wanted 39 = .ok (.invokevirtual 213, 3) := by decide +kernel
theorem dX7_wanted_42 : decode cX7_wanted 42 = .ok (.istore 4, 2) := by decide +kernel
theorem dX7_wanted_44 : decode cX7_wanted 44 = .ok (.iload_n 3, 1) := by decide +kernel
theorem dX7_wanted_45 : decode cX7_wanted 45 = .ok (.iconst (-1), 1) := by decide +kernel
theorem dX7_wanted_46 : decode cX7_wanted 46 = .ok (.if_icmp .ne 8, 3) := by decide +kernel
theorem dX7_wanted_49 : decode cX7_wanted 49 = .ok (.iload 4, 2) := by decide +kernel
theorem dX7_wanted_51 : decode cX7_wanted 51 = .ok (.goto 13, 3) := by decide +kernel
theorem dX7_wanted_54 : decode cX7_wanted 54 = .ok (.aload_n 0, 1) := by decide +kernel
theorem dX7_wanted_55 : decode cX7_wanted 55 = .ok (.getfield 44, 3) := by decide +kernel
theorem dX7_wanted_58 : decode cX7_wanted 58 = .ok (.iload_n 3, 1) := by decide +kernel
theorem dX7_wanted_59 : decode cX7_wanted 59 = .ok (.iload 4, 2) := by decide +kernel
theorem dX7_wanted_61 : decode cX7_wanted 61 = .ok (.invokevirtual 217, 3) := by decide +kernel
theorem dX7_wanted_64 : decode cX7_wanted 64 = .ok (.ireturn, 1) := by decide +kernel
theorem dX7_brook_0 : decode cX7_brook 0 = .ok (.aload_n 0, 1) := by decide +kernel
theorem dX7_brook_1 : decode cX7_brook 1 = .ok (.getfield 26, 3) := by decide +kernel
theorem dX7_brook_4 : decode cX7_brook 4 = .ok (.iload_n 1, 1) := by decide +kernel
theorem dX7_brook_5 : decode cX7_brook 5 = .ok (.invokevirtual 133, 3) := by decide +kernel
theorem dX7_brook_8 : decode cX7_brook 8 = .ok (.ifCond .eq 18, 3) := by decide +kernel
theorem dX7_brook_11 : decode cX7_brook 11 = .ok (.aload_n 0, 1) := by decide +kernel
theorem dX7_brook_12 : decode cX7_brook 12 = .ok (.getfield 44, 3) := by decide +kernel
theorem dX7_brook_15 : decode cX7_brook 15 = .ok (.aload_n 0, 1) := by decide +kernel
theorem dX7_brook_16 : decode cX7_brook 16 = .ok (.getfield 26, 3) := by decide +kernel
theorem dX7_brook_19 : decode cX7_brook 19 = .ok (.iload_n 1, 1) := by decide +kernel
theorem dX7_brook_20 : decode cX7_brook 20 = .ok (.invokevirtual 220, 3) := by decide +kernel
theorem dX7_brook_23 : decode cX7_brook 23 = .ok (.goto 5, 3) := by decide +kernel
theorem dX7_brook_26 : decode cX7_brook 26 = .ok (.ldc 66, 2) := by decide +kernel
theorem dX7_brook_28 : decode cX7_brook 28 = .ok (.ireturn, 1) := by decide +kernel
theorem dX7_image_0 : decode cX7_image 0 = .ok (.iload_n 1, 1) := by decide +kernel
theorem dX7_image_1 : decode cX7_image 1 = .ok (.ifCond .lt 8, 3) := by decide +kernel
theorem dX7_image_4 : decode cX7_image 4 = .ok (.iload_n 1, 1) := by decide +kernel
theorem dX7_image_5 : decode cX7_image 5 = .ok (.iconst 2, 1) := by decide +kernel
theorem dX7_image_6 : decode cX7_image 6 = .ok (.if_icmp .lt 6, 3) := by decide +kernel
theorem dX7_image_9 : decode cX7_image 9 = .ok (.ldc 66, 2) := by decide +kernel
theorem dX7_image_11 : decode cX7_image 11 = .ok (.ireturn, 1) := by decide +kernel
theorem dX7_image_12 : decode cX7_image 12 = .ok (.aload_n 0, 1) := by decide +kernel
theorem dX7_image_13 : decode cX7_image 13 = .ok (.getfield 26, 3) := by decide +kernel
theorem dX7_image_16 : decode cX7_image 16 = .ok (.invokevirtual 148, 3) := by decide +kernel
theorem dX7_image_19 : decode cX7_image 19 = .ok (.ifCond .ne 6, 3) := by decide +kernel
theorem dX7_image_22 : decode cX7_image 22 = .ok (.ldc 143, 2) := by decide +kernel
theorem dX7_image_24 : decode cX7_image 24 = .ok (.ireturn, 1) := by decide +kernel
theorem dX7_image_25 : decode cX7_image 25 = .ok (.aload_n 0, 1) := by decide +kernel
theorem dX7_image_26 : decode cX7_image 26 = .ok (.getfield 30, 3) := by decide +kernel
theorem dX7_image_29 : decode cX7_image 29 = .ok (.iload_n 1, 1) := by decide +kernel
theorem dX7_image_30 : decode cX7_image 30 = .ok (.aaload, 1) := by decide +kernel
theorem dX7_image_31 : decode cX7_image 31 = .ok (.aload_n 0, 1) := by decide +kernel
theorem dX7_image_32 : decode cX7_image 32 = .ok (.getfield 26, 3) := by decide +kernel
theorem dX7_image_35 : decode cX7_image 35 = .ok (.invokevirtual 120, 3) := by decide +kernel
theorem dX7_image_38 : decode cX7_image 38 = .ok (.iconst 1, 1) := by decide +kernel
theorem dX7_image_39 : decode cX7_image 39 = .ok (.ireturn, 1) := by decide +kernel
theorem dX7_restore_0 : decode cX7_restore 0 = .ok (.iload_n 1, 1) := by decide +kernel
theorem dX7_restore_1 : decode cX7_restore 1 = .ok (.ifCond .lt 8, 3) := by decide +kernel
theorem dX7_restore_4 : decode cX7_restore 4 = .ok (.iload_n 1, 1) := by decide +kernel
theorem dX7_restore_5 : decode cX7_restore 5 = .ok (.iconst 2, 1) := by decide +kernel
theorem dX7_restore_6 : decode cX7_restore 6 = .ok (.if_icmp .lt 6, 3) := by decide +kernel
theorem dX7_restore_9 : decode cX7_restore 9 = .ok (.ldc 66, 2) := by decide +kernel
theorem dX7_restore_11 : decode cX7_restore 11 = .ok (.ireturn, 1) := by decide +kernel
theorem dX7_restore_12 : decode cX7_restore 12 = .ok (.aload_n 0, 1) := by decide +kernel
theorem dX7_restore_13 : decode cX7_restore 13 = .ok (.getfield 30, 3) := by decide +kernel
theorem dX7_restore_16 : decode cX7_restore 16 = .ok (.iload_n 1, 1) := by decide +kernel
theorem dX7_restore_17 : decode cX7_restore 17 = .ok (.aaload, 1) := by decide +kernel
theorem dX7_restore_18 : decode cX7_restore 18 = .ok (.invokevirtual 148, 3) := by decide +kernel
theorem dX7_restore_21 : decode cX7_restore 21 = .ok (.ifCond .ne 6, 3) := by decide +kernel
theorem dX7_restore_24 : decode cX7_restore 24 = .ok (.ldc 143, 2) := by decide +kernel
theorem dX7_restore_26 : decode cX7_restore 26 = .ok (.ireturn, 1) := by decide +kernel
theorem dX7_restore_27 : decode cX7_restore 27 = .ok (.aload_n 0, 1) := by decide +kernel
theorem dX7_restore_28 : decode cX7_restore 28 = .ok (.getfield 26, 3) := by decide +kernel
theorem dX7_restore_31 : decode cX7_restore 31 = .ok (.aload_n 0, 1) := by decide +kernel
theorem dX7_restore_32 : decode cX7_restore 32 = .ok (.getfield 30, 3) := by decide +kernel
theorem dX7_restore_35 : decode cX7_restore 35 = .ok (.iload_n 1, 1) := by decide +kernel
theorem dX7_restore_36 : decode cX7_restore 36 = .ok (.aaload, 1) := by decide +kernel
theorem dX7_restore_37 : decode cX7_restore 37 = .ok (.invokevirtual 120, 3) := by decide +kernel
theorem dX7_restore_40 : decode cX7_restore 40 = .ok (.aload_n 0, 1) := by decide +kernel
theorem dX7_restore_41 : decode cX7_restore 41 = .ok (.getfield 37, 3) := by decide +kernel
theorem dX7_restore_44 : decode cX7_restore 44 = .ok (.invokevirtual 124, 3) := by decide +kernel
theorem dX7_restore_47 : decode cX7_restore 47 = .ok (.iconst 1, 1) := by decide +kernel
theorem dX7_restore_48 : decode cX7_restore 48 = .ok (.ireturn, 1) := by decide +kernel
theorem dX7_kind_0 : decode cX7_kind 0 = .ok (.aload_n 0, 1) := by decide +kernel
theorem dX7_kind_1 : decode cX7_kind 1 = .ok (.getfield 26, 3) := by decide +kernel
theorem dX7_kind_4 : decode cX7_kind 4 = .ok (.iload_n 1, 1) := by decide +kernel
theorem dX7_kind_5 : decode cX7_kind 5 = .ok (.invokevirtual 133, 3) := by decide +kernel
theorem dX7_kind_8 : decode cX7_kind 8 = .ok (.ifCond .eq 15, 3) := by decide +kernel
theorem dX7_kind_11 : decode cX7_kind 11 = .ok (.aload_n 0, 1) := by decide +kernel
theorem dX7_kind_12 : decode cX7_kind 12 = .ok (.getfield 26, 3) := by decide +kernel
theorem dX7_kind_15 : decode cX7_kind 15 = .ok (.getfield 224, 3) := by decide +kernel
theorem dX7_kind_18 : decode cX7_kind 18 = .ok (.iload_n 1, 1) := by decide +kernel
theorem dX7_kind_19 : decode cX7_kind 19 = .ok (.iaload, 1) := by decide +kernel
theorem dX7_kind_20 : decode cX7_kind 20 = .ok (.goto 5, 3) := by decide +kernel
theorem dX7_kind_23 : decode cX7_kind 23 = .ok (.ldc 66, 2) := by decide +kernel
theorem dX7_kind_25 : decode cX7_kind 25 = .ok (.ireturn, 1) := by decide +kernel
theorem dX7_as_0 : decode cX7_as 0 = .ok (.aload_n 0, 1) := by decide +kernel
theorem dX7_as_1 : decode cX7_as 1 = .ok (.getfield 26, 3) := by decide +kernel
theorem dX7_as_4 : decode cX7_as 4 = .ok (.iload_n 1, 1) := by decide +kernel
theorem dX7_as_5 : decode cX7_as 5 = .ok (.invokevirtual 133, 3) := by decide +kernel
theorem dX7_as_8 : decode cX7_as 8 = .ok (.ifCond .eq 10, 3) := by decide +kernel
theorem dX7_as_11 : decode cX7_as 11 = .ok (.iload_n 2, 1) := by decide +kernel
theorem dX7_as_12 : decode cX7_as 12 = .ok (.invokestatic 227, 3) := by decide +kernel
theorem dX7_as_15 : decode cX7_as 15 = .ok (.ifCond .ne 6, 3) := by decide +kernel
theorem dX7_as_18 : decode cX7_as 18 = .ok (.ldc 66, 2) := by decide +kernel
theorem dX7_as_20 : decode cX7_as 20 = .ok (.ireturn, 1) := by decide +kernel
theorem dX7_as_21 : decode cX7_as 21 = .ok (.aload_n 0, 1) := by decide +kernel
theorem dX7_as_22 : decode cX7_as 22 = .ok (.getfield 26, 3) := by decide +kernel
theorem dX7_as_25 : decode cX7_as 25 = .ok (.getfield 224, 3) := by decide +kernel
theorem dX7_as_28 : decode cX7_as 28 = .ok (.iload_n 1, 1) := by decide +kernel
theorem dX7_as_29 : decode cX7_as 29 = .ok (.iaload, 1) := by decide +kernel
theorem dX7_as_30 : decode cX7_as 30 = .ok (.iload_n 2, 1) := by decide +kernel
theorem dX7_as_31 : decode cX7_as 31 = .ok (.invokestatic 230, 3) := by decide +kernel
theorem dX7_as_34 : decode cX7_as 34 = .ok (.ifCond .eq 11, 3) := by decide +kernel
theorem dX7_as_37 : decode cX7_as 37 = .ok (.aload_n 0, 1) := by decide +kernel
theorem dX7_as_38 : decode cX7_as 38 = .ok (.iload_n 1, 1) := by decide +kernel
theorem dX7_as_39 : decode cX7_as 39 = .ok (.invokevirtual 75, 3) := by decide +kernel
theorem dX7_as_42 : decode cX7_as 42 = .ok (.goto 8, 3) := by decide +kernel
theorem dX7_as_45 : decode cX7_as 45 = .ok (.aload_n 0, 1) := by decide +kernel
theorem dX7_as_46 : decode cX7_as 46 = .ok (.iconst 3, 1) := by decide +kernel
theorem dX7_as_47 : decode cX7_as 47 = .ok (.invokevirtual 67, 3) := by decide +kernel
theorem dX7_as_50 : decode cX7_as 50 = .ok (.ireturn, 1) := by decide +kernel
theorem dX7_ask_0 : decode cX7_ask 0 = .ok (.aload_n 0, 1) := by decide +kernel
theorem dX7_ask_1 : decode cX7_ask 1 = .ok (.getfield 26, 3) := by decide +kernel
theorem dX7_ask_4 : decode cX7_ask 4 = .ok (.iload_n 1, 1) := by decide +kernel
theorem dX7_ask_5 : decode cX7_ask 5 = .ok (.invokevirtual 133, 3) := by decide +kernel
theorem dX7_ask_8 : decode cX7_ask 8 = .ok (.ifCond .eq 12, 3) := by decide +kernel
theorem dX7_ask_11 : decode cX7_ask 11 = .ok (.iload_n 2, 1) := by decide +kernel
theorem dX7_ask_12 : decode cX7_ask 12 = .ok (.ifCond .lt 8, 3) := by decide +kernel
theorem dX7_ask_15 : decode cX7_ask 15 = .ok (.iload_n 2, 1) := by decide +kernel
theorem dX7_ask_16 : decode cX7_ask 16 = .ok (.iconst 1, 1) := by decide +kernel
theorem dX7_ask_17 : decode cX7_ask 17 = .ok (.if_icmp .le 6, 3) := by decide +kernel
theorem dX7_ask_20 : decode cX7_ask 20 = .ok (.ldc 66, 2) := by decide +kernel
theorem dX7_ask_22 : decode cX7_ask 22 = .ok (.ireturn, 1) := by decide +kernel
theorem dX7_ask_23 : decode cX7_ask 23 = .ok (.aload_n 0, 1) := by decide +kernel
theorem dX7_ask_24 : decode cX7_ask 24 = .ok (.getfield 51, 3) := by decide +kernel
theorem dX7_ask_27 : decode cX7_ask 27 = .ok (.aload_n 0, 1) := by decide +kernel
theorem dX7_ask_28 : decode cX7_ask 28 = .ok (.getfield 26, 3) := by decide +kernel
theorem dX7_ask_31 : decode cX7_ask 31 = .ok (.iload_n 1, 1) := by decide +kernel
theorem dX7_ask_32 : decode cX7_ask 32 = .ok (.iload_n 2, 1) := by decide +kernel
theorem dX7_ask_33 : decode cX7_ask 33 = .ok (.invokevirtual 233, 3) := by decide +kernel
theorem dX7_ask_36 : decode cX7_ask 36 = .ok (.ireturn, 1) := by decide +kernel
theorem dX7_trace_0 : decode cX7_trace 0 = .ok (.aload_n 0, 1) := by decide +kernel
theorem dX7_trace_1 : decode cX7_trace 1 = .ok (.getfield 51, 3) := by decide +kernel
theorem dX7_trace_4 : decode cX7_trace 4 = .ok (.iload_n 1, 1) := by decide +kernel
theorem dX7_trace_5 : decode cX7_trace 5 = .ok (.invokevirtual 236, 3) := by decide +kernel
theorem dX7_trace_8 : decode cX7_trace 8 = .ok (.ireturn, 1) := by decide +kernel
theorem dX7_count_0 : decode cX7_count 0 = .ok (.iload_n 1, 1) := by decide +kernel
theorem dX7_count_1 : decode cX7_count 1 = .ok (.tableswitch 99 0 6 #[43, 51, 59, 67, 75, 83, 91], 43) := by decide +kernel
theorem dX7_count_44 : decode cX7_count 44 = .ok (.aload_n 0, 1) := by decide +kernel
theorem dX7_count_45 : decode cX7_count 45 = .ok (.getfield 10, 3) := by decide +kernel
theorem dX7_count_48 : decode cX7_count 48 = .ok (.invokevirtual 239, 3) := by decide +kernel
theorem dX7_count_51 : decode cX7_count 51 = .ok (.ireturn, 1) := by decide +kernel
theorem dX7_count_52 : decode cX7_count 52 = .ok (.aload_n 0, 1) := by decide +kernel
theorem dX7_count_53 : decode cX7_count 53 = .ok (.getfield 26, 3) := by decide +kernel
theorem dX7_count_56 : decode cX7_count 56 = .ok (.getfield 127, 3) := by decide +kernel
theorem dX7_count_59 : decode cX7_count 59 = .ok (.ireturn, 1) := by decide +kernel
theorem dX7_count_60 : decode cX7_count 60 = .ok (.aload_n 0, 1) := by decide +kernel
theorem dX7_count_61 : decode cX7_count 61 = .ok (.getfield 26, 3) := by decide +kernel
theorem dX7_count_64 : decode cX7_count 64 = .ok (.invokevirtual 242, 3) := by decide +kernel
theorem dX7_count_67 : decode cX7_count 67 = .ok (.ireturn, 1) := by decide +kernel
theorem dX7_count_68 : decode cX7_count 68 = .ok (.aload_n 0, 1) := by decide +kernel
theorem dX7_count_69 : decode cX7_count 69 = .ok (.getfield 37, 3) := by decide +kernel
theorem dX7_count_72 : decode cX7_count 72 = .ok (.invokevirtual 157, 3) := by decide +kernel
theorem dX7_count_75 : decode cX7_count 75 = .ok (.ireturn, 1) := by decide +kernel
theorem dX7_count_76 : decode cX7_count 76 = .ok (.aload_n 0, 1) := by decide +kernel
theorem dX7_count_77 : decode cX7_count 77 = .ok (.getfield 26, 3) := by decide +kernel
theorem dX7_count_80 : decode cX7_count 80 = .ok (.invokevirtual 245, 3) := by decide +kernel
theorem dX7_count_83 : decode cX7_count 83 = .ok (.ireturn, 1) := by decide +kernel
theorem dX7_count_84 : decode cX7_count 84 = .ok (.aload_n 0, 1) := by decide +kernel
theorem dX7_count_85 : decode cX7_count 85 = .ok (.getfield 26, 3) := by decide +kernel
theorem dX7_count_88 : decode cX7_count 88 = .ok (.invokevirtual 248, 3) := by decide +kernel
theorem dX7_count_91 : decode cX7_count 91 = .ok (.ireturn, 1) := by decide +kernel
theorem dX7_count_92 : decode cX7_count 92 = .ok (.aload_n 0, 1) := by decide +kernel
theorem dX7_count_93 : decode cX7_count 93 = .ok (.getfield 19, 3) := by decide +kernel
theorem dX7_count_96 : decode cX7_count 96 = .ok (.invokevirtual 103, 3) := by decide +kernel
theorem dX7_count_99 : decode cX7_count 99 = .ok (.ireturn, 1) := by decide +kernel
theorem dX7_count_100 : decode cX7_count 100 = .ok (.ldc 66, 2) := by decide +kernel
theorem dX7_count_102 : decode cX7_count 102 = .ok (.ireturn, 1) := by decide +kernel
theorem dX7_status_0 : decode cX7_status 0 = .ok (.aload_n 0, 1) := by decide +kernel
theorem dX7_status_1 : decode cX7_status 1 = .ok (.getfield 55, 3) := by decide +kernel
theorem dX7_status_4 : decode cX7_status 4 = .ok (.ireturn, 1) := by decide +kernel
theorem dX7_found_0 : decode cX7_found 0 = .ok (.aload_n 0, 1) := by decide +kernel
theorem dX7_found_1 : decode cX7_found 1 = .ok (.iload_n 1, 1) := by decide +kernel
theorem dX7_found_2 : decode cX7_found 2 = .ok (.putfield 55, 3) := by decide +kernel
theorem dX7_found_5 : decode cX7_found 5 = .ok (.ldc 251, 2) := by decide +kernel
theorem dX7_found_7 : decode cX7_found 7 = .ok (.iload_n 1, 1) := by decide +kernel
theorem dX7_found_8 : decode cX7_found 8 = .ok (.isub, 1) := by decide +kernel
theorem dX7_found_9 : decode cX7_found 9 = .ok (.ireturn, 1) := by decide +kernel
theorem dX7_answered_0 : decode cX7_answered 0 = .ok (.aload_n 0, 1) := by decide +kernel
theorem dX7_answered_1 : decode cX7_answered 1 = .ok (.iconst 0, 1) := by decide +kernel
theorem dX7_answered_2 : decode cX7_answered 2 = .ok (.putfield 55, 3) := by decide +kernel
theorem dX7_answered_5 : decode cX7_answered 5 = .ok (.iload_n 1, 1) := by decide +kernel
theorem dX7_answered_6 : decode cX7_answered 6 = .ok (.ireturn, 1) := by decide +kernel
theorem dX7_sayIn_0 : decode cX7_sayIn 0 = .ok (.aload_n 0, 1) := by decide +kernel
theorem dX7_sayIn_1 : decode cX7_sayIn 1 = .ok (.getfield 26, 3) := by decide +kernel
theorem dX7_sayIn_4 : decode cX7_sayIn 4 = .ok (.iload_n 2, 1) := by decide +kernel
theorem dX7_sayIn_5 : decode cX7_sayIn 5 = .ok (.invokevirtual 252, 3) := by decide +kernel
theorem dX7_sayIn_8 : decode cX7_sayIn 8 = .ok (.istore_n 3, 1) := by decide +kernel
theorem dX7_sayIn_9 : decode cX7_sayIn 9 = .ok (.iload_n 3, 1) := by decide +kernel
theorem dX7_sayIn_10 : decode cX7_sayIn 10 = .ok (.ifCond .eq 21, 3) := by decide +kernel
theorem dX7_sayIn_13 : decode cX7_sayIn 13 = .ok (.aload_n 0, 1) := by decide +kernel
theorem dX7_sayIn_14 : decode cX7_sayIn 14 = .ok (.getfield 26, 3) := by decide +kernel
theorem dX7_sayIn_17 : decode cX7_sayIn 17 = .ok (.aload_n 0, 1) := by decide +kernel
theorem dX7_sayIn_18 : decode cX7_sayIn 18 = .ok (.getfield 26, 3) := by decide +kernel
theorem dX7_sayIn_21 : decode cX7_sayIn 21 = .ok (.getfield 136, 3) := by decide +kernel
theorem dX7_sayIn_24 : decode cX7_sayIn 24 = .ok (.iload_n 1, 1) := by decide +kernel
theorem dX7_sayIn_25 : decode cX7_sayIn 25 = .ok (.invokevirtual 255, 3) := by decide +kernel
theorem dX7_sayIn_28 : decode cX7_sayIn 28 = .ok (.goto 4, 3) := by decide +kernel
theorem dX7_sayIn_31 : decode cX7_sayIn 31 = .ok (.iconst 0, 1) := by decide +kernel
theorem dX7_sayIn_32 : decode cX7_sayIn 32 = .ok (.istore 4, 2) := by decide +kernel
theorem dX7_sayIn_34 : decode cX7_sayIn 34 = .ok (.aload_n 0, 1) := by decide +kernel
theorem dX7_sayIn_35 : decode cX7_sayIn 35 = .ok (.getfield 37, 3) := by decide +kernel
theorem dX7_sayIn_38 : decode cX7_sayIn 38 = .ok (.aload_n 0, 1) := by decide +kernel
theorem dX7_sayIn_39 : decode cX7_sayIn 39 = .ok (.getfield 26, 3) := by decide +kernel
theorem dX7_sayIn_42 : decode cX7_sayIn 42 = .ok (.getfield 136, 3) := by decide +kernel
theorem dX7_sayIn_45 : decode cX7_sayIn 45 = .ok (.iload_n 3, 1) := by decide +kernel
theorem dX7_sayIn_46 : decode cX7_sayIn 46 = .ok (.ifCond .eq 7, 3) := by decide +kernel
theorem dX7_sayIn_49 : decode cX7_sayIn 49 = .ok (.iload_n 1, 1) := by decide +kernel
theorem dX7_sayIn_50 : decode cX7_sayIn 50 = .ok (.goto 4, 3) := by decide +kernel
theorem dX7_sayIn_53 : decode cX7_sayIn 53 = .ok (.iconst (-1), 1) := by decide +kernel
theorem dX7_sayIn_54 : decode cX7_sayIn 54 = .ok (.invokevirtual 258, 3) := by decide +kernel
theorem dX7_sayIn_57 : decode cX7_sayIn 57 = .ok (.iload_n 3, 1) := by decide +kernel
theorem dX7_sayIn_58 : decode cX7_sayIn 58 = .ok (.ifCond .eq 39, 3) := by decide +kernel
theorem dX7_sayIn_61 : decode cX7_sayIn 61 = .ok (.aload_n 0, 1) := by decide +kernel
theorem dX7_sayIn_62 : decode cX7_sayIn 62 = .ok (.getfield 26, 3) := by decide +kernel
theorem dX7_sayIn_65 : decode cX7_sayIn 65 = .ok (.getfield 185, 3) := by decide +kernel
theorem dX7_sayIn_68 : decode cX7_sayIn 68 = .ok (.iload_n 1, 1) := by decide +kernel
theorem dX7_sayIn_69 : decode cX7_sayIn 69 = .ok (.dup2, 1) := by decide +kernel
theorem dX7_sayIn_70 : decode cX7_sayIn 70 = .ok (.iaload, 1) := by decide +kernel
theorem dX7_sayIn_71 : decode cX7_sayIn 71 = .ok (.iconst 1, 1) := by decide +kernel
theorem dX7_sayIn_72 : decode cX7_sayIn 72 = .ok (.iadd, 1) := by decide +kernel
theorem dX7_sayIn_73 : decode cX7_sayIn 73 = .ok (.iastore, 1) := by decide +kernel
theorem dX7_sayIn_74 : decode cX7_sayIn 74 = .ok (.aload_n 0, 1) := by decide +kernel
theorem dX7_sayIn_75 : decode cX7_sayIn 75 = .ok (.getfield 26, 3) := by decide +kernel
theorem dX7_sayIn_78 : decode cX7_sayIn 78 = .ok (.aload_n 0, 1) := by decide +kernel
theorem dX7_sayIn_79 : decode cX7_sayIn 79 = .ok (.getfield 26, 3) := by decide +kernel
theorem dX7_sayIn_82 : decode cX7_sayIn 82 = .ok (.aload_n 0, 1) := by decide +kernel
theorem dX7_sayIn_83 : decode cX7_sayIn 83 = .ok (.getfield 26, 3) := by decide +kernel
theorem dX7_sayIn_86 : decode cX7_sayIn 86 = .ok (.getfield 136, 3) := by decide +kernel
theorem dX7_sayIn_89 : decode cX7_sayIn 89 = .ok (.iload 4, 2) := by decide +kernel
theorem dX7_sayIn_91 : decode cX7_sayIn 91 = .ok (.invokevirtual 262, 3) := by decide +kernel
theorem dX7_sayIn_94 : decode cX7_sayIn 94 = .ok (.putfield 136, 3) := by decide +kernel
theorem dX7_sayIn_97 : decode cX7_sayIn 97 = .ok (.iload 4, 2) := by decide +kernel
theorem dX7_sayIn_99 : decode cX7_sayIn 99 = .ok (.ireturn, 1) := by decide +kernel
theorem dX7_areSayings_0 : decode cX7_areSayings 0 = .ok (.iload_n 2, 1) := by decide +kernel
theorem dX7_areSayings_1 : decode cX7_areSayings 1 = .ok (.istore 4, 2) := by decide +kernel
theorem dX7_areSayings_3 : decode cX7_areSayings 3 = .ok (.iload 4, 2) := by decide +kernel
theorem dX7_areSayings_5 : decode cX7_areSayings 5 = .ok (.iload_n 2, 1) := by decide +kernel
theorem dX7_areSayings_6 : decode cX7_areSayings 6 = .ok (.iload_n 3, 1) := by decide +kernel
theorem dX7_areSayings_7 : decode cX7_areSayings 7 = .ok (.iadd, 1) := by decide +kernel
theorem dX7_areSayings_8 : decode cX7_areSayings 8 = .ok (.if_icmp .ge 43, 3) := by decide +kernel
theorem dX7_areSayings_11 : decode cX7_areSayings 11 = .ok (.aload_n 0, 1) := by decide +kernel
theorem dX7_areSayings_12 : decode cX7_areSayings 12 = .ok (.getfield 10, 3) := by decide +kernel
theorem dX7_areSayings_15 : decode cX7_areSayings 15 = .ok (.iload_n 1, 1) := by decide +kernel
theorem dX7_areSayings_16 : decode cX7_areSayings 16 = .ok (.iload 4, 2) := by decide +kernel
theorem dX7_areSayings_18 : decode cX7_areSayings 18 = .ok (.invokevirtual 265, 3) := by decide +kernel
theorem dX7_areSayings_21 : decode cX7_areSayings 21 = .ok (.istore 5, 2) := by decide +kernel
theorem dX7_areSayings_23 : decode cX7_areSayings 23 = .ok (.iload 5, 2) := by decide +kernel
theorem dX7_areSayings_25 : decode cX7_areSayings 25 = .ok (.ifCond .lt 18, 3) := by decide +kernel
theorem dX7_areSayings_28 : decode cX7_areSayings 28 = .ok (.aload_n 0, 1) := by decide +kernel
theorem dX7_areSayings_29 : decode cX7_areSayings 29 = .ok (.getfield 26, 3) := by decide +kernel
theorem dX7_areSayings_32 : decode cX7_areSayings 32 = .ok (.iload 5, 2) := by decide +kernel
theorem dX7_areSayings_34 : decode cX7_areSayings 34 = .ok (.bipush 16, 2) := by decide +kernel
theorem dX7_areSayings_36 : decode cX7_areSayings 36 = .ok (.idiv, 1) := by decide +kernel
theorem dX7_areSayings_37 : decode cX7_areSayings 37 = .ok (.invokevirtual 133, 3) := by decide +kernel
theorem dX7_areSayings_40 : decode cX7_areSayings 40 = .ok (.ifCond .ne 5, 3) := by decide +kernel
theorem dX7_areSayings_43 : decode cX7_areSayings 43 = .ok (.iconst 0, 1) := by decide +kernel
theorem dX7_areSayings_44 : decode cX7_areSayings 44 = .ok (.ireturn, 1) := by decide +kernel
theorem dX7_areSayings_45 : decode cX7_areSayings 45 = .ok (.iinc 4 1, 3) := by decide +kernel
theorem dX7_areSayings_48 : decode cX7_areSayings 48 = .ok (.goto (-45), 3) := by decide +kernel
theorem dX7_areSayings_51 : decode cX7_areSayings 51 = .ok (.iconst 1, 1) := by decide +kernel
theorem dX7_areSayings_52 : decode cX7_areSayings 52 = .ok (.ireturn, 1) := by decide +kernel
theorem dX7_sayAll_0 : decode cX7_sayAll 0 = .ok (.iconst 0, 1) := by decide +kernel
theorem dX7_sayAll_1 : decode cX7_sayAll 1 = .ok (.istore 4, 2) := by decide +kernel
theorem dX7_sayAll_3 : decode cX7_sayAll 3 = .ok (.iload_n 2, 1) := by decide +kernel
theorem dX7_sayAll_4 : decode cX7_sayAll 4 = .ok (.istore 5, 2) := by decide +kernel
theorem dX7_sayAll_6 : decode cX7_sayAll 6 = .ok (.iload 5, 2) := by decide +kernel
theorem dX7_sayAll_8 : decode cX7_sayAll 8 = .ok (.iload_n 2, 1) := by decide +kernel
theorem dX7_sayAll_9 : decode cX7_sayAll 9 = .ok (.iload_n 3, 1) := by decide +kernel
theorem dX7_sayAll_10 : decode cX7_sayAll 10 = .ok (.iadd, 1) := by decide +kernel
theorem dX7_sayAll_11 : decode cX7_sayAll 11 = .ok (.if_icmp .ge 64, 3) := by decide +kernel
theorem dX7_sayAll_14 : decode cX7_sayAll 14 = .ok (.aload_n 0, 1) := by decide +kernel
theorem dX7_sayAll_15 : decode cX7_sayAll 15 = .ok (.getfield 10, 3) := by decide +kernel
theorem dX7_sayAll_18 : decode cX7_sayAll 18 = .ok (.iload_n 1, 1) := by decide +kernel
theorem dX7_sayAll_19 : decode cX7_sayAll 19 = .ok (.iload 5, 2) := by decide +kernel
theorem dX7_sayAll_21 : decode cX7_sayAll 21 = .ok (.invokevirtual 265, 3) := by decide +kernel
theorem dX7_sayAll_24 : decode cX7_sayAll 24 = .ok (.istore 6, 2) := by decide +kernel
theorem dX7_sayAll_26 : decode cX7_sayAll 26 = .ok (.iload 6, 2) := by decide +kernel
theorem dX7_sayAll_28 : decode cX7_sayAll 28 = .ok (.bipush 16, 2) := by decide +kernel
theorem dX7_sayAll_30 : decode cX7_sayAll 30 = .ok (.idiv, 1) := by decide +kernel
theorem dX7_sayAll_31 : decode cX7_sayAll 31 = .ok (.istore 7, 2) := by decide +kernel
theorem dX7_sayAll_33 : decode cX7_sayAll 33 = .ok (.aload_n 0, 1) := by decide +kernel
theorem dX7_sayAll_34 : decode cX7_sayAll 34 = .ok (.getfield 26, 3) := by decide +kernel
theorem dX7_sayAll_37 : decode cX7_sayAll 37 = .ok (.aload_n 0, 1) := by decide +kernel
theorem dX7_sayAll_38 : decode cX7_sayAll 38 = .ok (.getfield 26, 3) := by decide +kernel
theorem dX7_sayAll_41 : decode cX7_sayAll 41 = .ok (.getfield 136, 3) := by decide +kernel
theorem dX7_sayAll_44 : decode cX7_sayAll 44 = .ok (.iload 7, 2) := by decide +kernel
theorem dX7_sayAll_46 : decode cX7_sayAll 46 = .ok (.invokevirtual 139, 3) := by decide +kernel
theorem dX7_sayAll_49 : decode cX7_sayAll 49 = .ok (.ifCond .ne 20, 3) := by decide +kernel
theorem dX7_sayAll_52 : decode cX7_sayAll 52 = .ok (.aload_n 0, 1) := by decide +kernel
theorem dX7_sayAll_53 : decode cX7_sayAll 53 = .ok (.iload 7, 2) := by decide +kernel
theorem dX7_sayAll_55 : decode cX7_sayAll 55 = .ok (.iload 6, 2) := by decide +kernel
theorem dX7_sayAll_57 : decode cX7_sayAll 57 = .ok (.bipush 16, 2) := by decide +kernel
theorem dX7_sayAll_59 : decode cX7_sayAll 59 = .ok (.irem, 1) := by decide +kernel
theorem dX7_sayAll_60 : decode cX7_sayAll 60 = .ok (.invokevirtual 144, 3) := by decide +kernel
theorem dX7_sayAll_63 : decode cX7_sayAll 63 = .ok (.ifCond .eq 6, 3) := by decide +kernel
theorem dX7_sayAll_66 : decode cX7_sayAll 66 = .ok (.iinc 4 1, 3) := by decide +kernel
theorem dX7_sayAll_69 : decode cX7_sayAll 69 = .ok (.iinc 5 1, 3) := by decide +kernel
theorem dX7_sayAll_72 : decode cX7_sayAll 72 = .ok (.goto (-66), 3) := by decide +kernel
theorem dX7_sayAll_75 : decode cX7_sayAll 75 = .ok (.iload 4, 2) := by decide +kernel
theorem dX7_sayAll_77 : decode cX7_sayAll 77 = .ok (.ireturn, 1) := by decide +kernel
theorem dX7_refusalToForetell_0 : decode cX7_refusalToForetell 0 = .ok (.aload_n 0, 1) := by decide +kernel
theorem dX7_refusalToForetell_1 : decode cX7_refusalToForetell 1 = .ok (.getfield 26, 3) := by decide +kernel
theorem dX7_refusalToForetell_4 : decode cX7_refusalToForetell 4 = .ok (.invokevirtual 148, 3) := by decide +kernel
theorem dX7_refusalToForetell_7 : decode cX7_refusalToForetell 7 = .ok (.ifCond .ne 6, 3) := by decide +kernel
theorem dX7_refusalToForetell_10 : decode cX7_refusalToForetell 10 = .ok (.ldc 143, 2) := by decide +kernel
theorem dX7_refusalToForetell_12 : decode cX7_refusalToForetell 12 = .ok (.ireturn, 1) := by decide +kernel
theorem dX7_refusalToForetell_13 : decode cX7_refusalToForetell 13 = .ok (.aload_n 0, 1) := by decide +kernel
theorem dX7_refusalToForetell_14 : decode cX7_refusalToForetell 14 = .ok (.getfield 10, 3) := by decide +kernel
theorem dX7_refusalToForetell_17 : decode cX7_refusalToForetell 17 = .ok (.iload_n 1, 1) := by decide +kernel
theorem dX7_refusalToForetell_18 : decode cX7_refusalToForetell 18 = .ok (.invokevirtual 59, 3) := by decide +kernel
theorem dX7_refusalToForetell_21 : decode cX7_refusalToForetell 21 = .ok (.ifCond .eq 30, 3) := by decide +kernel
theorem dX7_refusalToForetell_24 : decode cX7_refusalToForetell 24 = .ok (.aload_n 0, 1) := by decide +kernel
theorem dX7_refusalToForetell_25 : decode cX7_refusalToForetell 25 = .ok (.getfield 10, 3) := by decide +kernel
theorem dX7_refusalToForetell_28 : decode cX7_refusalToForetell 28 = .ok (.iload_n 3, 1) := by decide +kernel
theorem dX7_refusalToForetell_29 : decode cX7_refusalToForetell 29 = .ok (.invokevirtual 59, 3) := by decide +kernel
theorem dX7_refusalToForetell_32 : decode cX7_refusalToForetell 32 = .ok (.ifCond .eq 19, 3) := by decide +kernel
theorem dX7_refusalToForetell_35 : decode cX7_refusalToForetell 35 = .ok (.iload_n 2, 1) := by decide +kernel
theorem dX7_refusalToForetell_36 : decode cX7_refusalToForetell 36 = .ok (.iconst 1, 1) := by decide +kernel
theorem dX7_refusalToForetell_37 : decode cX7_refusalToForetell 37 = .ok (.if_icmp .lt 14, 3) := by decide +kernel
theorem dX7_refusalToForetell_40 : decode cX7_refusalToForetell 40 = .ok (.iload_n 2, 1) := by decide +kernel
theorem dX7_refusalToForetell_41 : decode cX7_refusalToForetell 41 = .ok (.bipush 8, 2) := by decide +kernel
theorem dX7_refusalToForetell_43 : decode cX7_refusalToForetell 43 = .ok (.if_icmp .gt 8, 3) := by decide +kernel
theorem dX7_refusalToForetell_46 : decode cX7_refusalToForetell 46 = .ok (.iload 4, 2) := by decide +kernel
theorem dX7_refusalToForetell_48 : decode cX7_refusalToForetell 48 = .ok (.ifCond .ne 6, 3) := by decide +kernel
theorem dX7_refusalToForetell_51 : decode cX7_refusalToForetell 51 = .ok (.ldc 66, 2) := by decide +kernel
theorem dX7_refusalToForetell_53 : decode cX7_refusalToForetell 53 = .ok (.ireturn, 1) := by decide +kernel
theorem dX7_refusalToForetell_54 : decode cX7_refusalToForetell 54 = .ok (.aload_n 0, 1) := by decide +kernel
theorem dX7_refusalToForetell_55 : decode cX7_refusalToForetell 55 = .ok (.getfield 10, 3) := by decide +kernel
theorem dX7_refusalToForetell_58 : decode cX7_refusalToForetell 58 = .ok (.iload_n 1, 1) := by decide +kernel
theorem dX7_refusalToForetell_59 : decode cX7_refusalToForetell 59 = .ok (.invokevirtual 78, 3) := by decide +kernel
theorem dX7_refusalToForetell_62 : decode cX7_refusalToForetell 62 = .ok (.ifCond .ne 14, 3) := by decide +kernel
theorem dX7_refusalToForetell_65 : decode cX7_refusalToForetell 65 = .ok (.aload_n 0, 1) := by decide +kernel
theorem dX7_refusalToForetell_66 : decode cX7_refusalToForetell 66 = .ok (.getfield 10, 3) := by decide +kernel
theorem dX7_refusalToForetell_69 : decode cX7_refusalToForetell 69 = .ok (.iload_n 3, 1) := by decide +kernel
theorem dX7_refusalToForetell_70 : decode cX7_refusalToForetell 70 = .ok (.invokevirtual 78, 3) := by decide +kernel
theorem dX7_refusalToForetell_73 : decode cX7_refusalToForetell 73 = .ok (.ifCond .eq 9, 3) := by decide +kernel
theorem dX7_refusalToForetell_76 : decode cX7_refusalToForetell 76 = .ok (.aload_n 0, 1) := by decide +kernel
theorem dX7_refusalToForetell_77 : decode cX7_refusalToForetell 77 = .ok (.iconst 1, 1) := by decide +kernel
theorem dX7_refusalToForetell_78 : decode cX7_refusalToForetell 78 = .ok (.invokevirtual 67, 3) := by decide +kernel
theorem dX7_refusalToForetell_81 : decode cX7_refusalToForetell 81 = .ok (.ireturn, 1) := by decide +kernel
theorem dX7_refusalToForetell_82 : decode cX7_refusalToForetell 82 = .ok (.aload_n 0, 1) := by decide +kernel
theorem dX7_refusalToForetell_83 : decode cX7_refusalToForetell 83 = .ok (.getfield 10, 3) := by decide +kernel
theorem dX7_refusalToForetell_86 : decode cX7_refusalToForetell 86 = .ok (.iload_n 1, 1) := by decide +kernel
theorem dX7_refusalToForetell_87 : decode cX7_refusalToForetell 87 = .ok (.iconst 0, 1) := by decide +kernel
theorem dX7_refusalToForetell_88 : decode cX7_refusalToForetell 88 = .ok (.iload_n 2, 1) := by decide +kernel
theorem dX7_refusalToForetell_89 : decode cX7_refusalToForetell 89 = .ok (.invokevirtual 81, 3) := by decide +kernel
theorem dX7_refusalToForetell_92 : decode cX7_refusalToForetell 92 = .ok (.ifCond .eq 22, 3) := by decide +kernel
theorem dX7_refusalToForetell_95 : decode cX7_refusalToForetell 95 = .ok (.aload_n 0, 1) := by decide +kernel
theorem dX7_refusalToForetell_96 : decode cX7_refusalToForetell 96 = .ok (.getfield 10, 3) := by decide +kernel
theorem dX7_refusalToForetell_99 : decode cX7_refusalToForetell 99 = .ok (.iload_n 3, 1) := by decide +kernel
theorem dX7_refusalToForetell_100 : decode cX7_refusalToForetell 100 = .ok (.iconst 0, 1) := by decide +kernel
theorem dX7_refusalToForetell_101 : decode cX7_refusalToForetell 101 = .ok (.aload_n 0, 1) := by decide +kernel
theorem dX7_refusalToForetell_102 : decode cX7_refusalToForetell 102 = .ok (.getfield 26, 3) := by decide +kernel
theorem dX7_refusalToForetell_105 : decode cX7_refusalToForetell 105 = .ok (.getfield 127, 3) := by decide +kernel
theorem dX7_refusalToForetell_108 : decode cX7_refusalToForetell 108 = .ok (.invokevirtual 81, 3) := by decide +kernel
theorem dX7_refusalToForetell_111 : decode cX7_refusalToForetell 111 = .ok (.ifCond .ne 9, 3) := by decide +kernel
theorem dX7_refusalToForetell_114 : decode cX7_refusalToForetell 114 = .ok (.aload_n 0, 1) := by decide +kernel
theorem dX7_refusalToForetell_115 : decode cX7_refusalToForetell 115 = .ok (.iconst 2, 1) := by decide +kernel
theorem dX7_refusalToForetell_116 : decode cX7_refusalToForetell 116 = .ok (.invokevirtual 67, 3) := by decide +kernel
theorem dX7_refusalToForetell_119 : decode cX7_refusalToForetell 119 = .ok (.ireturn, 1) := by decide +kernel
theorem dX7_refusalToForetell_120 : decode cX7_refusalToForetell 120 = .ok (.iconst 0, 1) := by decide +kernel
theorem dX7_refusalToForetell_121 : decode cX7_refusalToForetell 121 = .ok (.istore 5, 2) := by decide +kernel
theorem dX7_refusalToForetell_123 : decode cX7_refusalToForetell 123 = .ok (.iload 5, 2) := by decide +kernel
theorem dX7_refusalToForetell_125 : decode cX7_refusalToForetell 125 = .ok (.iload_n 2, 1) := by decide +kernel
theorem dX7_refusalToForetell_126 : decode cX7_refusalToForetell 126 = .ok (.if_icmp .ge 32, 3) := by decide +kernel
theorem dX7_refusalToForetell_129 : decode cX7_refusalToForetell 129 = .ok (.aload_n 0, 1) := by decide +kernel
theorem dX7_refusalToForetell_130 : decode cX7_refusalToForetell 130 = .ok (.getfield 26, 3) := by decide +kernel
theorem dX7_refusalToForetell_133 : decode cX7_refusalToForetell 133 = .ok (.aload_n 0, 1) := by decide +kernel
theorem dX7_refusalToForetell_134 : decode cX7_refusalToForetell 134 = .ok (.getfield 10, 3) := by decide +kernel
theorem dX7_refusalToForetell_137 : decode cX7_refusalToForetell 137 = .ok (.iload_n 1, 1) := by decide +kernel
theorem dX7_refusalToForetell_138 : decode cX7_refusalToForetell 138 = .ok (.iload 5, 2) := by decide +kernel
theorem dX7_refusalToForetell_140 : decode cX7_refusalToForetell 140 = .ok (.invokevirtual 265, 3) := by decide +kernel
theorem dX7_refusalToForetell_143 : decode cX7_refusalToForetell 143 = .ok (.invokevirtual 133, 3) := by decide +kernel
theorem dX7_refusalToForetell_146 : decode cX7_refusalToForetell 146 = .ok (.ifCond .ne 6, 3) := by decide +kernel
theorem dX7_refusalToForetell_149 : decode cX7_refusalToForetell 149 = .ok (.ldc 66, 2) := by decide +kernel
theorem dX7_refusalToForetell_151 : decode cX7_refusalToForetell 151 = .ok (.ireturn, 1) := by decide +kernel
theorem dX7_refusalToForetell_152 : decode cX7_refusalToForetell 152 = .ok (.iinc 5 1, 3) := by decide +kernel
theorem dX7_refusalToForetell_155 : decode cX7_refusalToForetell 155 = .ok (.goto (-32), 3) := by decide +kernel
theorem dX7_refusalToForetell_158 : decode cX7_refusalToForetell 158 = .ok (.aload_n 0, 1) := by decide +kernel
theorem dX7_refusalToForetell_159 : decode cX7_refusalToForetell 159 = .ok (.iconst 0, 1) := by decide +kernel
theorem dX7_refusalToForetell_160 : decode cX7_refusalToForetell 160 = .ok (.invokevirtual 75, 3) := by decide +kernel
theorem dX7_refusalToForetell_163 : decode cX7_refusalToForetell 163 = .ok (.ireturn, 1) := by decide +kernel
theorem dX7_foretellLies_0 : decode cX7_foretellLies 0 = .ok (.aload_n 0, 1) := by decide +kernel
theorem dX7_foretellLies_1 : decode cX7_foretellLies 1 = .ok (.getfield 44, 3) := by decide +kernel
theorem dX7_foretellLies_4 : decode cX7_foretellLies 4 = .ok (.aload_n 0, 1) := by decide +kernel
theorem dX7_foretellLies_5 : decode cX7_foretellLies 5 = .ok (.getfield 26, 3) := by decide +kernel
theorem dX7_foretellLies_8 : decode cX7_foretellLies 8 = .ok (.getfield 136, 3) := by decide +kernel
theorem dX7_foretellLies_11 : decode cX7_foretellLies 11 = .ok (.invokevirtual 268, 3) := by decide +kernel
theorem dX7_foretellLies_14 : decode cX7_foretellLies 14 = .ok (.iconst 0, 1) := by decide +kernel
theorem dX7_foretellLies_15 : decode cX7_foretellLies 15 = .ok (.istore 4, 2) := by decide +kernel
theorem dX7_foretellLies_17 : decode cX7_foretellLies 17 = .ok (.iload 4, 2) := by decide +kernel
theorem dX7_foretellLies_19 : decode cX7_foretellLies 19 = .ok (.iload_n 2, 1) := by decide +kernel
theorem dX7_foretellLies_20 : decode cX7_foretellLies 20 = .ok (.if_icmp .ge 32, 3) := by decide +kernel
theorem dX7_foretellLies_23 : decode cX7_foretellLies 23 = .ok (.aload_n 0, 1) := by decide +kernel
theorem dX7_foretellLies_24 : decode cX7_foretellLies 24 = .ok (.getfield 44, 3) := by decide +kernel
theorem dX7_foretellLies_27 : decode cX7_foretellLies 27 = .ok (.aload_n 0, 1) := by decide +kernel
theorem dX7_foretellLies_28 : decode cX7_foretellLies 28 = .ok (.getfield 26, 3) := by decide +kernel
theorem dX7_foretellLies_31 : decode cX7_foretellLies 31 = .ok (.aload_n 0, 1) := by decide +kernel
theorem dX7_foretellLies_32 : decode cX7_foretellLies 32 = .ok (.getfield 10, 3) := by decide +kernel
theorem dX7_foretellLies_35 : decode cX7_foretellLies 35 = .ok (.iload_n 1, 1) := by decide +kernel
theorem dX7_foretellLies_36 : decode cX7_foretellLies 36 = .ok (.iload 4, 2) := by decide +kernel
theorem dX7_foretellLies_38 : decode cX7_foretellLies 38 = .ok (.invokevirtual 265, 3) := by decide +kernel
theorem dX7_foretellLies_41 : decode cX7_foretellLies 41 = .ok (.iload 4, 2) := by decide +kernel
theorem dX7_foretellLies_43 : decode cX7_foretellLies 43 = .ok (.invokevirtual 272, 3) := by decide +kernel
theorem dX7_foretellLies_46 : decode cX7_foretellLies 46 = .ok (.iinc 4 1, 3) := by decide +kernel
theorem dX7_foretellLies_49 : decode cX7_foretellLies 49 = .ok (.goto (-32), 3) := by decide +kernel
theorem dX7_foretellLies_52 : decode cX7_foretellLies 52 = .ok (.aload_n 0, 1) := by decide +kernel
theorem dX7_foretellLies_53 : decode cX7_foretellLies 53 = .ok (.getfield 44, 3) := by decide +kernel
theorem dX7_foretellLies_56 : decode cX7_foretellLies 56 = .ok (.iload_n 2, 1) := by decide +kernel
theorem dX7_foretellLies_57 : decode cX7_foretellLies 57 = .ok (.aload_n 0, 1) := by decide +kernel
theorem dX7_foretellLies_58 : decode cX7_foretellLies 58 = .ok (.iload_n 3, 1) := by decide +kernel
theorem dX7_foretellLies_59 : decode cX7_foretellLies 59 = .ok (.invokevirtual 276, 3) := by decide +kernel
theorem dX7_foretellLies_62 : decode cX7_foretellLies 62 = .ok (.invokevirtual 279, 3) := by decide +kernel
theorem dX7_foretellLies_65 : decode cX7_foretellLies 65 = .ok (.return_, 1) := by decide +kernel
theorem dX7_standsAsOne_0 : decode cX7_standsAsOne 0 = .ok (.iconst 0, 1) := by decide +kernel
theorem dX7_standsAsOne_1 : decode cX7_standsAsOne 1 = .ok (.istore_n 2, 1) := by decide +kernel
theorem dX7_standsAsOne_2 : decode cX7_standsAsOne 2 = .ok (.iconst 0, 1) := by decide +kernel
theorem dX7_standsAsOne_3 : decode cX7_standsAsOne 3 = .ok (.istore_n 3, 1) := by decide +kernel
theorem dX7_standsAsOne_4 : decode cX7_standsAsOne 4 = .ok (.iload_n 3, 1) := by decide +kernel
theorem dX7_standsAsOne_5 : decode cX7_standsAsOne 5 = .ok (.aload_n 0, 1) := by decide +kernel
theorem dX7_standsAsOne_6 : decode cX7_standsAsOne 6 = .ok (.getfield 26, 3) := by decide +kernel
theorem dX7_standsAsOne_9 : decode cX7_standsAsOne 9 = .ok (.getfield 127, 3) := by decide +kernel
theorem dX7_standsAsOne_12 : decode cX7_standsAsOne 12 = .ok (.if_icmp .ge 43, 3) := by decide +kernel
theorem dX7_standsAsOne_15 : decode cX7_standsAsOne 15 = .ok (.aload_n 0, 1) := by decide +kernel
theorem dX7_standsAsOne_16 : decode cX7_standsAsOne 16 = .ok (.getfield 10, 3) := by decide +kernel
theorem dX7_standsAsOne_19 : decode cX7_standsAsOne 19 = .ok (.iload_n 1, 1) := by decide +kernel
theorem dX7_standsAsOne_20 : decode cX7_standsAsOne 20 = .ok (.iload_n 3, 1) := by decide +kernel
theorem dX7_standsAsOne_21 : decode cX7_standsAsOne 21 = .ok (.invokevirtual 265, 3) := by decide +kernel
theorem dX7_standsAsOne_24 : decode cX7_standsAsOne 24 = .ok (.istore 4, 2) := by decide +kernel
theorem dX7_standsAsOne_26 : decode cX7_standsAsOne 26 = .ok (.iload 4, 2) := by decide +kernel
theorem dX7_standsAsOne_28 : decode cX7_standsAsOne 28 = .ok (.ifCond .lt 10, 3) := by decide +kernel
theorem dX7_standsAsOne_31 : decode cX7_standsAsOne 31 = .ok (.iload 4, 2) := by decide +kernel
theorem dX7_standsAsOne_33 : decode cX7_standsAsOne 33 = .ok (.bipush 16, 2) := by decide +kernel
theorem dX7_standsAsOne_35 : decode cX7_standsAsOne 35 = .ok (.if_icmp .lt 5, 3) := by decide +kernel
theorem dX7_standsAsOne_38 : decode cX7_standsAsOne 38 = .ok (.iconst (-1), 1) := by decide +kernel
theorem dX7_standsAsOne_39 : decode cX7_standsAsOne 39 = .ok (.ireturn, 1) := by decide +kernel
theorem dX7_standsAsOne_40 : decode cX7_standsAsOne 40 = .ok (.iload_n 2, 1) := by decide +kernel
theorem dX7_standsAsOne_41 : decode cX7_standsAsOne 41 = .ok (.iload 4, 2) := by decide +kernel
theorem dX7_standsAsOne_43 : decode cX7_standsAsOne 43 = .ok (.iconst 4, 1) := by decide +kernel
theorem dX7_standsAsOne_44 : decode cX7_standsAsOne 44 = .ok (.iload_n 3, 1) := by decide +kernel
theorem dX7_standsAsOne_45 : decode cX7_standsAsOne 45 = .ok (.imul, 1) := by decide +kernel
theorem dX7_standsAsOne_46 : decode cX7_standsAsOne 46 = .ok (.ishl, 1) := by decide +kernel
theorem dX7_standsAsOne_47 : decode cX7_standsAsOne 47 = .ok (.ior, 1) := by decide +kernel
theorem dX7_standsAsOne_48 : decode cX7_standsAsOne 48 = .ok (.istore_n 2, 1) := by decide +kernel
theorem dX7_standsAsOne_49 : decode cX7_standsAsOne 49 = .ok (.iinc 3 1, 3) := by decide +kernel
theorem dX7_standsAsOne_52 : decode cX7_standsAsOne 52 = .ok (.goto (-48), 3) := by decide +kernel
theorem dX7_standsAsOne_55 : decode cX7_standsAsOne 55 = .ok (.iload_n 2, 1) := by decide +kernel
theorem dX7_standsAsOne_56 : decode cX7_standsAsOne 56 = .ok (.ireturn, 1) := by decide +kernel
theorem dX8_init_0 : decode cX8_init 0 = .ok (.aload_n 0, 1) := by decide +kernel
theorem dX8_init_1 : decode cX8_init 1 = .ok (.invokespecial 1, 3) := by decide +kernel
theorem dX8_init_4 : decode cX8_init 4 = .ok (.aload_n 0, 1) := by decide +kernel
theorem dX8_init_5 : decode cX8_init 5 = .ok (.bipush 8, 2) := by decide +kernel
theorem dX8_init_7 : decode cX8_init 7 = .ok (.newarray .int, 2) := by decide +kernel
theorem dX8_init_9 : decode cX8_init 9 = .ok (.putfield 7, 3) := by decide +kernel
theorem dX8_init_12 : decode cX8_init 12 = .ok (.aload_n 0, 1) := by decide +kernel
theorem dX8_init_13 : decode cX8_init 13 = .ok (.bipush 8, 2) := by decide +kernel
theorem dX8_init_15 : decode cX8_init 15 = .ok (.newarray .int, 2) := by decide +kernel
theorem dX8_init_17 : decode cX8_init 17 = .ok (.putfield 13, 3) := by decide +kernel
theorem dX8_init_20 : decode cX8_init 20 = .ok (.aload_n 0, 1) := by decide +kernel
theorem dX8_init_21 : decode cX8_init 21 = .ok (.sipush 320, 3) := by decide +kernel
theorem dX8_init_24 : decode cX8_init 24 = .ok (.newarray .int, 2) := by decide +kernel
theorem dX8_init_26 : decode cX8_init 26 = .ok (.putfield 16, 3) := by decide +kernel
theorem dX8_init_29 : decode cX8_init 29 = .ok (.aload_n 0, 1) := by decide +kernel
theorem dX8_init_30 : decode cX8_init 30 = .ok (.sipush 400, 3) := by decide +kernel
theorem dX8_init_33 : decode cX8_init 33 = .ok (.newarray .int, 2) := by decide +kernel
theorem dX8_init_35 : decode cX8_init 35 = .ok (.putfield 19, 3) := by decide +kernel
theorem dX8_init_38 : decode cX8_init 38 = .ok (.aload_n 0, 1) := by decide +kernel
theorem dX8_init_39 : decode cX8_init 39 = .ok (.sipush 168, 3) := by decide +kernel
theorem dX8_init_42 : decode cX8_init 42 = .ok (.newarray .int, 2) := by decide +kernel
theorem dX8_init_44 : decode cX8_init 44 = .ok (.putfield 22, 3) := by decide +kernel
theorem dX8_init_47 : decode cX8_init 47 = .ok (.aload_n 0, 1) := by decide +kernel
theorem dX8_init_48 : decode cX8_init 48 = .ok (.sipush 168, 3) := by decide +kernel
theorem dX8_init_51 : decode cX8_init 51 = .ok (.newarray .int, 2) := by decide +kernel
theorem dX8_init_53 : decode cX8_init 53 = .ok (.putfield 25, 3) := by decide +kernel
theorem dX8_init_56 : decode cX8_init 56 = .ok (.aload_n 0, 1) := by decide +kernel
theorem dX8_init_57 : decode cX8_init 57 = .ok (.sipush 336, 3) := by decide +kernel
theorem dX8_init_60 : decode cX8_init 60 = .ok (.newarray .int, 2) := by decide +kernel
theorem dX8_init_62 : decode cX8_init 62 = .ok (.putfield 28, 3) := by decide +kernel
theorem dX8_init_65 : decode cX8_init 65 = .ok (.aload_n 0, 1) := by decide +kernel
theorem dX8_init_66 : decode cX8_init 66 = .ok (.iconst 2, 1) := by decide +kernel
theorem dX8_init_67 : decode cX8_init 67 = .ok (.newarray .boolean, 2) := by decide +kernel
theorem dX8_init_69 : decode cX8_init 69 = .ok (.putfield 31, 3) := by decide +kernel
theorem dX8_init_72 : decode cX8_init 72 = .ok (.aload_n 0, 1) := by decide +kernel
theorem dX8_init_73 : decode cX8_init 73 = .ok (.sipush 168, 3) := by decide +kernel
theorem dX8_init_76 : decode cX8_init 76 = .ok (.newarray .int, 2) := by decide +kernel
theorem dX8_init_78 : decode cX8_init 78 = .ok (.putfield 35, 3) := by decide +kernel
theorem dX8_init_81 : decode cX8_init 81 = .ok (.aload_n 0, 1) := by decide +kernel
theorem dX8_init_82 : decode cX8_init 82 = .ok (.bipush 6, 2) := by decide +kernel
theorem dX8_init_84 : decode cX8_init 84 = .ok (.newarray .int, 2) := by decide +kernel
theorem dX8_init_86 : decode cX8_init 86 = .ok (.putfield 38, 3) := by decide +kernel
theorem dX8_init_89 : decode cX8_init 89 = .ok (.aload_n 0, 1) := by decide +kernel
theorem dX8_init_90 : decode cX8_init 90 = .ok (.bipush 16, 2) := by decide +kernel
theorem dX8_init_92 : decode cX8_init 92 = .ok (.newarray .int, 2) := by decide +kernel
theorem dX8_init_94 : decode cX8_init 94 = .ok (.putfield 41, 3) := by decide +kernel
theorem dX8_init_97 : decode cX8_init 97 = .ok (.aload_n 0, 1) := by decide +kernel
theorem dX8_init_98 : decode cX8_init 98 = .ok (.bipush 40, 2) := by decide +kernel
theorem dX8_init_100 : decode cX8_init 100 = .ok (.newarray .int, 2) := by decide +kernel
theorem dX8_init_102 : decode cX8_init 102 = .ok (.putfield 44, 3) := by decide +kernel
theorem dX8_init_105 : decode cX8_init 105 = .ok (.aload_n 0, 1) := by decide +kernel
theorem dX8_init_106 : decode cX8_init 106 = .ok (.bipush 8, 2) := by decide +kernel
theorem dX8_init_108 : decode cX8_init 108 = .ok (.newarray .int, 2) := by decide +kernel
theorem dX8_init_110 : decode cX8_init 110 = .ok (.putfield 47, 3) := by decide +kernel
theorem dX8_init_113 : decode cX8_init 113 = .ok (.iconst 0, 1) := by decide +kernel
theorem dX8_init_114 : decode cX8_init 114 = .ok (.istore_n 1, 1) := by decide +kernel
theorem dX8_init_115 : decode cX8_init 115 = .ok (.iload_n 1, 1) := by decide +kernel
theorem dX8_init_116 : decode cX8_init 116 = .ok (.bipush 8, 2) := by decide +kernel
theorem dX8_init_118 : decode cX8_init 118 = .ok (.if_icmp .ge 17, 3) := by decide +kernel
theorem dX8_init_121 : decode cX8_init 121 = .ok (.aload_n 0, 1) := by decide +kernel
theorem dX8_init_122 : decode cX8_init 122 = .ok (.getfield 7, 3) := by decide +kernel
theorem dX8_init_125 : decode cX8_init 125 = .ok (.iload_n 1, 1) := by decide +kernel
theorem dX8_init_126 : decode cX8_init 126 = .ok (.ldc 50, 2) := by decide +kernel
theorem dX8_init_128 : decode cX8_init 128 = .ok (.iastore, 1) := by decide +kernel
theorem dX8_init_129 : decode cX8_init 129 = .ok (.iinc 1 1, 3) := by decide +kernel
theorem dX8_init_132 : decode cX8_init 132 = .ok (.goto (-17), 3) := by decide +kernel
theorem dX8_init_135 : decode cX8_init 135 = .ok (.return_, 1) := by decide +kernel
theorem dX8_in_0 : decode cX8_in 0 = .ok (.iload_n 0, 1) := by decide +kernel
theorem dX8_in_1 : decode cX8_in 1 = .ok (.iload_n 1, 1) := by decide +kernel
theorem dX8_in_2 : decode cX8_in 2 = .ok (.if_icmp .lt 12, 3) := by decide +kernel
theorem dX8_in_5 : decode cX8_in 5 = .ok (.iload_n 0, 1) := by decide +kernel
theorem dX8_in_6 : decode cX8_in 6 = .ok (.iload_n 2, 1) := by decide +kernel
theorem dX8_in_7 : decode cX8_in 7 = .ok (.if_icmp .gt 7, 3) := by decide +kernel
theorem dX8_in_10 : decode cX8_in 10 = .ok (.iconst 1, 1) := by decide +kernel
theorem dX8_in_11 : decode cX8_in 11 = .ok (.goto 4, 3) := by decide +kernel
theorem dX8_in_14 : decode cX8_in 14 = .ok (.iconst 0, 1) := by decide +kernel
theorem dX8_in_15 : decode cX8_in 15 = .ok (.ireturn, 1) := by decide +kernel
theorem dX8_has_0 : decode cX8_has 0 = .ok (.iload_n 0, 1) := by decide +kernel
theorem dX8_has_1 : decode cX8_has 1 = .ok (.iload_n 1, 1) := by decide +kernel
theorem dX8_has_2 : decode cX8_has 2 = .ok (.ishr, 1) := by decide +kernel
theorem dX8_has_3 : decode cX8_has 3 = .ok (.iconst 1, 1) := by decide +kernel
theorem dX8_has_4 : decode cX8_has 4 = .ok (.iand, 1) := by decide +kernel
theorem dX8_has_5 : decode cX8_has 5 = .ok (.iconst 1, 1) := by decide +kernel
theorem dX8_has_6 : decode cX8_has 6 = .ok (.if_icmp .ne 7, 3) := by decide +kernel
theorem dX8_has_9 : decode cX8_has 9 = .ok (.iconst 1, 1) := by decide +kernel
theorem dX8_has_10 : decode cX8_has 10 = .ok (.goto 4, 3) := by decide +kernel
theorem dX8_has_13 : decode cX8_has 13 = .ok (.iconst 0, 1) := by decide +kernel
theorem dX8_has_14 : decode cX8_has 14 = .ok (.ireturn, 1) := by decide +kernel
theorem dX8_finds_0 : decode cX8_finds 0 = .ok (.aload_n 0, 1) := by decide +kernel
theorem dX8_finds_1 : decode cX8_finds 1 = .ok (.iload_n 1, 1) := by decide +kernel
theorem dX8_finds_2 : decode cX8_finds 2 = .ok (.putfield 51, 3) := by decide +kernel
theorem dX8_finds_5 : decode cX8_finds 5 = .ok (.ldc 55, 2) := by decide +kernel
theorem dX8_finds_7 : decode cX8_finds 7 = .ok (.iload_n 1, 1) := by decide +kernel
theorem dX8_finds_8 : decode cX8_finds 8 = .ok (.isub, 1) := by decide +kernel
theorem dX8_finds_9 : decode cX8_finds 9 = .ok (.ireturn, 1) := by decide +kernel
theorem dX8_did_0 : decode cX8_did 0 = .ok (.aload_n 0, 1) := by decide +kernel
theorem dX8_did_1 : decode cX8_did 1 = .ok (.iconst 0, 1) := by decide +kernel
theorem dX8_did_2 : decode cX8_did 2 = .ok (.putfield 51, 3) := by decide +kernel
theorem dX8_did_5 : decode cX8_did 5 = .ok (.iload_n 1, 1) := by decide +kernel
theorem dX8_did_6 : decode cX8_did 6 = .ok (.ireturn, 1) := by decide +kernel
theorem dX8_isRow_0 : decode cX8_isRow 0 = .ok (.iload_n 0, 1) := by decide +kernel
theorem dX8_isRow_1 : decode cX8_isRow 1 = .ok (.iconst 0, 1) := by decide +kernel
theorem dX8_isRow_2 : decode cX8_isRow 2 = .ok (.bipush 7, 2) := by decide +kernel
theorem dX8_isRow_4 : decode cX8_isRow 4 = .ok (.invokestatic 56, 3) := by decide +kernel
theorem dX8_isRow_7 : decode cX8_isRow 7 = .ok (.ireturn, 1) := by decide +kernel
theorem dX8_isMissing_0 : decode cX8_isMissing 0 = .ok (.aload_n 0, 1) := by decide +kernel
theorem dX8_isMissing_1 : decode cX8_isMissing 1 = .ok (.getfield 7, 3) := by decide +kernel
theorem dX8_isMissing_4 : decode cX8_isMissing 4 = .ok (.iload_n 1, 1) := by decide +kernel
theorem dX8_isMissing_5 : decode cX8_isMissing 5 = .ok (.iaload, 1) := by decide +kernel
theorem dX8_isMissing_6 : decode cX8_isMissing 6 = .ok (.ldc 50, 2) := by decide +kernel
theorem dX8_isMissing_8 : decode cX8_isMissing 8 = .ok (.if_icmp .ne 7, 3) := by decide +kernel
theorem dX8_isMissing_11 : decode cX8_isMissing 11 = .ok (.iconst 1, 1) := by decide +kernel
theorem dX8_isMissing_12 : decode cX8_isMissing 12 = .ok (.goto 4, 3) := by decide +kernel
theorem dX8_isMissing_15 : decode cX8_isMissing 15 = .ok (.iconst 0, 1) := by decide +kernel
theorem dX8_isMissing_16 : decode cX8_isMissing 16 = .ok (.ireturn, 1) := by decide +kernel
theorem dX8_row_0 : decode cX8_row 0 = .ok (.iload_n 1, 1) := by decide +kernel
theorem dX8_row_1 : decode cX8_row 1 = .ok (.invokestatic 60, 3) := by decide +kernel
theorem dX8_row_4 : decode cX8_row 4 = .ok (.ifCond .eq 18, 3) := by decide +kernel
theorem dX8_row_7 : decode cX8_row 7 = .ok (.iload_n 2, 1) := by decide +kernel
theorem dX8_row_8 : decode cX8_row 8 = .ok (.iconst 0, 1) := by decide +kernel
theorem dX8_row_9 : decode cX8_row 9 = .ok (.iconst 2, 1) := by decide +kernel
theorem dX8_row_10 : decode cX8_row 10 = .ok (.invokestatic 56, 3) := by decide +kernel
theorem dX8_row_13 : decode cX8_row 13 = .ok (.ifCond .eq 9, 3) := by decide +kernel
theorem dX8_row_16 : decode cX8_row 16 = .ok (.iload_n 3, 1) := by decide +kernel
theorem dX8_row_17 : decode cX8_row 17 = .ok (.bipush 40, 2) := by decide +kernel
theorem dX8_row_19 : decode cX8_row 19 = .ok (.if_icmp .le 6, 3) := by decide +kernel
theorem dX8_row_22 : decode cX8_row 22 = .ok (.ldc 64, 2) := by decide +kernel
theorem dX8_row_24 : decode cX8_row 24 = .ok (.ireturn, 1) := by decide +kernel
theorem dX8_row_25 : decode cX8_row 25 = .ok (.iload_n 3, 1) := by decide +kernel
theorem dX8_row_26 : decode cX8_row 26 = .ok (.ifCond .ge 9, 3) := by decide +kernel
theorem dX8_row_29 : decode cX8_row 29 = .ok (.aload_n 0, 1) := by decide +kernel
theorem dX8_row_30 : decode cX8_row 30 = .ok (.iconst 4, 1) := by decide +kernel
theorem dX8_row_31 : decode cX8_row 31 = .ok (.invokevirtual 65, 3) := by decide +kernel
theorem dX8_row_34 : decode cX8_row 34 = .ok (.ireturn, 1) := by decide +kernel
theorem dX8_row_35 : decode cX8_row 35 = .ok (.aload_n 0, 1) := by decide +kernel
theorem dX8_row_36 : decode cX8_row 36 = .ok (.getfield 7, 3) := by decide +kernel
theorem dX8_row_39 : decode cX8_row 39 = .ok (.iload_n 1, 1) := by decide +kernel
theorem dX8_row_40 : decode cX8_row 40 = .ok (.iload_n 2, 1) := by decide +kernel
theorem dX8_row_41 : decode cX8_row 41 = .ok (.iastore, 1) := by decide +kernel
theorem dX8_row_42 : decode cX8_row 42 = .ok (.aload_n 0, 1) := by decide +kernel
theorem dX8_row_43 : decode cX8_row 43 = .ok (.getfield 13, 3) := by decide +kernel
theorem dX8_row_46 : decode cX8_row 46 = .ok (.iload_n 1, 1) := by decide +kernel
theorem dX8_row_47 : decode cX8_row 47 = .ok (.iload_n 3, 1) := by decide +kernel
theorem dX8_row_48 : decode cX8_row 48 = .ok (.iastore, 1) := by decide +kernel
theorem dX8_row_49 : decode cX8_row 49 = .ok (.iconst 0, 1) := by decide +kernel
theorem dX8_row_50 : decode cX8_row 50 = .ok (.istore 4, 2) := by decide +kernel
theorem dX8_row_52 : decode cX8_row 52 = .ok (.iload 4, 2) := by decide +kernel
theorem dX8_row_54 : decode cX8_row 54 = .ok (.iload_n 3, 1) := by decide +kernel
theorem dX8_row_55 : decode cX8_row 55 = .ok (.if_icmp .ge 22, 3) := by decide +kernel
theorem dX8_row_58 : decode cX8_row 58 = .ok (.aload_n 0, 1) := by decide +kernel
theorem dX8_row_59 : decode cX8_row 59 = .ok (.getfield 16, 3) := by decide +kernel
theorem dX8_row_62 : decode cX8_row 62 = .ok (.bipush 40, 2) := by decide +kernel
theorem dX8_row_64 : decode cX8_row 64 = .ok (.iload_n 1, 1) := by decide +kernel
theorem dX8_row_65 : decode cX8_row 65 = .ok (.imul, 1) := by decide +kernel
theorem dX8_row_66 : decode cX8_row 66 = .ok (.iload 4, 2) := by decide +kernel
theorem dX8_row_68 : decode cX8_row 68 = .ok (.iadd, 1) := by decide +kernel
theorem dX8_row_69 : decode cX8_row 69 = .ok (.iconst 0, 1) := by decide +kernel
theorem dX8_row_70 : decode cX8_row 70 = .ok (.iastore, 1) := by decide +kernel
theorem dX8_row_71 : decode cX8_row 71 = .ok (.iinc 4 1, 3) := by decide +kernel
theorem dX8_row_74 : decode cX8_row 74 = .ok (.goto (-22), 3) := by decide +kernel
theorem dX8_row_77 : decode cX8_row 77 = .ok (.aload_n 0, 1) := by decide +kernel
theorem dX8_row_78 : decode cX8_row 78 = .ok (.iload_n 3, 1) := by decide +kernel
theorem dX8_row_79 : decode cX8_row 79 = .ok (.invokevirtual 69, 3) := by decide +kernel
theorem dX8_row_82 : decode cX8_row 82 = .ok (.ireturn, 1) := by decide +kernel
theorem dX8_set_0 : decode cX8_set 0 = .ok (.iload_n 1, 1) := by decide +kernel
theorem dX8_set_1 : decode cX8_set 1 = .ok (.invokestatic 60, 3) := by decide +kernel
theorem dX8_set_4 : decode cX8_set 4 = .ok (.ifCond .ne 6, 3) := by decide +kernel
theorem dX8_set_7 : decode cX8_set 7 = .ok (.ldc 64, 2) := by decide +kernel
theorem dX8_set_9 : decode cX8_set 9 = .ok (.ireturn, 1) := by decide +kernel
theorem dX8_set_10 : decode cX8_set 10 = .ok (.aload_n 0, 1) := by decide +kernel
theorem dX8_set_11 : decode cX8_set 11 = .ok (.iload_n 1, 1) := by decide +kernel
theorem dX8_set_12 : decode cX8_set 12 = .ok (.invokevirtual 72, 3) := by decide +kernel
theorem dX8_set_15 : decode cX8_set 15 = .ok (.ifCond .eq 9, 3) := by decide +kernel
theorem dX8_set_18 : decode cX8_set 18 = .ok (.aload_n 0, 1) := by decide +kernel
theorem dX8_set_19 : decode cX8_set 19 = .ok (.iconst 1, 1) := by decide +kernel
theorem dX8_set_20 : decode cX8_set 20 = .ok (.invokevirtual 65, 3) := by decide +kernel
theorem dX8_set_23 : decode cX8_set 23 = .ok (.ireturn, 1) := by decide +kernel
theorem dX8_set_24 : decode cX8_set 24 = .ok (.iload_n 2, 1) := by decide +kernel
theorem dX8_set_25 : decode cX8_set 25 = .ok (.iconst 0, 1) := by decide +kernel
theorem dX8_set_26 : decode cX8_set 26 = .ok (.aload_n 0, 1) := by decide +kernel
theorem dX8_set_27 : decode cX8_set 27 = .ok (.getfield 13, 3) := by decide +kernel
theorem dX8_set_30 : decode cX8_set 30 = .ok (.iload_n 1, 1) := by decide +kernel
theorem dX8_set_31 : decode cX8_set 31 = .ok (.iaload, 1) := by decide +kernel
theorem dX8_set_32 : decode cX8_set 32 = .ok (.iconst 1, 1) := by decide +kernel
theorem dX8_set_33 : decode cX8_set 33 = .ok (.isub, 1) := by decide +kernel
theorem dX8_set_34 : decode cX8_set 34 = .ok (.invokestatic 56, 3) := by decide +kernel
theorem dX8_set_37 : decode cX8_set 37 = .ok (.ifCond .ne 9, 3) := by decide +kernel
theorem dX8_set_40 : decode cX8_set 40 = .ok (.aload_n 0, 1) := by decide +kernel
theorem dX8_set_41 : decode cX8_set 41 = .ok (.iconst 2, 1) := by decide +kernel
theorem dX8_set_42 : decode cX8_set 42 = .ok (.invokevirtual 65, 3) := by decide +kernel
theorem dX8_set_45 : decode cX8_set 45 = .ok (.ireturn, 1) := by decide +kernel
theorem dX8_set_46 : decode cX8_set 46 = .ok (.aload_n 0, 1) := by decide +kernel
theorem dX8_set_47 : decode cX8_set 47 = .ok (.getfield 16, 3) := by decide +kernel
theorem dX8_set_50 : decode cX8_set 50 = .ok (.bipush 40, 2) := by decide +kernel
theorem dX8_set_52 : decode cX8_set 52 = .ok (.iload_n 1, 1) := by decide +kernel
theorem dX8_set_53 : decode cX8_set 53 = .ok (.imul, 1) := by decide +kernel
theorem dX8_set_54 : decode cX8_set 54 = .ok (.iload_n 2, 1) := by decide +kernel
theorem dX8_set_55 : decode cX8_set 55 = .ok (.iadd, 1) := by decide +kernel
theorem dX8_set_56 : decode cX8_set 56 = .ok (.aload_n 0, 1) := by decide +kernel
theorem dX8_set_57 : decode cX8_set 57 = .ok (.getfield 7, 3) := by decide +kernel
theorem dX8_set_60 : decode cX8_set 60 = .ok (.iload_n 1, 1) := by decide +kernel
theorem dX8_set_61 : decode cX8_set 61 = .ok (.iaload, 1) := by decide +kernel
theorem dX8_set_62 : decode cX8_set 62 = .ok (.ifCond .ne 8, 3) := by decide +kernel
theorem dX8_set_65 : decode cX8_set 65 = .ok (.iload_n 3, 1) := by decide +kernel
theorem dX8_set_66 : decode cX8_set 66 = .ok (.i2b, 1) := by decide +kernel
theorem dX8_set_67 : decode cX8_set 67 = .ok (.goto 19, 3) := by decide +kernel
theorem dX8_set_70 : decode cX8_set 70 = .ok (.aload_n 0, 1) := by decide +kernel
theorem dX8_set_71 : decode cX8_set 71 = .ok (.getfield 7, 3) := by decide +kernel
theorem dX8_set_74 : decode cX8_set 74 = .ok (.iload_n 1, 1) := by decide +kernel
theorem dX8_set_75 : decode cX8_set 75 = .ok (.iaload, 1) := by decide +kernel
theorem dX8_set_76 : decode cX8_set 76 = .ok (.iconst 1, 1) := by decide +kernel
theorem dX8_set_77 : decode cX8_set 77 = .ok (.if_icmp .ne 8, 3) := by decide +kernel
theorem dX8_set_80 : decode cX8_set 80 = .ok (.iload_n 3, 1) := by decide +kernel
theorem dX8_set_81 : decode cX8_set 81 = .ok (.i2s, 1) := by decide +kernel
theorem dX8_set_82 : decode cX8_set 82 = .ok (.goto 4, 3) := by decide +kernel
theorem dX8_set_85 : decode cX8_set 85 = .ok (.iload_n 3, 1) := by decide +kernel
theorem dX8_set_86 : decode cX8_set 86 = .ok (.iastore, 1) := by decide +kernel
theorem dX8_set_87 : decode cX8_set 87 = .ok (.aload_n 0, 1) := by decide +kernel
theorem dX8_set_88 : decode cX8_set 88 = .ok (.aload_n 0, 1) := by decide +kernel
theorem dX8_set_89 : decode cX8_set 89 = .ok (.getfield 16, 3) := by decide +kernel
theorem dX8_set_92 : decode cX8_set 92 = .ok (.bipush 40, 2) := by decide +kernel
theorem dX8_set_94 : decode cX8_set 94 = .ok (.iload_n 1, 1) := by decide +kernel
theorem dX8_set_95 : decode cX8_set 95 = .ok (.imul, 1) := by decide +kernel
theorem dX8_set_96 : decode cX8_set 96 = .ok (.iload_n 2, 1) := by decide +kernel
theorem dX8_set_97 : decode cX8_set 97 = .ok (.iadd, 1) := by decide +kernel
theorem dX8_set_98 : decode cX8_set 98 = .ok (.iaload, 1) := by decide +kernel
theorem dX8_set_99 : decode cX8_set 99 = .ok (.invokevirtual 69, 3) := by decide +kernel
theorem dX8_set_102 : decode cX8_set 102 = .ok (.ireturn, 1) := by decide +kernel
theorem dX8_copy_0 : decode cX8_copy 0 = .ok (.iload_n 1, 1) := by decide +kernel
theorem dX8_copy_1 : decode cX8_copy 1 = .ok (.invokestatic 60, 3) := by decide +kernel
theorem dX8_copy_4 : decode cX8_copy 4 = .ok (.ifCond .eq 10, 3) := by decide +kernel
theorem dX8_copy_7 : decode cX8_copy 7 = .ok (.iload_n 3, 1) := by decide +kernel
theorem dX8_copy_8 : decode cX8_copy 8 = .ok (.invokestatic 60, 3) := by decide +kernel
theorem dX8_copy_11 : decode cX8_copy 11 = .ok (.ifCond .ne 6, 3) := by decide +kernel
theorem dX8_copy_14 : decode cX8_copy 14 = .ok (.ldc 64, 2) := by decide +kernel
theorem dX8_copy_16 : decode cX8_copy 16 = .ok (.ireturn, 1) := by decide +kernel
theorem dX8_copy_17 : decode cX8_copy 17 = .ok (.aload_n 0, 1) := by decide +kernel
theorem dX8_copy_18 : decode cX8_copy 18 = .ok (.iload_n 1, 1) := by decide +kernel
theorem dX8_copy_19 : decode cX8_copy 19 = .ok (.invokevirtual 72, 3) := by decide +kernel
theorem dX8_copy_22 : decode cX8_copy 22 = .ok (.ifCond .ne 11, 3) := by decide +kernel
theorem dX8_copy_25 : decode cX8_copy 25 = .ok (.aload_n 0, 1) := by decide +kernel
theorem dX8_copy_26 : decode cX8_copy 26 = .ok (.iload_n 3, 1) := by decide +kernel
theorem dX8_copy_27 : decode cX8_copy 27 = .ok (.invokevirtual 72, 3) := by decide +kernel
theorem dX8_copy_30 : decode cX8_copy 30 = .ok (.ifCond .eq 9, 3) := by decide +kernel
theorem dX8_copy_33 : decode cX8_copy 33 = .ok (.aload_n 0, 1) := by decide +kernel
theorem dX8_copy_34 : decode cX8_copy 34 = .ok (.iconst 1, 1) := by decide +kernel
theorem dX8_copy_35 : decode cX8_copy 35 = .ok (.invokevirtual 65, 3) := by decide +kernel
theorem dX8_copy_38 : decode cX8_copy 38 = .ok (.ireturn, 1) := by decide +kernel
theorem dX8_copy_39 : decode cX8_copy 39 = .ok (.aload_n 0, 1) := by decide +kernel
theorem dX8_copy_40 : decode cX8_copy 40 = .ok (.getfield 7, 3) := by decide +kernel
theorem dX8_copy_43 : decode cX8_copy 43 = .ok (.iload_n 1, 1) := by decide +kernel
theorem dX8_copy_44 : decode cX8_copy 44 = .ok (.iaload, 1) := by decide +kernel
theorem dX8_copy_45 : decode cX8_copy 45 = .ok (.aload_n 0, 1) := by decide +kernel
theorem dX8_copy_46 : decode cX8_copy 46 = .ok (.getfield 7, 3) := by decide +kernel
theorem dX8_copy_49 : decode cX8_copy 49 = .ok (.iload_n 3, 1) := by decide +kernel
theorem dX8_copy_50 : decode cX8_copy 50 = .ok (.iaload, 1) := by decide +kernel
theorem dX8_copy_51 : decode cX8_copy 51 = .ok (.if_icmp .eq 9, 3) := by decide +kernel
theorem dX8_copy_54 : decode cX8_copy 54 = .ok (.aload_n 0, 1) := by decide +kernel
theorem dX8_copy_55 : decode cX8_copy 55 = .ok (.iconst 5, 1) := by decide +kernel
theorem dX8_copy_56 : decode cX8_copy 56 = .ok (.invokevirtual 65, 3) := by decide +kernel
theorem dX8_copy_59 : decode cX8_copy 59 = .ok (.ireturn, 1) := by decide +kernel
theorem dX8_copy_60 : decode cX8_copy 60 = .ok (.iload_n 2, 1) := by decide +kernel
theorem dX8_copy_61 : decode cX8_copy 61 = .ok (.ifCond .lt 40, 3) := by decide +kernel
theorem dX8_copy_64 : decode cX8_copy 64 = .ok (.iload 4, 2) := by decide +kernel
theorem dX8_copy_66 : decode cX8_copy 66 = .ok (.ifCond .lt 35, 3) := by decide +kernel
theorem dX8_copy_69 : decode cX8_copy 69 = .ok (.iload 5, 2) := by decide +kernel
theorem dX8_copy_71 : decode cX8_copy 71 = .ok (.ifCond .lt 30, 3) := by decide +kernel
theorem dX8_copy_74 : decode cX8_copy 74 = .ok (.iload 5, 2) := by decide +kernel
theorem dX8_copy_76 : decode cX8_copy 76 = .ok (.aload_n 0, 1) := by decide +kernel
theorem dX8_copy_77 : decode cX8_copy 77 = .ok (.getfield 13, 3) := by decide +kernel
theorem dX8_copy_80 : decode cX8_copy 80 = .ok (.iload_n 1, 1) := by decide +kernel
theorem dX8_copy_81 : decode cX8_copy 81 = .ok (.iaload, 1) := by decide +kernel
theorem dX8_copy_82 : decode cX8_copy 82 = .ok (.iload_n 2, 1) := by decide +kernel
theorem dX8_copy_83 : decode cX8_copy 83 = .ok (.isub, 1) := by decide +kernel
theorem dX8_copy_84 : decode cX8_copy 84 = .ok (.if_icmp .gt 17, 3) := by decide +kernel
theorem dX8_copy_87 : decode cX8_copy 87 = .ok (.iload 5, 2) := by decide +kernel
