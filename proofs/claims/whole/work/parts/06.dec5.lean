theorem dX5_init_0 : decode cX5_init 0 = .ok (.aload_n 0, 1) := by decide +kernel
theorem dX5_init_1 : decode cX5_init 1 = .ok (.invokespecial 1, 3) := by decide +kernel
theorem dX5_init_4 : decode cX5_init 4 = .ok (.aload_n 0, 1) := by decide +kernel
theorem dX5_init_5 : decode cX5_init 5 = .ok (.sipush 147, 3) := by decide +kernel
theorem dX5_init_8 : decode cX5_init 8 = .ok (.newarray .int, 2) := by decide +kernel
theorem dX5_init_10 : decode cX5_init 10 = .ok (.putfield 7, 3) := by decide +kernel
theorem dX5_init_13 : decode cX5_init 13 = .ok (.aload_n 0, 1) := by decide +kernel
theorem dX5_init_14 : decode cX5_init 14 = .ok (.sipush 147, 3) := by decide +kernel
theorem dX5_init_17 : decode cX5_init 17 = .ok (.newarray .int, 2) := by decide +kernel
theorem dX5_init_19 : decode cX5_init 19 = .ok (.putfield 13, 3) := by decide +kernel
theorem dX5_init_22 : decode cX5_init 22 = .ok (.aload_n 0, 1) := by decide +kernel
theorem dX5_init_23 : decode cX5_init 23 = .ok (.sipush 147, 3) := by decide +kernel
theorem dX5_init_26 : decode cX5_init 26 = .ok (.newarray .int, 2) := by decide +kernel
theorem dX5_init_28 : decode cX5_init 28 = .ok (.putfield 16, 3) := by decide +kernel
theorem dX5_init_31 : decode cX5_init 31 = .ok (.aload_n 0, 1) := by decide +kernel
theorem dX5_init_32 : decode cX5_init 32 = .ok (.sipush 147, 3) := by decide +kernel
theorem dX5_init_35 : decode cX5_init 35 = .ok (.newarray .int, 2) := by decide +kernel
theorem dX5_init_37 : decode cX5_init 37 = .ok (.putfield 19, 3) := by decide +kernel
theorem dX5_init_40 : decode cX5_init 40 = .ok (.aload_n 0, 1) := by decide +kernel
theorem dX5_init_41 : decode cX5_init 41 = .ok (.bipush 7, 2) := by decide +kernel
theorem dX5_init_43 : decode cX5_init 43 = .ok (.newarray .int, 2) := by decide +kernel
theorem dX5_init_45 : decode cX5_init 45 = .ok (.putfield 22, 3) := by decide +kernel
theorem dX5_init_48 : decode cX5_init 48 = .ok (.aload_n 0, 1) := by decide +kernel
theorem dX5_init_49 : decode cX5_init 49 = .ok (.sipush 255, 3) := by decide +kernel
theorem dX5_init_52 : decode cX5_init 52 = .ok (.putfield 25, 3) := by decide +kernel
theorem dX5_init_55 : decode cX5_init 55 = .ok (.aload_n 0, 1) := by decide +kernel
theorem dX5_init_56 : decode cX5_init 56 = .ok (.bipush 12, 2) := by decide +kernel
theorem dX5_init_58 : decode cX5_init 58 = .ok (.newarray .int, 2) := by decide +kernel
theorem dX5_init_60 : decode cX5_init 60 = .ok (.putfield 29, 3) := by decide +kernel
theorem dX5_init_63 : decode cX5_init 63 = .ok (.aload_n 0, 1) := by decide +kernel
theorem dX5_init_64 : decode cX5_init 64 = .ok (.bipush 12, 2) := by decide +kernel
theorem dX5_init_66 : decode cX5_init 66 = .ok (.newarray .int, 2) := by decide +kernel
theorem dX5_init_68 : decode cX5_init 68 = .ok (.putfield 32, 3) := by decide +kernel
theorem dX5_init_71 : decode cX5_init 71 = .ok (.aload_n 0, 1) := by decide +kernel
theorem dX5_init_72 : decode cX5_init 72 = .ok (.bipush 120, 2) := by decide +kernel
theorem dX5_init_74 : decode cX5_init 74 = .ok (.newarray .int, 2) := by decide +kernel
theorem dX5_init_76 : decode cX5_init 76 = .ok (.putfield 35, 3) := by decide +kernel
theorem dX5_init_79 : decode cX5_init 79 = .ok (.aload_n 0, 1) := by decide +kernel
theorem dX5_init_80 : decode cX5_init 80 = .ok (.iconst 4, 1) := by decide +kernel
theorem dX5_init_81 : decode cX5_init 81 = .ok (.newarray .int, 2) := by decide +kernel
theorem dX5_init_83 : decode cX5_init 83 = .ok (.putfield 38, 3) := by decide +kernel
theorem dX5_init_86 : decode cX5_init 86 = .ok (.aload_n 0, 1) := by decide +kernel
theorem dX5_init_87 : decode cX5_init 87 = .ok (.iconst 4, 1) := by decide +kernel
theorem dX5_init_88 : decode cX5_init 88 = .ok (.newarray .int, 2) := by decide +kernel
theorem dX5_init_90 : decode cX5_init 90 = .ok (.putfield 41, 3) := by decide +kernel
theorem dX5_init_93 : decode cX5_init 93 = .ok (.aload_n 0, 1) := by decide +kernel
theorem dX5_init_94 : decode cX5_init 94 = .ok (.sipush 160, 3) := by decide +kernel
theorem dX5_init_97 : decode cX5_init 97 = .ok (.newarray .int, 2) := by decide +kernel
theorem dX5_init_99 : decode cX5_init 99 = .ok (.putfield 44, 3) := by decide +kernel
theorem dX5_init_102 : decode cX5_init 102 = .ok (.aload_n 0, 1) := by decide +kernel
theorem dX5_init_103 : decode cX5_init 103 = .ok (.bipush 40, 2) := by decide +kernel
theorem dX5_init_105 : decode cX5_init 105 = .ok (.newarray .int, 2) := by decide +kernel
theorem dX5_init_107 : decode cX5_init 107 = .ok (.putfield 47, 3) := by decide +kernel
theorem dX5_init_110 : decode cX5_init 110 = .ok (.aload_n 0, 1) := by decide +kernel
theorem dX5_init_111 : decode cX5_init 111 = .ok (.getfield 7, 3) := by decide +kernel
theorem dX5_init_114 : decode cX5_init 114 = .ok (.iconst 4, 1) := by decide +kernel
theorem dX5_init_115 : decode cX5_init 115 = .ok (.iconst 1, 1) := by decide +kernel
theorem dX5_init_116 : decode cX5_init 116 = .ok (.iastore, 1) := by decide +kernel
theorem dX5_init_117 : decode cX5_init 117 = .ok (.aload_n 0, 1) := by decide +kernel
theorem dX5_init_118 : decode cX5_init 118 = .ok (.getfield 7, 3) := by decide +kernel
theorem dX5_init_121 : decode cX5_init 121 = .ok (.iconst 2, 1) := by decide +kernel
theorem dX5_init_122 : decode cX5_init 122 = .ok (.iconst 3, 1) := by decide +kernel
theorem dX5_init_123 : decode cX5_init 123 = .ok (.iastore, 1) := by decide +kernel
theorem dX5_init_124 : decode cX5_init 124 = .ok (.iconst 0, 1) := by decide +kernel
theorem dX5_init_125 : decode cX5_init 125 = .ok (.istore_n 1, 1) := by decide +kernel
theorem dX5_init_126 : decode cX5_init 126 = .ok (.iload_n 1, 1) := by decide +kernel
theorem dX5_init_127 : decode cX5_init 127 = .ok (.bipush 10, 2) := by decide +kernel
theorem dX5_init_129 : decode cX5_init 129 = .ok (.if_icmp .ge 20, 3) := by decide +kernel
theorem dX5_init_132 : decode cX5_init 132 = .ok (.aload_n 0, 1) := by decide +kernel
theorem dX5_init_133 : decode cX5_init 133 = .ok (.getfield 7, 3) := by decide +kernel
theorem dX5_init_136 : decode cX5_init 136 = .ok (.sipush 137, 3) := by decide +kernel
theorem dX5_init_139 : decode cX5_init 139 = .ok (.iload_n 1, 1) := by decide +kernel
theorem dX5_init_140 : decode cX5_init 140 = .ok (.iadd, 1) := by decide +kernel
theorem dX5_init_141 : decode cX5_init 141 = .ok (.iconst (-1), 1) := by decide +kernel
theorem dX5_init_142 : decode cX5_init 142 = .ok (.iastore, 1) := by decide +kernel
theorem dX5_init_143 : decode cX5_init 143 = .ok (.iinc 1 1, 3) := by decide +kernel
theorem dX5_init_146 : decode cX5_init 146 = .ok (.goto (-20), 3) := by decide +kernel
theorem dX5_init_149 : decode cX5_init 149 = .ok (.return_, 1) := by decide +kernel
theorem dX5_in_0 : decode cX5_in 0 = .ok (.lload_n 0, 1) := by decide +kernel
theorem dX5_in_1 : decode cX5_in 1 = .ok (.lload_n 2, 1) := by decide +kernel
theorem dX5_in_2 : decode cX5_in 2 = .ok (.lcmp, 1) := by decide +kernel
theorem dX5_in_3 : decode cX5_in 3 = .ok (.ifCond .lt 14, 3) := by decide +kernel
theorem dX5_in_6 : decode cX5_in 6 = .ok (.lload_n 0, 1) := by decide +kernel
theorem dX5_in_7 : decode cX5_in 7 = .ok (.lload 4, 2) := by decide +kernel
theorem dX5_in_9 : decode cX5_in 9 = .ok (.lcmp, 1) := by decide +kernel
theorem dX5_in_10 : decode cX5_in 10 = .ok (.ifCond .gt 7, 3) := by decide +kernel
theorem dX5_in_13 : decode cX5_in 13 = .ok (.iconst 1, 1) := by decide +kernel
theorem dX5_in_14 : decode cX5_in 14 = .ok (.goto 4, 3) := by decide +kernel
theorem dX5_in_17 : decode cX5_in 17 = .ok (.iconst 0, 1) := by decide +kernel
theorem dX5_in_18 : decode cX5_in 18 = .ok (.ireturn, 1) := by decide +kernel
theorem dX5_finds_0 : decode cX5_finds 0 = .ok (.aload_n 0, 1) := by decide +kernel
theorem dX5_finds_1 : decode cX5_finds 1 = .ok (.getfield 22, 3) := by decide +kernel
theorem dX5_finds_4 : decode cX5_finds 4 = .ok (.ldc 50, 2) := by decide +kernel
theorem dX5_finds_6 : decode cX5_finds 6 = .ok (.iload_n 1, 1) := by decide +kernel
theorem dX5_finds_7 : decode cX5_finds 7 = .ok (.isub, 1) := by decide +kernel
theorem dX5_finds_8 : decode cX5_finds 8 = .ok (.dup2, 1) := by decide +kernel
theorem dX5_finds_9 : decode cX5_finds 9 = .ok (.iaload, 1) := by decide +kernel
theorem dX5_finds_10 : decode cX5_finds 10 = .ok (.iconst 1, 1) := by decide +kernel
theorem dX5_finds_11 : decode cX5_finds 11 = .ok (.iadd, 1) := by decide +kernel
theorem dX5_finds_12 : decode cX5_finds 12 = .ok (.iastore, 1) := by decide +kernel
theorem dX5_finds_13 : decode cX5_finds 13 = .ok (.iload_n 1, 1) := by decide +kernel
theorem dX5_finds_14 : decode cX5_finds 14 = .ok (.ireturn, 1) := by decide +kernel
theorem dX5_saves_0 : decode cX5_saves 0 = .ok (.iconst 0, 1) := by decide +kernel
theorem dX5_saves_1 : decode cX5_saves 1 = .ok (.istore_n 1, 1) := by decide +kernel
theorem dX5_saves_2 : decode cX5_saves 2 = .ok (.iload_n 1, 1) := by decide +kernel
theorem dX5_saves_3 : decode cX5_saves 3 = .ok (.sipush 147, 3) := by decide +kernel
theorem dX5_saves_6 : decode cX5_saves 6 = .ok (.if_icmp .ge 21, 3) := by decide +kernel
theorem dX5_saves_9 : decode cX5_saves 9 = .ok (.aload_n 0, 1) := by decide +kernel
theorem dX5_saves_10 : decode cX5_saves 10 = .ok (.getfield 16, 3) := by decide +kernel
theorem dX5_saves_13 : decode cX5_saves 13 = .ok (.iload_n 1, 1) := by decide +kernel
theorem dX5_saves_14 : decode cX5_saves 14 = .ok (.aload_n 0, 1) := by decide +kernel
theorem dX5_saves_15 : decode cX5_saves 15 = .ok (.getfield 7, 3) := by decide +kernel
theorem dX5_saves_18 : decode cX5_saves 18 = .ok (.iload_n 1, 1) := by decide +kernel
theorem dX5_saves_19 : decode cX5_saves 19 = .ok (.iaload, 1) := by decide +kernel
theorem dX5_saves_20 : decode cX5_saves 20 = .ok (.iastore, 1) := by decide +kernel
theorem dX5_saves_21 : decode cX5_saves 21 = .ok (.iinc 1 1, 3) := by decide +kernel
theorem dX5_saves_24 : decode cX5_saves 24 = .ok (.goto (-22), 3) := by decide +kernel
theorem dX5_saves_27 : decode cX5_saves 27 = .ok (.return_, 1) := by decide +kernel
theorem dX5_putsBack_0 : decode cX5_putsBack 0 = .ok (.iconst 0, 1) := by decide +kernel
theorem dX5_putsBack_1 : decode cX5_putsBack 1 = .ok (.istore_n 1, 1) := by decide +kernel
theorem dX5_putsBack_2 : decode cX5_putsBack 2 = .ok (.iload_n 1, 1) := by decide +kernel
theorem dX5_putsBack_3 : decode cX5_putsBack 3 = .ok (.sipush 147, 3) := by decide +kernel
theorem dX5_putsBack_6 : decode cX5_putsBack 6 = .ok (.if_icmp .ge 21, 3) := by decide +kernel
theorem dX5_putsBack_9 : decode cX5_putsBack 9 = .ok (.aload_n 0, 1) := by decide +kernel
theorem dX5_putsBack_10 : decode cX5_putsBack 10 = .ok (.getfield 7, 3) := by decide +kernel
theorem dX5_putsBack_13 : decode cX5_putsBack 13 = .ok (.iload_n 1, 1) := by decide +kernel
theorem dX5_putsBack_14 : decode cX5_putsBack 14 = .ok (.aload_n 0, 1) := by decide +kernel
theorem dX5_putsBack_15 : decode cX5_putsBack 15 = .ok (.getfield 16, 3) := by decide +kernel
theorem dX5_putsBack_18 : decode cX5_putsBack 18 = .ok (.iload_n 1, 1) := by decide +kernel
theorem dX5_putsBack_19 : decode cX5_putsBack 19 = .ok (.iaload, 1) := by decide +kernel
theorem dX5_putsBack_20 : decode cX5_putsBack 20 = .ok (.iastore, 1) := by decide +kernel
theorem dX5_putsBack_21 : decode cX5_putsBack 21 = .ok (.iinc 1 1, 3) := by decide +kernel
theorem dX5_putsBack_24 : decode cX5_putsBack 24 = .ok (.goto (-22), 3) := by decide +kernel
theorem dX5_putsBack_27 : decode cX5_putsBack 27 = .ok (.return_, 1) := by decide +kernel
theorem dX5_laysAside_0 : decode cX5_laysAside 0 = .ok (.iconst 0, 1) := by decide +kernel
theorem dX5_laysAside_1 : decode cX5_laysAside 1 = .ok (.istore_n 1, 1) := by decide +kernel
theorem dX5_laysAside_2 : decode cX5_laysAside 2 = .ok (.iload_n 1, 1) := by decide +kernel
theorem dX5_laysAside_3 : decode cX5_laysAside 3 = .ok (.sipush 147, 3) := by decide +kernel
theorem dX5_laysAside_6 : decode cX5_laysAside 6 = .ok (.if_icmp .ge 21, 3) := by decide +kernel
theorem dX5_laysAside_9 : decode cX5_laysAside 9 = .ok (.aload_n 0, 1) := by decide +kernel
theorem dX5_laysAside_10 : decode cX5_laysAside 10 = .ok (.getfield 19, 3) := by decide +kernel
theorem dX5_laysAside_13 : decode cX5_laysAside 13 = .ok (.iload_n 1, 1) := by decide +kernel
theorem dX5_laysAside_14 : decode cX5_laysAside 14 = .ok (.aload_n 0, 1) := by decide +kernel
theorem dX5_laysAside_15 : decode cX5_laysAside 15 = .ok (.getfield 7, 3) := by decide +kernel
theorem dX5_laysAside_18 : decode cX5_laysAside 18 = .ok (.iload_n 1, 1) := by decide +kernel
theorem dX5_laysAside_19 : decode cX5_laysAside 19 = .ok (.iaload, 1) := by decide +kernel
theorem dX5_laysAside_20 : decode cX5_laysAside 20 = .ok (.iastore, 1) := by decide +kernel
theorem dX5_laysAside_21 : decode cX5_laysAside 21 = .ok (.iinc 1 1, 3) := by decide +kernel
theorem dX5_laysAside_24 : decode cX5_laysAside 24 = .ok (.goto (-22), 3) := by decide +kernel
theorem dX5_laysAside_27 : decode cX5_laysAside 27 = .ok (.return_, 1) := by decide +kernel
theorem dX5_takesBack_0 : decode cX5_takesBack 0 = .ok (.iconst 0, 1) := by decide +kernel
theorem dX5_takesBack_1 : decode cX5_takesBack 1 = .ok (.istore_n 2, 1) := by decide +kernel
theorem dX5_takesBack_2 : decode cX5_takesBack 2 = .ok (.iload_n 2, 1) := by decide +kernel
theorem dX5_takesBack_3 : decode cX5_takesBack 3 = .ok (.sipush 147, 3) := by decide +kernel
theorem dX5_takesBack_6 : decode cX5_takesBack 6 = .ok (.if_icmp .ge 21, 3) := by decide +kernel
theorem dX5_takesBack_9 : decode cX5_takesBack 9 = .ok (.aload_n 0, 1) := by decide +kernel
theorem dX5_takesBack_10 : decode cX5_takesBack 10 = .ok (.getfield 7, 3) := by decide +kernel
theorem dX5_takesBack_13 : decode cX5_takesBack 13 = .ok (.iload_n 2, 1) := by decide +kernel
theorem dX5_takesBack_14 : decode cX5_takesBack 14 = .ok (.aload_n 0, 1) := by decide +kernel
theorem dX5_takesBack_15 : decode cX5_takesBack 15 = .ok (.getfield 19, 3) := by decide +kernel
theorem dX5_takesBack_18 : decode cX5_takesBack 18 = .ok (.iload_n 2, 1) := by decide +kernel
theorem dX5_takesBack_19 : decode cX5_takesBack 19 = .ok (.iaload, 1) := by decide +kernel
theorem dX5_takesBack_20 : decode cX5_takesBack 20 = .ok (.iastore, 1) := by decide +kernel
theorem dX5_takesBack_21 : decode cX5_takesBack 21 = .ok (.iinc 2 1, 3) := by decide +kernel
theorem dX5_takesBack_24 : decode cX5_takesBack 24 = .ok (.goto (-22), 3) := by decide +kernel
theorem dX5_takesBack_27 : decode cX5_takesBack 27 = .ok (.iload_n 1, 1) := by decide +kernel
theorem dX5_takesBack_28 : decode cX5_takesBack 28 = .ok (.ireturn, 1) := by decide +kernel
theorem dX5_becomes_0 : decode cX5_becomes 0 = .ok (.aload_n 0, 1) := by decide +kernel
theorem dX5_becomes_1 : decode cX5_becomes 1 = .ok (.getfield 7, 3) := by decide +kernel
theorem dX5_becomes_4 : decode cX5_becomes 4 = .ok (.iload_n 1, 1) := by decide +kernel
theorem dX5_becomes_5 : decode cX5_becomes 5 = .ok (.iaload, 1) := by decide +kernel
theorem dX5_becomes_6 : decode cX5_becomes 6 = .ok (.istore_n 3, 1) := by decide +kernel
theorem dX5_becomes_7 : decode cX5_becomes 7 = .ok (.aload_n 0, 1) := by decide +kernel
theorem dX5_becomes_8 : decode cX5_becomes 8 = .ok (.getfield 7, 3) := by decide +kernel
theorem dX5_becomes_11 : decode cX5_becomes 11 = .ok (.iload_n 1, 1) := by decide +kernel
theorem dX5_becomes_12 : decode cX5_becomes 12 = .ok (.iload_n 2, 1) := by decide +kernel
theorem dX5_becomes_13 : decode cX5_becomes 13 = .ok (.iastore, 1) := by decide +kernel
theorem dX5_becomes_14 : decode cX5_becomes 14 = .ok (.iload_n 3, 1) := by decide +kernel
theorem dX5_becomes_15 : decode cX5_becomes 15 = .ok (.ireturn, 1) := by decide +kernel
theorem dX5_isSurface_0 : decode cX5_isSurface 0 = .ok (.iload_n 0, 1) := by decide +kernel
theorem dX5_isSurface_1 : decode cX5_isSurface 1 = .ok (.i2l, 1) := by decide +kernel
theorem dX5_isSurface_2 : decode cX5_isSurface 2 = .ok (.lconst 0, 1) := by decide +kernel
theorem dX5_isSurface_3 : decode cX5_isSurface 3 = .ok (.ldc2_w 51, 3) := by decide +kernel
theorem dX5_isSurface_6 : decode cX5_isSurface 6 = .ok (.invokestatic 53, 3) := by decide +kernel
theorem dX5_isSurface_9 : decode cX5_isSurface 9 = .ok (.ireturn, 1) := by decide +kernel
theorem dX5_isTenant_0 : decode cX5_isTenant 0 = .ok (.iload_n 1, 1) := by decide +kernel
theorem dX5_isTenant_1 : decode cX5_isTenant 1 = .ok (.i2l, 1) := by decide +kernel
theorem dX5_isTenant_2 : decode cX5_isTenant 2 = .ok (.lconst 0, 1) := by decide +kernel
theorem dX5_isTenant_3 : decode cX5_isTenant 3 = .ok (.aload_n 0, 1) := by decide +kernel
theorem dX5_isTenant_4 : decode cX5_isTenant 4 = .ok (.getfield 7, 3) := by decide +kernel
theorem dX5_isTenant_7 : decode cX5_isTenant 7 = .ok (.iconst 1, 1) := by decide +kernel
theorem dX5_isTenant_8 : decode cX5_isTenant 8 = .ok (.iaload, 1) := by decide +kernel
theorem dX5_isTenant_9 : decode cX5_isTenant 9 = .ok (.iconst 1, 1) := by decide +kernel
theorem dX5_isTenant_10 : decode cX5_isTenant 10 = .ok (.isub, 1) := by decide +kernel
theorem dX5_isTenant_11 : decode cX5_isTenant 11 = .ok (.i2l, 1) := by decide +kernel
theorem dX5_isTenant_12 : decode cX5_isTenant 12 = .ok (.invokestatic 53, 3) := by decide +kernel
theorem dX5_isTenant_15 : decode cX5_isTenant 15 = .ok (.ireturn, 1) := by decide +kernel
theorem dX5_place_0 : decode cX5_place 0 = .ok (.bipush 17, 2) := by decide +kernel
theorem dX5_place_2 : decode cX5_place 2 = .ok (.iconst 3, 1) := by decide +kernel
theorem dX5_place_3 : decode cX5_place 3 = .ok (.iload_n 0, 1) := by decide +kernel
theorem dX5_place_4 : decode cX5_place 4 = .ok (.imul, 1) := by decide +kernel
theorem dX5_place_5 : decode cX5_place 5 = .ok (.iadd, 1) := by decide +kernel
theorem dX5_place_6 : decode cX5_place 6 = .ok (.iload_n 1, 1) := by decide +kernel
theorem dX5_place_7 : decode cX5_place 7 = .ok (.iadd, 1) := by decide +kernel
theorem dX5_place_8 : decode cX5_place 8 = .ok (.ireturn, 1) := by decide +kernel
theorem dX5_its_0 : decode cX5_its 0 = .ok (.aload_n 0, 1) := by decide +kernel
theorem dX5_its_1 : decode cX5_its 1 = .ok (.getfield 7, 3) := by decide +kernel
theorem dX5_its_4 : decode cX5_its 4 = .ok (.iload_n 1, 1) := by decide +kernel
theorem dX5_its_5 : decode cX5_its 5 = .ok (.iload_n 2, 1) := by decide +kernel
theorem dX5_its_6 : decode cX5_its 6 = .ok (.invokestatic 57, 3) := by decide +kernel
theorem dX5_its_9 : decode cX5_its 9 = .ok (.iaload, 1) := by decide +kernel
theorem dX5_its_10 : decode cX5_its 10 = .ok (.ireturn, 1) := by decide +kernel
theorem dX5_markAt_0 : decode cX5_markAt 0 = .ok (.bipush 41, 2) := by decide +kernel
theorem dX5_markAt_2 : decode cX5_markAt 2 = .ok (.bipush 12, 2) := by decide +kernel
theorem dX5_markAt_4 : decode cX5_markAt 4 = .ok (.iload_n 0, 1) := by decide +kernel
theorem dX5_markAt_5 : decode cX5_markAt 5 = .ok (.imul, 1) := by decide +kernel
theorem dX5_markAt_6 : decode cX5_markAt 6 = .ok (.iadd, 1) := by decide +kernel
theorem dX5_markAt_7 : decode cX5_markAt 7 = .ok (.iload_n 1, 1) := by decide +kernel
theorem dX5_markAt_8 : decode cX5_markAt 8 = .ok (.iadd, 1) := by decide +kernel
theorem dX5_markAt_9 : decode cX5_markAt 9 = .ok (.ireturn, 1) := by decide +kernel
theorem dX5_heldTo_0 : decode cX5_heldTo 0 = .ok (.iload_n 0, 1) := by decide +kernel
theorem dX5_heldTo_1 : decode cX5_heldTo 1 = .ok (.iload_n 1, 1) := by decide +kernel
theorem dX5_heldTo_2 : decode cX5_heldTo 2 = .ok (.if_icmp .le 7, 3) := by decide +kernel
theorem dX5_heldTo_5 : decode cX5_heldTo 5 = .ok (.iload_n 1, 1) := by decide +kernel
theorem dX5_heldTo_6 : decode cX5_heldTo 6 = .ok (.goto 4, 3) := by decide +kernel
theorem dX5_heldTo_9 : decode cX5_heldTo 9 = .ok (.iload_n 0, 1) := by decide +kernel
theorem dX5_heldTo_10 : decode cX5_heldTo 10 = .ok (.ireturn, 1) := by decide +kernel
theorem dX5_round_0 : decode cX5_round 0 = .ok (.iload_n 0, 1) := by decide +kernel
theorem dX5_round_1 : decode cX5_round 1 = .ok (.bipush 24, 2) := by decide +kernel
theorem dX5_round_3 : decode cX5_round 3 = .ok (.iadd, 1) := by decide +kernel
theorem dX5_round_4 : decode cX5_round 4 = .ok (.bipush 12, 2) := by decide +kernel
theorem dX5_round_6 : decode cX5_round 6 = .ok (.irem, 1) := by decide +kernel
theorem dX5_round_7 : decode cX5_round 7 = .ok (.ireturn, 1) := by decide +kernel
theorem dX5_dust_0 : decode cX5_dust 0 = .ok (.iload_n 1, 1) := by decide +kernel
theorem dX5_dust_1 : decode cX5_dust 1 = .ok (.invokestatic 61, 3) := by decide +kernel
theorem dX5_dust_4 : decode cX5_dust 4 = .ok (.ifCond .eq 26, 3) := by decide +kernel
theorem dX5_dust_7 : decode cX5_dust 7 = .ok (.iload_n 2, 1) := by decide +kernel
theorem dX5_dust_8 : decode cX5_dust 8 = .ok (.i2l, 1) := by decide +kernel
theorem dX5_dust_9 : decode cX5_dust 9 = .ok (.lconst 0, 1) := by decide +kernel
theorem dX5_dust_10 : decode cX5_dust 10 = .ok (.ldc2_w 65, 3) := by decide +kernel
theorem dX5_dust_13 : decode cX5_dust 13 = .ok (.invokestatic 53, 3) := by decide +kernel
theorem dX5_dust_16 : decode cX5_dust 16 = .ok (.ifCond .eq 14, 3) := by decide +kernel
theorem dX5_dust_19 : decode cX5_dust 19 = .ok (.aload_n 0, 1) := by decide +kernel
theorem dX5_dust_20 : decode cX5_dust 20 = .ok (.iconst 5, 1) := by decide +kernel
theorem dX5_dust_21 : decode cX5_dust 21 = .ok (.iload_n 1, 1) := by decide +kernel
theorem dX5_dust_22 : decode cX5_dust 22 = .ok (.iadd, 1) := by decide +kernel
theorem dX5_dust_23 : decode cX5_dust 23 = .ok (.iload_n 2, 1) := by decide +kernel
theorem dX5_dust_24 : decode cX5_dust 24 = .ok (.invokevirtual 67, 3) := by decide +kernel
theorem dX5_dust_27 : decode cX5_dust 27 = .ok (.goto 9, 3) := by decide +kernel
theorem dX5_dust_30 : decode cX5_dust 30 = .ok (.aload_n 0, 1) := by decide +kernel
theorem dX5_dust_31 : decode cX5_dust 31 = .ok (.ldc 50, 2) := by decide +kernel
theorem dX5_dust_33 : decode cX5_dust 33 = .ok (.invokevirtual 70, 3) := by decide +kernel
theorem dX5_dust_36 : decode cX5_dust 36 = .ok (.ireturn, 1) := by decide +kernel
theorem dX5_holderOf_0 : decode cX5_holderOf 0 = .ok (.iconst (-1), 1) := by decide +kernel
theorem dX5_holderOf_1 : decode cX5_holderOf 1 = .ok (.istore_n 2, 1) := by decide +kernel
theorem dX5_holderOf_2 : decode cX5_holderOf 2 = .ok (.iconst 0, 1) := by decide +kernel
theorem dX5_holderOf_3 : decode cX5_holderOf 3 = .ok (.istore_n 3, 1) := by decide +kernel
theorem dX5_holderOf_4 : decode cX5_holderOf 4 = .ok (.iconst 0, 1) := by decide +kernel
theorem dX5_holderOf_5 : decode cX5_holderOf 5 = .ok (.istore 4, 2) := by decide +kernel
theorem dX5_holderOf_7 : decode cX5_holderOf 7 = .ok (.iload 4, 2) := by decide +kernel
theorem dX5_holderOf_9 : decode cX5_holderOf 9 = .ok (.aload_n 0, 1) := by decide +kernel
theorem dX5_holderOf_10 : decode cX5_holderOf 10 = .ok (.getfield 7, 3) := by decide +kernel
theorem dX5_holderOf_13 : decode cX5_holderOf 13 = .ok (.iconst 1, 1) := by decide +kernel
theorem dX5_holderOf_14 : decode cX5_holderOf 14 = .ok (.iaload, 1) := by decide +kernel
theorem dX5_holderOf_15 : decode cX5_holderOf 15 = .ok (.if_icmp .ge 48, 3) := by decide +kernel
theorem dX5_holderOf_18 : decode cX5_holderOf 18 = .ok (.aload_n 0, 1) := by decide +kernel
theorem dX5_holderOf_19 : decode cX5_holderOf 19 = .ok (.getfield 7, 3) := by decide +kernel
theorem dX5_holderOf_22 : decode cX5_holderOf 22 = .ok (.iload 4, 2) := by decide +kernel
theorem dX5_holderOf_24 : decode cX5_holderOf 24 = .ok (.iload_n 1, 1) := by decide +kernel
theorem dX5_holderOf_25 : decode cX5_holderOf 25 = .ok (.invokestatic 74, 3) := by decide +kernel
theorem dX5_holderOf_28 : decode cX5_holderOf 28 = .ok (.iaload, 1) := by decide +kernel
theorem dX5_holderOf_29 : decode cX5_holderOf 29 = .ok (.istore 5, 2) := by decide +kernel
theorem dX5_holderOf_31 : decode cX5_holderOf 31 = .ok (.iload 5, 2) := by decide +kernel
theorem dX5_holderOf_33 : decode cX5_holderOf 33 = .ok (.iload_n 3, 1) := by decide +kernel
theorem dX5_holderOf_34 : decode cX5_holderOf 34 = .ok (.if_icmp .le 8, 3) := by decide +kernel
theorem dX5_holderOf_37 : decode cX5_holderOf 37 = .ok (.iload 4, 2) := by decide +kernel
theorem dX5_holderOf_39 : decode cX5_holderOf 39 = .ok (.goto 4, 3) := by decide +kernel
theorem dX5_holderOf_42 : decode cX5_holderOf 42 = .ok (.iload_n 2, 1) := by decide +kernel
theorem dX5_holderOf_43 : decode cX5_holderOf 43 = .ok (.istore_n 2, 1) := by decide +kernel
theorem dX5_holderOf_44 : decode cX5_holderOf 44 = .ok (.iload 5, 2) := by decide +kernel
theorem dX5_holderOf_46 : decode cX5_holderOf 46 = .ok (.iload_n 3, 1) := by decide +kernel
theorem dX5_holderOf_47 : decode cX5_holderOf 47 = .ok (.if_icmp .le 8, 3) := by decide +kernel
theorem dX5_holderOf_50 : decode cX5_holderOf 50 = .ok (.iload 5, 2) := by decide +kernel
theorem dX5_holderOf_52 : decode cX5_holderOf 52 = .ok (.goto 4, 3) := by decide +kernel
theorem dX5_holderOf_55 : decode cX5_holderOf 55 = .ok (.iload_n 3, 1) := by decide +kernel
theorem dX5_holderOf_56 : decode cX5_holderOf 56 = .ok (.istore_n 3, 1) := by decide +kernel
theorem dX5_holderOf_57 : decode cX5_holderOf 57 = .ok (.iinc 4 1, 3) := by decide +kernel
theorem dX5_holderOf_60 : decode cX5_holderOf 60 = .ok (.goto (-53), 3) := by decide +kernel
theorem dX5_holderOf_63 : decode cX5_holderOf 63 = .ok (.iload_n 2, 1) := by decide +kernel
theorem dX5_holderOf_64 : decode cX5_holderOf 64 = .ok (.ireturn, 1) := by decide +kernel
theorem dX5_thoseAt_0 : decode cX5_thoseAt 0 = .ok (.iconst 0, 1) := by decide +kernel
theorem dX5_thoseAt_1 : decode cX5_thoseAt 1 = .ok (.istore_n 2, 1) := by decide +kernel
theorem dX5_thoseAt_2 : decode cX5_thoseAt 2 = .ok (.iconst 0, 1) := by decide +kernel
theorem dX5_thoseAt_3 : decode cX5_thoseAt 3 = .ok (.istore_n 3, 1) := by decide +kernel
theorem dX5_thoseAt_4 : decode cX5_thoseAt 4 = .ok (.iload_n 3, 1) := by decide +kernel
theorem dX5_thoseAt_5 : decode cX5_thoseAt 5 = .ok (.aload_n 0, 1) := by decide +kernel
theorem dX5_thoseAt_6 : decode cX5_thoseAt 6 = .ok (.getfield 7, 3) := by decide +kernel
theorem dX5_thoseAt_9 : decode cX5_thoseAt 9 = .ok (.iconst 1, 1) := by decide +kernel
theorem dX5_thoseAt_10 : decode cX5_thoseAt 10 = .ok (.iaload, 1) := by decide +kernel
theorem dX5_thoseAt_11 : decode cX5_thoseAt 11 = .ok (.if_icmp .ge 29, 3) := by decide +kernel
theorem dX5_thoseAt_14 : decode cX5_thoseAt 14 = .ok (.iload_n 2, 1) := by decide +kernel
theorem dX5_thoseAt_15 : decode cX5_thoseAt 15 = .ok (.aload_n 0, 1) := by decide +kernel
theorem dX5_thoseAt_16 : decode cX5_thoseAt 16 = .ok (.iload_n 3, 1) := by decide +kernel
theorem dX5_thoseAt_17 : decode cX5_thoseAt 17 = .ok (.iconst 1, 1) := by decide +kernel
theorem dX5_thoseAt_18 : decode cX5_thoseAt 18 = .ok (.invokevirtual 77, 3) := by decide +kernel
theorem dX5_thoseAt_21 : decode cX5_thoseAt 21 = .ok (.iload_n 1, 1) := by decide +kernel
theorem dX5_thoseAt_22 : decode cX5_thoseAt 22 = .ok (.if_icmp .ne 9, 3) := by decide +kernel
theorem dX5_thoseAt_25 : decode cX5_thoseAt 25 = .ok (.iconst 1, 1) := by decide +kernel
theorem dX5_thoseAt_26 : decode cX5_thoseAt 26 = .ok (.iload_n 3, 1) := by decide +kernel
theorem dX5_thoseAt_27 : decode cX5_thoseAt 27 = .ok (.ishl, 1) := by decide +kernel
theorem dX5_thoseAt_28 : decode cX5_thoseAt 28 = .ok (.goto 4, 3) := by decide +kernel
theorem dX5_thoseAt_31 : decode cX5_thoseAt 31 = .ok (.iconst 0, 1) := by decide +kernel
theorem dX5_thoseAt_32 : decode cX5_thoseAt 32 = .ok (.ior, 1) := by decide +kernel
theorem dX5_thoseAt_33 : decode cX5_thoseAt 33 = .ok (.istore_n 2, 1) := by decide +kernel
theorem dX5_thoseAt_34 : decode cX5_thoseAt 34 = .ok (.iinc 3 1, 3) := by decide +kernel
theorem dX5_thoseAt_37 : decode cX5_thoseAt 37 = .ok (.goto (-33), 3) := by decide +kernel
theorem dX5_thoseAt_40 : decode cX5_thoseAt 40 = .ok (.iload_n 2, 1) := by decide +kernel
theorem dX5_thoseAt_41 : decode cX5_thoseAt 41 = .ok (.ireturn, 1) := by decide +kernel
theorem dX5_surface_0 : decode cX5_surface 0 = .ok (.iload_n 1, 1) := by decide +kernel
theorem dX5_surface_1 : decode cX5_surface 1 = .ok (.invokestatic 61, 3) := by decide +kernel
theorem dX5_surface_4 : decode cX5_surface 4 = .ok (.ifCond .eq 15, 3) := by decide +kernel
theorem dX5_surface_7 : decode cX5_surface 7 = .ok (.iload_n 2, 1) := by decide +kernel
theorem dX5_surface_8 : decode cX5_surface 8 = .ok (.i2l, 1) := by decide +kernel
theorem dX5_surface_9 : decode cX5_surface 9 = .ok (.lconst 0, 1) := by decide +kernel
theorem dX5_surface_10 : decode cX5_surface 10 = .ok (.ldc2_w 80, 3) := by decide +kernel
theorem dX5_surface_13 : decode cX5_surface 13 = .ok (.invokestatic 53, 3) := by decide +kernel
theorem dX5_surface_16 : decode cX5_surface 16 = .ok (.ifCond .ne 10, 3) := by decide +kernel
theorem dX5_surface_19 : decode cX5_surface 19 = .ok (.aload_n 0, 1) := by decide +kernel
theorem dX5_surface_20 : decode cX5_surface 20 = .ok (.ldc 50, 2) := by decide +kernel
theorem dX5_surface_22 : decode cX5_surface 22 = .ok (.invokevirtual 70, 3) := by decide +kernel
theorem dX5_surface_25 : decode cX5_surface 25 = .ok (.ireturn, 1) := by decide +kernel
theorem dX5_surface_26 : decode cX5_surface 26 = .ok (.aload_n 0, 1) := by decide +kernel
theorem dX5_surface_27 : decode cX5_surface 27 = .ok (.iload_n 1, 1) := by decide +kernel
theorem dX5_surface_28 : decode cX5_surface 28 = .ok (.invokevirtual 82, 3) := by decide +kernel
theorem dX5_surface_31 : decode cX5_surface 31 = .ok (.istore_n 3, 1) := by decide +kernel
theorem dX5_surface_32 : decode cX5_surface 32 = .ok (.iload_n 2, 1) := by decide +kernel
theorem dX5_surface_33 : decode cX5_surface 33 = .ok (.tableswitch 44 0 2 #[27, 36, 38], 27) := by decide +kernel
theorem dX5_surface_60 : decode cX5_surface 60 = .ok (.aload_n 0, 1) := by decide +kernel
theorem dX5_surface_61 : decode cX5_surface 61 = .ok (.getfield 7, 3) := by decide +kernel
theorem dX5_surface_64 : decode cX5_surface 64 = .ok (.iconst 5, 1) := by decide +kernel
theorem dX5_surface_65 : decode cX5_surface 65 = .ok (.iload_n 1, 1) := by decide +kernel
theorem dX5_surface_66 : decode cX5_surface 66 = .ok (.iadd, 1) := by decide +kernel
theorem dX5_surface_67 : decode cX5_surface 67 = .ok (.iaload, 1) := by decide +kernel
theorem dX5_surface_68 : decode cX5_surface 68 = .ok (.ireturn, 1) := by decide +kernel
theorem dX5_surface_69 : decode cX5_surface 69 = .ok (.iload_n 3, 1) := by decide +kernel
theorem dX5_surface_70 : decode cX5_surface 70 = .ok (.ireturn, 1) := by decide +kernel
theorem dX5_surface_71 : decode cX5_surface 71 = .ok (.aload_n 0, 1) := by decide +kernel
theorem dX5_surface_72 : decode cX5_surface 72 = .ok (.iload_n 1, 1) := by decide +kernel
theorem dX5_surface_73 : decode cX5_surface 73 = .ok (.invokevirtual 85, 3) := by decide +kernel
theorem dX5_surface_76 : decode cX5_surface 76 = .ok (.ireturn, 1) := by decide +kernel
theorem dX5_surface_77 : decode cX5_surface 77 = .ok (.iload_n 3, 1) := by decide +kernel
theorem dX5_surface_78 : decode cX5_surface 78 = .ok (.ifCond .ge 7, 3) := by decide +kernel
theorem dX5_surface_81 : decode cX5_surface 81 = .ok (.iconst 0, 1) := by decide +kernel
theorem dX5_surface_82 : decode cX5_surface 82 = .ok (.goto 13, 3) := by decide +kernel
theorem dX5_surface_85 : decode cX5_surface 85 = .ok (.aload_n 0, 1) := by decide +kernel
theorem dX5_surface_86 : decode cX5_surface 86 = .ok (.getfield 7, 3) := by decide +kernel
theorem dX5_surface_89 : decode cX5_surface 89 = .ok (.iload_n 3, 1) := by decide +kernel
theorem dX5_surface_90 : decode cX5_surface 90 = .ok (.iload_n 1, 1) := by decide +kernel
theorem dX5_surface_91 : decode cX5_surface 91 = .ok (.invokestatic 74, 3) := by decide +kernel
theorem dX5_surface_94 : decode cX5_surface 94 = .ok (.iaload, 1) := by decide +kernel
theorem dX5_surface_95 : decode cX5_surface 95 = .ok (.ireturn, 1) := by decide +kernel
theorem dX5_law_0 : decode cX5_law 0 = .ok (.iload_n 1, 1) := by decide +kernel
theorem dX5_law_1 : decode cX5_law 1 = .ok (.ifCond .ne 15, 3) := by decide +kernel
theorem dX5_law_4 : decode cX5_law 4 = .ok (.iload_n 2, 1) := by decide +kernel
theorem dX5_law_5 : decode cX5_law 5 = .ok (.i2l, 1) := by decide +kernel
theorem dX5_law_6 : decode cX5_law 6 = .ok (.lconst 0, 1) := by decide +kernel
theorem dX5_law_7 : decode cX5_law 7 = .ok (.ldc2_w 88, 3) := by decide +kernel
theorem dX5_law_10 : decode cX5_law 10 = .ok (.invokestatic 53, 3) := by decide +kernel
theorem dX5_law_13 : decode cX5_law 13 = .ok (.goto 27, 3) := by decide +kernel
theorem dX5_law_16 : decode cX5_law 16 = .ok (.iload_n 1, 1) := by decide +kernel
theorem dX5_law_17 : decode cX5_law 17 = .ok (.iconst 1, 1) := by decide +kernel
theorem dX5_law_18 : decode cX5_law 18 = .ok (.if_icmp .ne 21, 3) := by decide +kernel
theorem dX5_law_21 : decode cX5_law 21 = .ok (.iload_n 2, 1) := by decide +kernel
theorem dX5_law_22 : decode cX5_law 22 = .ok (.i2l, 1) := by decide +kernel
theorem dX5_law_23 : decode cX5_law 23 = .ok (.ldc2_w 90, 3) := by decide +kernel
theorem dX5_law_26 : decode cX5_law 26 = .ok (.ldc2_w 80, 3) := by decide +kernel
theorem dX5_law_29 : decode cX5_law 29 = .ok (.invokestatic 53, 3) := by decide +kernel
theorem dX5_law_32 : decode cX5_law 32 = .ok (.ifCond .eq 7, 3) := by decide +kernel
theorem dX5_law_35 : decode cX5_law 35 = .ok (.iconst 1, 1) := by decide +kernel
theorem dX5_law_36 : decode cX5_law 36 = .ok (.goto 4, 3) := by decide +kernel
theorem dX5_law_39 : decode cX5_law 39 = .ok (.iconst 0, 1) := by decide +kernel
theorem dX5_law_40 : decode cX5_law 40 = .ok (.istore_n 3, 1) := by decide +kernel
theorem dX5_law_41 : decode cX5_law 41 = .ok (.iload_n 3, 1) := by decide +kernel
theorem dX5_law_42 : decode cX5_law 42 = .ok (.ifCond .eq 20, 3) := by decide +kernel
theorem dX5_law_45 : decode cX5_law 45 = .ok (.aload_n 0, 1) := by decide +kernel
theorem dX5_law_46 : decode cX5_law 46 = .ok (.iload_n 1, 1) := by decide +kernel
theorem dX5_law_47 : decode cX5_law 47 = .ok (.ifCond .ne 7, 3) := by decide +kernel
theorem dX5_law_50 : decode cX5_law 50 = .ok (.iconst 2, 1) := by decide +kernel
theorem dX5_law_51 : decode cX5_law 51 = .ok (.goto 4, 3) := by decide +kernel
theorem dX5_law_54 : decode cX5_law 54 = .ok (.iconst 3, 1) := by decide +kernel
theorem dX5_law_55 : decode cX5_law 55 = .ok (.iload_n 2, 1) := by decide +kernel
theorem dX5_law_56 : decode cX5_law 56 = .ok (.invokevirtual 67, 3) := by decide +kernel
theorem dX5_law_59 : decode cX5_law 59 = .ok (.goto 9, 3) := by decide +kernel
theorem dX5_law_62 : decode cX5_law 62 = .ok (.aload_n 0, 1) := by decide +kernel
theorem dX5_law_63 : decode cX5_law 63 = .ok (.ldc 50, 2) := by decide +kernel
theorem dX5_law_65 : decode cX5_law 65 = .ok (.invokevirtual 70, 3) := by decide +kernel
theorem dX5_law_68 : decode cX5_law 68 = .ok (.ireturn, 1) := by decide +kernel
theorem dX5_adds_0 : decode cX5_adds 0 = .ok (.aload_n 0, 1) := by decide +kernel
theorem dX5_adds_1 : decode cX5_adds 1 = .ok (.getfield 7, 3) := by decide +kernel
theorem dX5_adds_4 : decode cX5_adds 4 = .ok (.iconst 1, 1) := by decide +kernel
theorem dX5_adds_5 : decode cX5_adds 5 = .ok (.iaload, 1) := by decide +kernel
theorem dX5_adds_6 : decode cX5_adds 6 = .ok (.istore_n 3, 1) := by decide +kernel
theorem dX5_adds_7 : decode cX5_adds 7 = .ok (.aload_n 0, 1) := by decide +kernel
theorem dX5_adds_8 : decode cX5_adds 8 = .ok (.getfield 7, 3) := by decide +kernel
theorem dX5_adds_11 : decode cX5_adds 11 = .ok (.iload_n 3, 1) := by decide +kernel
theorem dX5_adds_12 : decode cX5_adds 12 = .ok (.iconst 0, 1) := by decide +kernel
theorem dX5_adds_13 : decode cX5_adds 13 = .ok (.invokestatic 57, 3) := by decide +kernel
theorem dX5_adds_16 : decode cX5_adds 16 = .ok (.iload_n 1, 1) := by decide +kernel
theorem dX5_adds_17 : decode cX5_adds 17 = .ok (.iastore, 1) := by decide +kernel
theorem dX5_adds_18 : decode cX5_adds 18 = .ok (.aload_n 0, 1) := by decide +kernel
theorem dX5_adds_19 : decode cX5_adds 19 = .ok (.getfield 7, 3) := by decide +kernel
theorem dX5_adds_22 : decode cX5_adds 22 = .ok (.iload_n 3, 1) := by decide +kernel
theorem dX5_adds_23 : decode cX5_adds 23 = .ok (.iconst 1, 1) := by decide +kernel
theorem dX5_adds_24 : decode cX5_adds 24 = .ok (.invokestatic 57, 3) := by decide +kernel
theorem dX5_adds_27 : decode cX5_adds 27 = .ok (.iload_n 2, 1) := by decide +kernel
theorem dX5_adds_28 : decode cX5_adds 28 = .ok (.iastore, 1) := by decide +kernel
theorem dX5_adds_29 : decode cX5_adds 29 = .ok (.aload_n 0, 1) := by decide +kernel
theorem dX5_adds_30 : decode cX5_adds 30 = .ok (.getfield 7, 3) := by decide +kernel
theorem dX5_adds_33 : decode cX5_adds 33 = .ok (.iload_n 3, 1) := by decide +kernel
theorem dX5_adds_34 : decode cX5_adds 34 = .ok (.iconst 2, 1) := by decide +kernel
theorem dX5_adds_35 : decode cX5_adds 35 = .ok (.invokestatic 57, 3) := by decide +kernel
theorem dX5_adds_38 : decode cX5_adds 38 = .ok (.iconst 0, 1) := by decide +kernel
theorem dX5_adds_39 : decode cX5_adds 39 = .ok (.iastore, 1) := by decide +kernel
theorem dX5_adds_40 : decode cX5_adds 40 = .ok (.iconst 0, 1) := by decide +kernel
theorem dX5_adds_41 : decode cX5_adds 41 = .ok (.istore 4, 2) := by decide +kernel
theorem dX5_adds_43 : decode cX5_adds 43 = .ok (.iload 4, 2) := by decide +kernel
theorem dX5_adds_45 : decode cX5_adds 45 = .ok (.bipush 12, 2) := by decide +kernel
theorem dX5_adds_47 : decode cX5_adds 47 = .ok (.if_icmp .ge 21, 3) := by decide +kernel
theorem dX5_adds_50 : decode cX5_adds 50 = .ok (.aload_n 0, 1) := by decide +kernel
theorem dX5_adds_51 : decode cX5_adds 51 = .ok (.getfield 7, 3) := by decide +kernel
theorem dX5_adds_54 : decode cX5_adds 54 = .ok (.iload_n 3, 1) := by decide +kernel
theorem dX5_adds_55 : decode cX5_adds 55 = .ok (.iload 4, 2) := by decide +kernel
theorem dX5_adds_57 : decode cX5_adds 57 = .ok (.invokestatic 74, 3) := by decide +kernel
theorem dX5_adds_60 : decode cX5_adds 60 = .ok (.iconst 0, 1) := by decide +kernel
theorem dX5_adds_61 : decode cX5_adds 61 = .ok (.iastore, 1) := by decide +kernel
theorem dX5_adds_62 : decode cX5_adds 62 = .ok (.iinc 4 1, 3) := by decide +kernel
theorem dX5_adds_65 : decode cX5_adds 65 = .ok (.goto (-22), 3) := by decide +kernel
theorem dX5_adds_68 : decode cX5_adds 68 = .ok (.aload_n 0, 1) := by decide +kernel
theorem dX5_adds_69 : decode cX5_adds 69 = .ok (.getfield 7, 3) := by decide +kernel
theorem dX5_adds_72 : decode cX5_adds 72 = .ok (.iconst 1, 1) := by decide +kernel
theorem dX5_adds_73 : decode cX5_adds 73 = .ok (.dup2, 1) := by decide +kernel
theorem dX5_adds_74 : decode cX5_adds 74 = .ok (.iaload, 1) := by decide +kernel
theorem dX5_adds_75 : decode cX5_adds 75 = .ok (.iconst 1, 1) := by decide +kernel
theorem dX5_adds_76 : decode cX5_adds 76 = .ok (.iadd, 1) := by decide +kernel
theorem dX5_adds_77 : decode cX5_adds 77 = .ok (.iastore, 1) := by decide +kernel
theorem dX5_adds_78 : decode cX5_adds 78 = .ok (.iload_n 3, 1) := by decide +kernel
theorem dX5_adds_79 : decode cX5_adds 79 = .ok (.ireturn, 1) := by decide +kernel
theorem dX5_isKind_0 : decode cX5_isKind 0 = .ok (.iload_n 0, 1) := by decide +kernel
theorem dX5_isKind_1 : decode cX5_isKind 1 = .ok (.i2l, 1) := by decide +kernel
theorem dX5_isKind_2 : decode cX5_isKind 2 = .ok (.lconst 0, 1) := by decide +kernel
theorem dX5_isKind_3 : decode cX5_isKind 3 = .ok (.ldc2_w 92, 3) := by decide +kernel
theorem dX5_isKind_6 : decode cX5_isKind 6 = .ok (.invokestatic 53, 3) := by decide +kernel
theorem dX5_isKind_9 : decode cX5_isKind 9 = .ok (.ireturn, 1) := by decide +kernel
theorem dX5_tenant_0 : decode cX5_tenant 0 = .ok (.iload_n 1, 1) := by decide +kernel
theorem dX5_tenant_1 : decode cX5_tenant 1 = .ok (.invokestatic 94, 3) := by decide +kernel
theorem dX5_tenant_4 : decode cX5_tenant 4 = .ok (.ifCond .eq 10, 3) := by decide +kernel
theorem dX5_tenant_7 : decode cX5_tenant 7 = .ok (.iload_n 2, 1) := by decide +kernel
theorem dX5_tenant_8 : decode cX5_tenant 8 = .ok (.invokestatic 61, 3) := by decide +kernel
theorem dX5_tenant_11 : decode cX5_tenant 11 = .ok (.ifCond .ne 10, 3) := by decide +kernel
theorem dX5_tenant_14 : decode cX5_tenant 14 = .ok (.aload_n 0, 1) := by decide +kernel
theorem dX5_tenant_15 : decode cX5_tenant 15 = .ok (.ldc 50, 2) := by decide +kernel
theorem dX5_tenant_17 : decode cX5_tenant 17 = .ok (.invokevirtual 70, 3) := by decide +kernel
theorem dX5_tenant_20 : decode cX5_tenant 20 = .ok (.ireturn, 1) := by decide +kernel
theorem dX5_tenant_21 : decode cX5_tenant 21 = .ok (.aload_n 0, 1) := by decide +kernel
theorem dX5_tenant_22 : decode cX5_tenant 22 = .ok (.getfield 7, 3) := by decide +kernel
theorem dX5_tenant_25 : decode cX5_tenant 25 = .ok (.iconst 1, 1) := by decide +kernel
theorem dX5_tenant_26 : decode cX5_tenant 26 = .ok (.iaload, 1) := by decide +kernel
theorem dX5_tenant_27 : decode cX5_tenant 27 = .ok (.bipush 8, 2) := by decide +kernel
theorem dX5_tenant_29 : decode cX5_tenant 29 = .ok (.if_icmp .ne 12, 3) := by decide +kernel
theorem dX5_tenant_32 : decode cX5_tenant 32 = .ok (.aload_n 0, 1) := by decide +kernel
theorem dX5_tenant_33 : decode cX5_tenant 33 = .ok (.ldc 97, 2) := by decide +kernel
theorem dX5_tenant_35 : decode cX5_tenant 35 = .ok (.invokevirtual 70, 3) := by decide +kernel
theorem dX5_tenant_38 : decode cX5_tenant 38 = .ok (.goto 9, 3) := by decide +kernel
theorem dX5_tenant_41 : decode cX5_tenant 41 = .ok (.aload_n 0, 1) := by decide +kernel
theorem dX5_tenant_42 : decode cX5_tenant 42 = .ok (.iload_n 1, 1) := by decide +kernel
theorem dX5_tenant_43 : decode cX5_tenant 43 = .ok (.iload_n 2, 1) := by decide +kernel
theorem dX5_tenant_44 : decode cX5_tenant 44 = .ok (.invokevirtual 98, 3) := by decide +kernel
theorem dX5_tenant_47 : decode cX5_tenant 47 = .ok (.ireturn, 1) := by decide +kernel
theorem dX5_leaves_0 : decode cX5_leaves 0 = .ok (.aload_n 0, 1) := by decide +kernel
theorem dX5_leaves_1 : decode cX5_leaves 1 = .ok (.getfield 7, 3) := by decide +kernel
theorem dX5_leaves_4 : decode cX5_leaves 4 = .ok (.iconst 5, 1) := by decide +kernel
theorem dX5_leaves_5 : decode cX5_leaves 5 = .ok (.aload_n 0, 1) := by decide +kernel
theorem dX5_leaves_6 : decode cX5_leaves 6 = .ok (.iload_n 1, 1) := by decide +kernel
theorem dX5_leaves_7 : decode cX5_leaves 7 = .ok (.iconst 1, 1) := by decide +kernel
theorem dX5_leaves_8 : decode cX5_leaves 8 = .ok (.invokevirtual 77, 3) := by decide +kernel
theorem dX5_leaves_11 : decode cX5_leaves 11 = .ok (.iadd, 1) := by decide +kernel
theorem dX5_leaves_12 : decode cX5_leaves 12 = .ok (.iaload, 1) := by decide +kernel
theorem dX5_leaves_13 : decode cX5_leaves 13 = .ok (.bipush 100, 2) := by decide +kernel
theorem dX5_leaves_15 : decode cX5_leaves 15 = .ok (.if_icmp .lt 7, 3) := by decide +kernel
theorem dX5_leaves_18 : decode cX5_leaves 18 = .ok (.iconst 5, 1) := by decide +kernel
theorem dX5_leaves_19 : decode cX5_leaves 19 = .ok (.goto 4, 3) := by decide +kernel
theorem dX5_leaves_22 : decode cX5_leaves 22 = .ok (.iconst 1, 1) := by decide +kernel
theorem dX5_leaves_23 : decode cX5_leaves 23 = .ok (.istore_n 2, 1) := by decide +kernel
theorem dX5_leaves_24 : decode cX5_leaves 24 = .ok (.aload_n 0, 1) := by decide +kernel
theorem dX5_leaves_25 : decode cX5_leaves 25 = .ok (.iload_n 1, 1) := by decide +kernel
theorem dX5_leaves_26 : decode cX5_leaves 26 = .ok (.iconst 0, 1) := by decide +kernel
theorem dX5_leaves_27 : decode cX5_leaves 27 = .ok (.invokevirtual 77, 3) := by decide +kernel
theorem dX5_leaves_30 : decode cX5_leaves 30 = .ok (.tableswitch 63 1 6 #[38, 44, 46, 48, 61, 41], 38) := by decide +kernel
theorem dX5_leaves_68 : decode cX5_leaves 68 = .ok (.bipush 6, 2) := by decide +kernel
theorem dX5_leaves_70 : decode cX5_leaves 70 = .ok (.ireturn, 1) := by decide +kernel
theorem dX5_leaves_71 : decode cX5_leaves 71 = .ok (.bipush 7, 2) := by decide +kernel
theorem dX5_leaves_73 : decode cX5_leaves 73 = .ok (.ireturn, 1) := by decide +kernel
theorem dX5_leaves_74 : decode cX5_leaves 74 = .ok (.iconst 1, 1) := by decide +kernel
theorem dX5_leaves_75 : decode cX5_leaves 75 = .ok (.ireturn, 1) := by decide +kernel
theorem dX5_leaves_76 : decode cX5_leaves 76 = .ok (.iload_n 2, 1) := by decide +kernel
theorem dX5_leaves_77 : decode cX5_leaves 77 = .ok (.ireturn, 1) := by decide +kernel
theorem dX5_leaves_78 : decode cX5_leaves 78 = .ok (.iload_n 2, 1) := by decide +kernel
theorem dX5_leaves_79 : decode cX5_leaves 79 = .ok (.aload_n 0, 1) := by decide +kernel
theorem dX5_leaves_80 : decode cX5_leaves 80 = .ok (.iload_n 1, 1) := by decide +kernel
theorem dX5_leaves_81 : decode cX5_leaves 81 = .ok (.iconst 2, 1) := by decide +kernel
theorem dX5_leaves_82 : decode cX5_leaves 82 = .ok (.invokevirtual 77, 3) := by decide +kernel
theorem dX5_leaves_85 : decode cX5_leaves 85 = .ok (.sipush 1000, 3) := by decide +kernel
theorem dX5_leaves_88 : decode cX5_leaves 88 = .ok (.idiv, 1) := by decide +kernel
theorem dX5_leaves_89 : decode cX5_leaves 89 = .ok (.iadd, 1) := by decide +kernel
theorem dX5_leaves_90 : decode cX5_leaves 90 = .ok (.ireturn, 1) := by decide +kernel
theorem dX5_leaves_91 : decode cX5_leaves 91 = .ok (.iconst 0, 1) := by decide +kernel
theorem dX5_leaves_92 : decode cX5_leaves 92 = .ok (.ireturn, 1) := by decide +kernel
theorem dX5_leaves_93 : decode cX5_leaves 93 = .ok (.iconst 3, 1) := by decide +kernel
theorem dX5_leaves_94 : decode cX5_leaves 94 = .ok (.ireturn, 1) := by decide +kernel
theorem dX5_sweeps_0 : decode cX5_sweeps 0 = .ok (.aload_n 0, 1) := by decide +kernel
theorem dX5_sweeps_1 : decode cX5_sweeps 1 = .ok (.iload_n 1, 1) := by decide +kernel
theorem dX5_sweeps_2 : decode cX5_sweeps 2 = .ok (.iconst 0, 1) := by decide +kernel
theorem dX5_sweeps_3 : decode cX5_sweeps 3 = .ok (.invokevirtual 77, 3) := by decide +kernel
theorem dX5_sweeps_6 : decode cX5_sweeps 6 = .ok (.tableswitch 44 2 6 #[36, 39, 39, 42, 34], 34) := by decide +kernel
theorem dX5_sweeps_40 : decode cX5_sweeps 40 = .ok (.iconst 1, 1) := by decide +kernel
theorem dX5_sweeps_41 : decode cX5_sweeps 41 = .ok (.ireturn, 1) := by decide +kernel
theorem dX5_sweeps_42 : decode cX5_sweeps 42 = .ok (.bipush 20, 2) := by decide +kernel
theorem dX5_sweeps_44 : decode cX5_sweeps 44 = .ok (.ireturn, 1) := by decide +kernel
theorem dX5_sweeps_45 : decode cX5_sweeps 45 = .ok (.bipush 10, 2) := by decide +kernel
theorem dX5_sweeps_47 : decode cX5_sweeps 47 = .ok (.ireturn, 1) := by decide +kernel
theorem dX5_sweeps_48 : decode cX5_sweeps 48 = .ok (.iconst 5, 1) := by decide +kernel
theorem dX5_sweeps_49 : decode cX5_sweeps 49 = .ok (.ireturn, 1) := by decide +kernel
theorem dX5_sweeps_50 : decode cX5_sweeps 50 = .ok (.iconst 0, 1) := by decide +kernel
theorem dX5_sweeps_51 : decode cX5_sweeps 51 = .ok (.ireturn, 1) := by decide +kernel
theorem dX5_heldBy_0 : decode cX5_heldBy 0 = .ok (.iconst 0, 1) := by decide +kernel
theorem dX5_heldBy_1 : decode cX5_heldBy 1 = .ok (.istore_n 2, 1) := by decide +kernel
theorem dX5_heldBy_2 : decode cX5_heldBy 2 = .ok (.iconst 0, 1) := by decide +kernel
theorem dX5_heldBy_3 : decode cX5_heldBy 3 = .ok (.istore_n 3, 1) := by decide +kernel
theorem dX5_heldBy_4 : decode cX5_heldBy 4 = .ok (.iload_n 3, 1) := by decide +kernel
theorem dX5_heldBy_5 : decode cX5_heldBy 5 = .ok (.bipush 12, 2) := by decide +kernel
theorem dX5_heldBy_7 : decode cX5_heldBy 7 = .ok (.if_icmp .ge 28, 3) := by decide +kernel
theorem dX5_heldBy_10 : decode cX5_heldBy 10 = .ok (.iload_n 2, 1) := by decide +kernel
theorem dX5_heldBy_11 : decode cX5_heldBy 11 = .ok (.aload_n 0, 1) := by decide +kernel
theorem dX5_heldBy_12 : decode cX5_heldBy 12 = .ok (.iload_n 3, 1) := by decide +kernel
theorem dX5_heldBy_13 : decode cX5_heldBy 13 = .ok (.invokevirtual 82, 3) := by decide +kernel
theorem dX5_heldBy_16 : decode cX5_heldBy 16 = .ok (.iload_n 1, 1) := by decide +kernel
theorem dX5_heldBy_17 : decode cX5_heldBy 17 = .ok (.if_icmp .ne 9, 3) := by decide +kernel
theorem dX5_heldBy_20 : decode cX5_heldBy 20 = .ok (.iconst 1, 1) := by decide +kernel
theorem dX5_heldBy_21 : decode cX5_heldBy 21 = .ok (.iload_n 3, 1) := by decide +kernel
theorem dX5_heldBy_22 : decode cX5_heldBy 22 = .ok (.ishl, 1) := by decide +kernel
theorem dX5_heldBy_23 : decode cX5_heldBy 23 = .ok (.goto 4, 3) := by decide +kernel
theorem dX5_heldBy_26 : decode cX5_heldBy 26 = .ok (.iconst 0, 1) := by decide +kernel
theorem dX5_heldBy_27 : decode cX5_heldBy 27 = .ok (.ior, 1) := by decide +kernel
theorem dX5_heldBy_28 : decode cX5_heldBy 28 = .ok (.istore_n 2, 1) := by decide +kernel
theorem dX5_heldBy_29 : decode cX5_heldBy 29 = .ok (.iinc 3 1, 3) := by decide +kernel
theorem dX5_heldBy_32 : decode cX5_heldBy 32 = .ok (.goto (-28), 3) := by decide +kernel
theorem dX5_heldBy_35 : decode cX5_heldBy 35 = .ok (.iload_n 2, 1) := by decide +kernel
theorem dX5_heldBy_36 : decode cX5_heldBy 36 = .ok (.ireturn, 1) := by decide +kernel
theorem dX5_marksOf_0 : decode cX5_marksOf 0 = .ok (.iconst 0, 1) := by decide +kernel
theorem dX5_marksOf_1 : decode cX5_marksOf 1 = .ok (.istore_n 2, 1) := by decide +kernel
theorem dX5_marksOf_2 : decode cX5_marksOf 2 = .ok (.iconst 0, 1) := by decide +kernel
theorem dX5_marksOf_3 : decode cX5_marksOf 3 = .ok (.istore_n 3, 1) := by decide +kernel
theorem dX5_marksOf_4 : decode cX5_marksOf 4 = .ok (.iload_n 3, 1) := by decide +kernel
theorem dX5_marksOf_5 : decode cX5_marksOf 5 = .ok (.bipush 12, 2) := by decide +kernel
theorem dX5_marksOf_7 : decode cX5_marksOf 7 = .ok (.if_icmp .ge 22, 3) := by decide +kernel
theorem dX5_marksOf_10 : decode cX5_marksOf 10 = .ok (.iload_n 2, 1) := by decide +kernel
theorem dX5_marksOf_11 : decode cX5_marksOf 11 = .ok (.aload_n 0, 1) := by decide +kernel
theorem dX5_marksOf_12 : decode cX5_marksOf 12 = .ok (.getfield 7, 3) := by decide +kernel
theorem dX5_marksOf_15 : decode cX5_marksOf 15 = .ok (.iload_n 1, 1) := by decide +kernel
theorem dX5_marksOf_16 : decode cX5_marksOf 16 = .ok (.iload_n 3, 1) := by decide +kernel
theorem dX5_marksOf_17 : decode cX5_marksOf 17 = .ok (.invokestatic 74, 3) := by decide +kernel
theorem dX5_marksOf_20 : decode cX5_marksOf 20 = .ok (.iaload, 1) := by decide +kernel
theorem dX5_marksOf_21 : decode cX5_marksOf 21 = .ok (.iadd, 1) := by decide +kernel
theorem dX5_marksOf_22 : decode cX5_marksOf 22 = .ok (.istore_n 2, 1) := by decide +kernel
theorem dX5_marksOf_23 : decode cX5_marksOf 23 = .ok (.iinc 3 1, 3) := by decide +kernel
theorem dX5_marksOf_26 : decode cX5_marksOf 26 = .ok (.goto (-22), 3) := by decide +kernel
theorem dX5_marksOf_29 : decode cX5_marksOf 29 = .ok (.iload_n 2, 1) := by decide +kernel
theorem dX5_marksOf_30 : decode cX5_marksOf 30 = .ok (.ireturn, 1) := by decide +kernel
theorem dX5_of_0 : decode cX5_of 0 = .ok (.aload_n 0, 1) := by decide +kernel
theorem dX5_of_1 : decode cX5_of 1 = .ok (.iload_n 1, 1) := by decide +kernel
theorem dX5_of_2 : decode cX5_of 2 = .ok (.invokevirtual 101, 3) := by decide +kernel
theorem dX5_of_5 : decode cX5_of 5 = .ok (.ifCond .eq 15, 3) := by decide +kernel
theorem dX5_of_8 : decode cX5_of 8 = .ok (.iload_n 2, 1) := by decide +kernel
theorem dX5_of_9 : decode cX5_of 9 = .ok (.i2l, 1) := by decide +kernel
theorem dX5_of_10 : decode cX5_of 10 = .ok (.lconst 0, 1) := by decide +kernel
theorem dX5_of_11 : decode cX5_of 11 = .ok (.ldc2_w 92, 3) := by decide +kernel
theorem dX5_of_14 : decode cX5_of 14 = .ok (.invokestatic 53, 3) := by decide +kernel
theorem dX5_of_17 : decode cX5_of 17 = .ok (.ifCond .ne 10, 3) := by decide +kernel
theorem dX5_of_20 : decode cX5_of 20 = .ok (.aload_n 0, 1) := by decide +kernel
theorem dX5_of_21 : decode cX5_of 21 = .ok (.ldc 50, 2) := by decide +kernel
theorem dX5_of_23 : decode cX5_of 23 = .ok (.invokevirtual 70, 3) := by decide +kernel
theorem dX5_of_26 : decode cX5_of 26 = .ok (.ireturn, 1) := by decide +kernel
theorem dX5_of_27 : decode cX5_of 27 = .ok (.iload_n 2, 1) := by decide +kernel
theorem dX5_of_28 : decode cX5_of 28 = .ok (.tableswitch 56 3 6 #[32, 38, 44, 50], 32) := by decide +kernel
theorem dX5_of_60 : decode cX5_of 60 = .ok (.aload_n 0, 1) := by decide +kernel
theorem dX5_of_61 : decode cX5_of 61 = .ok (.iload_n 1, 1) := by decide +kernel
theorem dX5_of_62 : decode cX5_of 62 = .ok (.invokevirtual 104, 3) := by decide +kernel
theorem dX5_of_65 : decode cX5_of 65 = .ok (.ireturn, 1) := by decide +kernel
theorem dX5_of_66 : decode cX5_of 66 = .ok (.aload_n 0, 1) := by decide +kernel
theorem dX5_of_67 : decode cX5_of 67 = .ok (.iload_n 1, 1) := by decide +kernel
theorem dX5_of_68 : decode cX5_of 68 = .ok (.invokevirtual 107, 3) := by decide +kernel
theorem dX5_of_71 : decode cX5_of 71 = .ok (.ireturn, 1) := by decide +kernel
theorem dX5_of_72 : decode cX5_of 72 = .ok (.aload_n 0, 1) := by decide +kernel
theorem dX5_of_73 : decode cX5_of 73 = .ok (.iload_n 1, 1) := by decide +kernel
theorem dX5_of_74 : decode cX5_of 74 = .ok (.invokevirtual 110, 3) := by decide +kernel
theorem dX5_of_77 : decode cX5_of 77 = .ok (.ireturn, 1) := by decide +kernel
theorem dX5_of_78 : decode cX5_of 78 = .ok (.aload_n 0, 1) := by decide +kernel
theorem dX5_of_79 : decode cX5_of 79 = .ok (.iload_n 1, 1) := by decide +kernel
theorem dX5_of_80 : decode cX5_of 80 = .ok (.invokevirtual 113, 3) := by decide +kernel
theorem dX5_of_83 : decode cX5_of 83 = .ok (.ireturn, 1) := by decide +kernel
theorem dX5_of_84 : decode cX5_of 84 = .ok (.aload_n 0, 1) := by decide +kernel
theorem dX5_of_85 : decode cX5_of 85 = .ok (.iload_n 1, 1) := by decide +kernel
theorem dX5_of_86 : decode cX5_of 86 = .ok (.iload_n 2, 1) := by decide +kernel
theorem dX5_of_87 : decode cX5_of 87 = .ok (.invokevirtual 77, 3) := by decide +kernel
theorem dX5_of_90 : decode cX5_of 90 = .ok (.ireturn, 1) := by decide +kernel
theorem dX5_change_0 : decode cX5_change 0 = .ok (.iload_n 2, 1) := by decide +kernel
theorem dX5_change_1 : decode cX5_change 1 = .ok (.ifCond .ne 10, 3) := by decide +kernel
theorem dX5_change_4 : decode cX5_change 4 = .ok (.iload_n 3, 1) := by decide +kernel
theorem dX5_change_5 : decode cX5_change 5 = .ok (.invokestatic 94, 3) := by decide +kernel
theorem dX5_change_8 : decode cX5_change 8 = .ok (.goto 37, 3) := by decide +kernel
theorem dX5_change_11 : decode cX5_change 11 = .ok (.iload_n 2, 1) := by decide +kernel
theorem dX5_change_12 : decode cX5_change 12 = .ok (.iconst 1, 1) := by decide +kernel
theorem dX5_change_13 : decode cX5_change 13 = .ok (.if_icmp .ne 10, 3) := by decide +kernel
theorem dX5_change_16 : decode cX5_change 16 = .ok (.iload_n 3, 1) := by decide +kernel
theorem dX5_change_17 : decode cX5_change 17 = .ok (.invokestatic 61, 3) := by decide +kernel
theorem dX5_change_20 : decode cX5_change 20 = .ok (.goto 25, 3) := by decide +kernel
theorem dX5_change_23 : decode cX5_change 23 = .ok (.iload_n 2, 1) := by decide +kernel
theorem dX5_change_24 : decode cX5_change 24 = .ok (.iconst 2, 1) := by decide +kernel
theorem dX5_change_25 : decode cX5_change 25 = .ok (.if_icmp .ne 19, 3) := by decide +kernel
theorem dX5_change_28 : decode cX5_change 28 = .ok (.iload_n 3, 1) := by decide +kernel
theorem dX5_change_29 : decode cX5_change 29 = .ok (.i2l, 1) := by decide +kernel
theorem dX5_change_30 : decode cX5_change 30 = .ok (.lconst 0, 1) := by decide +kernel
theorem dX5_change_31 : decode cX5_change 31 = .ok (.ldc2_w 116, 3) := by decide +kernel
theorem dX5_change_34 : decode cX5_change 34 = .ok (.invokestatic 53, 3) := by decide +kernel
theorem dX5_change_37 : decode cX5_change 37 = .ok (.ifCond .eq 7, 3) := by decide +kernel
theorem dX5_change_40 : decode cX5_change 40 = .ok (.iconst 1, 1) := by decide +kernel
theorem dX5_change_41 : decode cX5_change 41 = .ok (.goto 4, 3) := by decide +kernel
theorem dX5_change_44 : decode cX5_change 44 = .ok (.iconst 0, 1) := by decide +kernel
theorem dX5_change_45 : decode cX5_change 45 = .ok (.istore 4, 2) := by decide +kernel
theorem dX5_change_47 : decode cX5_change 47 = .ok (.aload_n 0, 1) := by decide +kernel
theorem dX5_change_48 : decode cX5_change 48 = .ok (.iload_n 1, 1) := by decide +kernel
theorem dX5_change_49 : decode cX5_change 49 = .ok (.invokevirtual 101, 3) := by decide +kernel
theorem dX5_change_52 : decode cX5_change 52 = .ok (.ifCond .eq 21, 3) := by decide +kernel
theorem dX5_change_55 : decode cX5_change 55 = .ok (.iload 4, 2) := by decide +kernel
theorem dX5_change_57 : decode cX5_change 57 = .ok (.ifCond .eq 16, 3) := by decide +kernel
theorem dX5_change_60 : decode cX5_change 60 = .ok (.aload_n 0, 1) := by decide +kernel
theorem dX5_change_61 : decode cX5_change 61 = .ok (.iload_n 1, 1) := by decide +kernel
theorem dX5_change_62 : decode cX5_change 62 = .ok (.iload_n 2, 1) := by decide +kernel
theorem dX5_change_63 : decode cX5_change 63 = .ok (.invokestatic 57, 3) := by decide +kernel
theorem dX5_change_66 : decode cX5_change 66 = .ok (.iload_n 3, 1) := by decide +kernel
theorem dX5_change_67 : decode cX5_change 67 = .ok (.invokevirtual 67, 3) := by decide +kernel
theorem dX5_change_70 : decode cX5_change 70 = .ok (.goto 9, 3) := by decide +kernel
theorem dX5_change_73 : decode cX5_change 73 = .ok (.aload_n 0, 1) := by decide +kernel
theorem dX5_change_74 : decode cX5_change 74 = .ok (.ldc 50, 2) := by decide +kernel
theorem dX5_change_76 : decode cX5_change 76 = .ok (.invokevirtual 70, 3) := by decide +kernel
theorem dX5_change_79 : decode cX5_change 79 = .ok (.ireturn, 1) := by decide +kernel
theorem dX5_mark_0 : decode cX5_mark 0 = .ok (.aload_n 0, 1) := by decide +kernel
theorem dX5_mark_1 : decode cX5_mark 1 = .ok (.iload_n 1, 1) := by decide +kernel
theorem dX5_mark_2 : decode cX5_mark 2 = .ok (.invokevirtual 101, 3) := by decide +kernel
theorem dX5_mark_5 : decode cX5_mark 5 = .ok (.ifCond .eq 23, 3) := by decide +kernel
theorem dX5_mark_8 : decode cX5_mark 8 = .ok (.iload_n 2, 1) := by decide +kernel
theorem dX5_mark_9 : decode cX5_mark 9 = .ok (.invokestatic 61, 3) := by decide +kernel
theorem dX5_mark_12 : decode cX5_mark 12 = .ok (.ifCond .eq 16, 3) := by decide +kernel
theorem dX5_mark_15 : decode cX5_mark 15 = .ok (.aload_n 0, 1) := by decide +kernel
theorem dX5_mark_16 : decode cX5_mark 16 = .ok (.getfield 7, 3) := by decide +kernel
theorem dX5_mark_19 : decode cX5_mark 19 = .ok (.iload_n 1, 1) := by decide +kernel
theorem dX5_mark_20 : decode cX5_mark 20 = .ok (.iload_n 2, 1) := by decide +kernel
theorem dX5_mark_21 : decode cX5_mark 21 = .ok (.invokestatic 74, 3) := by decide +kernel
theorem dX5_mark_24 : decode cX5_mark 24 = .ok (.iaload, 1) := by decide +kernel
theorem dX5_mark_25 : decode cX5_mark 25 = .ok (.goto 9, 3) := by decide +kernel
theorem dX5_mark_28 : decode cX5_mark 28 = .ok (.aload_n 0, 1) := by decide +kernel
theorem dX5_mark_29 : decode cX5_mark 29 = .ok (.ldc 50, 2) := by decide +kernel
theorem dX5_mark_31 : decode cX5_mark 31 = .ok (.invokevirtual 70, 3) := by decide +kernel
theorem dX5_mark_34 : decode cX5_mark 34 = .ok (.ireturn, 1) := by decide +kernel
theorem dX5_charter_0 : decode cX5_charter 0 = .ok (.aload_n 0, 1) := by decide +kernel
theorem dX5_charter_1 : decode cX5_charter 1 = .ok (.iload_n 1, 1) := by decide +kernel
theorem dX5_charter_2 : decode cX5_charter 2 = .ok (.invokevirtual 101, 3) := by decide +kernel
theorem dX5_charter_5 : decode cX5_charter 5 = .ok (.ifCond .eq 35, 3) := by decide +kernel
theorem dX5_charter_8 : decode cX5_charter 8 = .ok (.iload_n 2, 1) := by decide +kernel
theorem dX5_charter_9 : decode cX5_charter 9 = .ok (.invokestatic 61, 3) := by decide +kernel
theorem dX5_charter_12 : decode cX5_charter 12 = .ok (.ifCond .eq 28, 3) := by decide +kernel
theorem dX5_charter_15 : decode cX5_charter 15 = .ok (.iload_n 3, 1) := by decide +kernel
theorem dX5_charter_16 : decode cX5_charter 16 = .ok (.i2l, 1) := by decide +kernel
theorem dX5_charter_17 : decode cX5_charter 17 = .ok (.lconst 0, 1) := by decide +kernel
theorem dX5_charter_18 : decode cX5_charter 18 = .ok (.ldc2_w 88, 3) := by decide +kernel
theorem dX5_charter_21 : decode cX5_charter 21 = .ok (.invokestatic 53, 3) := by decide +kernel
theorem dX5_charter_24 : decode cX5_charter 24 = .ok (.ifCond .eq 16, 3) := by decide +kernel
theorem dX5_charter_27 : decode cX5_charter 27 = .ok (.aload_n 0, 1) := by decide +kernel
theorem dX5_charter_28 : decode cX5_charter 28 = .ok (.iload_n 1, 1) := by decide +kernel
theorem dX5_charter_29 : decode cX5_charter 29 = .ok (.iload_n 2, 1) := by decide +kernel
theorem dX5_charter_30 : decode cX5_charter 30 = .ok (.invokestatic 74, 3) := by decide +kernel
theorem dX5_charter_33 : decode cX5_charter 33 = .ok (.iload_n 3, 1) := by decide +kernel
theorem dX5_charter_34 : decode cX5_charter 34 = .ok (.invokevirtual 67, 3) := by decide +kernel
theorem dX5_charter_37 : decode cX5_charter 37 = .ok (.goto 9, 3) := by decide +kernel
theorem dX5_charter_40 : decode cX5_charter 40 = .ok (.aload_n 0, 1) := by decide +kernel
theorem dX5_charter_41 : decode cX5_charter 41 = .ok (.ldc 50, 2) := by decide +kernel
theorem dX5_charter_43 : decode cX5_charter 43 = .ok (.invokevirtual 70, 3) := by decide +kernel
theorem dX5_charter_46 : decode cX5_charter 46 = .ok (.ireturn, 1) := by decide +kernel
theorem dX5_swaps_0 : decode cX5_swaps 0 = .ok (.aload_n 0, 1) := by decide +kernel
theorem dX5_swaps_1 : decode cX5_swaps 1 = .ok (.iload_n 1, 1) := by decide +kernel
theorem dX5_swaps_2 : decode cX5_swaps 2 = .ok (.iconst 1, 1) := by decide +kernel
theorem dX5_swaps_3 : decode cX5_swaps 3 = .ok (.invokevirtual 77, 3) := by decide +kernel
theorem dX5_swaps_6 : decode cX5_swaps 6 = .ok (.istore_n 3, 1) := by decide +kernel
theorem dX5_swaps_7 : decode cX5_swaps 7 = .ok (.aload_n 0, 1) := by decide +kernel
theorem dX5_swaps_8 : decode cX5_swaps 8 = .ok (.getfield 7, 3) := by decide +kernel
theorem dX5_swaps_11 : decode cX5_swaps 11 = .ok (.iload_n 1, 1) := by decide +kernel
theorem dX5_swaps_12 : decode cX5_swaps 12 = .ok (.iconst 1, 1) := by decide +kernel
theorem dX5_swaps_13 : decode cX5_swaps 13 = .ok (.invokestatic 57, 3) := by decide +kernel
theorem dX5_swaps_16 : decode cX5_swaps 16 = .ok (.aload_n 0, 1) := by decide +kernel
theorem dX5_swaps_17 : decode cX5_swaps 17 = .ok (.iload_n 2, 1) := by decide +kernel
theorem dX5_swaps_18 : decode cX5_swaps 18 = .ok (.iconst 1, 1) := by decide +kernel
theorem dX5_swaps_19 : decode cX5_swaps 19 = .ok (.invokevirtual 77, 3) := by decide +kernel
theorem dX5_swaps_22 : decode cX5_swaps 22 = .ok (.iastore, 1) := by decide +kernel
theorem dX5_swaps_23 : decode cX5_swaps 23 = .ok (.aload_n 0, 1) := by decide +kernel
theorem dX5_swaps_24 : decode cX5_swaps 24 = .ok (.getfield 7, 3) := by decide +kernel
theorem dX5_swaps_27 : decode cX5_swaps 27 = .ok (.iload_n 2, 1) := by decide +kernel
theorem dX5_swaps_28 : decode cX5_swaps 28 = .ok (.iconst 1, 1) := by decide +kernel
theorem dX5_swaps_29 : decode cX5_swaps 29 = .ok (.invokestatic 57, 3) := by decide +kernel
theorem dX5_swaps_32 : decode cX5_swaps 32 = .ok (.iload_n 3, 1) := by decide +kernel
theorem dX5_swaps_33 : decode cX5_swaps 33 = .ok (.iastore, 1) := by decide +kernel
theorem dX5_swaps_34 : decode cX5_swaps 34 = .ok (.aload_n 0, 1) := by decide +kernel
theorem dX5_swaps_35 : decode cX5_swaps 35 = .ok (.iload_n 1, 1) := by decide +kernel
theorem dX5_swaps_36 : decode cX5_swaps 36 = .ok (.iconst 1, 1) := by decide +kernel
theorem dX5_swaps_37 : decode cX5_swaps 37 = .ok (.invokevirtual 77, 3) := by decide +kernel
theorem dX5_swaps_40 : decode cX5_swaps 40 = .ok (.iload_n 3, 1) := by decide +kernel
theorem dX5_swaps_41 : decode cX5_swaps 41 = .ok (.if_icmp .ne 7, 3) := by decide +kernel
theorem dX5_swaps_44 : decode cX5_swaps 44 = .ok (.iconst 0, 1) := by decide +kernel
theorem dX5_swaps_45 : decode cX5_swaps 45 = .ok (.goto 4, 3) := by decide +kernel
theorem dX5_swaps_48 : decode cX5_swaps 48 = .ok (.iconst 1, 1) := by decide +kernel
theorem dX5_swaps_49 : decode cX5_swaps 49 = .ok (.ireturn, 1) := by decide +kernel
theorem dX5_swap_0 : decode cX5_swap 0 = .ok (.aload_n 0, 1) := by decide +kernel
theorem dX5_swap_1 : decode cX5_swap 1 = .ok (.iload_n 1, 1) := by decide +kernel
theorem dX5_swap_2 : decode cX5_swap 2 = .ok (.invokevirtual 101, 3) := by decide +kernel
theorem dX5_swap_5 : decode cX5_swap 5 = .ok (.ifCond .eq 25, 3) := by decide +kernel
theorem dX5_swap_8 : decode cX5_swap 8 = .ok (.aload_n 0, 1) := by decide +kernel
theorem dX5_swap_9 : decode cX5_swap 9 = .ok (.iload_n 2, 1) := by decide +kernel
theorem dX5_swap_10 : decode cX5_swap 10 = .ok (.invokevirtual 101, 3) := by decide +kernel
theorem dX5_swap_13 : decode cX5_swap 13 = .ok (.ifCond .eq 17, 3) := by decide +kernel
theorem dX5_swap_16 : decode cX5_swap 16 = .ok (.iload_n 1, 1) := by decide +kernel
theorem dX5_swap_17 : decode cX5_swap 17 = .ok (.iload_n 2, 1) := by decide +kernel
theorem dX5_swap_18 : decode cX5_swap 18 = .ok (.if_icmp .eq 12, 3) := by decide +kernel
theorem dX5_swap_21 : decode cX5_swap 21 = .ok (.aload_n 0, 1) := by decide +kernel
theorem dX5_swap_22 : decode cX5_swap 22 = .ok (.iload_n 1, 1) := by decide +kernel
theorem dX5_swap_23 : decode cX5_swap 23 = .ok (.iload_n 2, 1) := by decide +kernel
theorem dX5_swap_24 : decode cX5_swap 24 = .ok (.invokevirtual 118, 3) := by decide +kernel
theorem dX5_swap_27 : decode cX5_swap 27 = .ok (.goto 9, 3) := by decide +kernel
theorem dX5_swap_30 : decode cX5_swap 30 = .ok (.aload_n 0, 1) := by decide +kernel
theorem dX5_swap_31 : decode cX5_swap 31 = .ok (.ldc 50, 2) := by decide +kernel
theorem dX5_swap_33 : decode cX5_swap 33 = .ok (.invokevirtual 70, 3) := by decide +kernel
theorem dX5_swap_36 : decode cX5_swap 36 = .ok (.ireturn, 1) := by decide +kernel
theorem dX5_blows_0 : decode cX5_blows 0 = .ok (.aload_n 0, 1) := by decide +kernel
theorem dX5_blows_1 : decode cX5_blows 1 = .ok (.getfield 7, 3) := by decide +kernel
theorem dX5_blows_4 : decode cX5_blows 4 = .ok (.iconst 5, 1) := by decide +kernel
theorem dX5_blows_5 : decode cX5_blows 5 = .ok (.iload_n 1, 1) := by decide +kernel
theorem dX5_blows_6 : decode cX5_blows 6 = .ok (.iadd, 1) := by decide +kernel
theorem dX5_blows_7 : decode cX5_blows 7 = .ok (.iaload, 1) := by decide +kernel
theorem dX5_blows_8 : decode cX5_blows 8 = .ok (.istore_n 3, 1) := by decide +kernel
theorem dX5_blows_9 : decode cX5_blows 9 = .ok (.iconst 5, 1) := by decide +kernel
theorem dX5_blows_10 : decode cX5_blows 10 = .ok (.iload_n 1, 1) := by decide +kernel
theorem dX5_blows_11 : decode cX5_blows 11 = .ok (.iload_n 2, 1) := by decide +kernel
theorem dX5_blows_12 : decode cX5_blows 12 = .ok (.iadd, 1) := by decide +kernel
theorem dX5_blows_13 : decode cX5_blows 13 = .ok (.invokestatic 121, 3) := by decide +kernel
theorem dX5_blows_16 : decode cX5_blows 16 = .ok (.iadd, 1) := by decide +kernel
theorem dX5_blows_17 : decode cX5_blows 17 = .ok (.istore 4, 2) := by decide +kernel
theorem dX5_blows_19 : decode cX5_blows 19 = .ok (.aload_n 0, 1) := by decide +kernel
theorem dX5_blows_20 : decode cX5_blows 20 = .ok (.getfield 7, 3) := by decide +kernel
theorem dX5_blows_23 : decode cX5_blows 23 = .ok (.iconst 5, 1) := by decide +kernel
theorem dX5_blows_24 : decode cX5_blows 24 = .ok (.iload_n 1, 1) := by decide +kernel
theorem dX5_blows_25 : decode cX5_blows 25 = .ok (.iadd, 1) := by decide +kernel
theorem dX5_blows_26 : decode cX5_blows 26 = .ok (.iconst 0, 1) := by decide +kernel
theorem dX5_blows_27 : decode cX5_blows 27 = .ok (.iastore, 1) := by decide +kernel
theorem dX5_blows_28 : decode cX5_blows 28 = .ok (.aload_n 0, 1) := by decide +kernel
theorem dX5_blows_29 : decode cX5_blows 29 = .ok (.getfield 7, 3) := by decide +kernel
theorem dX5_blows_32 : decode cX5_blows 32 = .ok (.iload 4, 2) := by decide +kernel
theorem dX5_blows_34 : decode cX5_blows 34 = .ok (.aload_n 0, 1) := by decide +kernel
theorem dX5_blows_35 : decode cX5_blows 35 = .ok (.getfield 7, 3) := by decide +kernel
theorem dX5_blows_38 : decode cX5_blows 38 = .ok (.iload 4, 2) := by decide +kernel
theorem dX5_blows_40 : decode cX5_blows 40 = .ok (.iaload, 1) := by decide +kernel
theorem dX5_blows_41 : decode cX5_blows 41 = .ok (.iload_n 3, 1) := by decide +kernel
theorem dX5_blows_42 : decode cX5_blows 42 = .ok (.iadd, 1) := by decide +kernel
theorem dX5_blows_43 : decode cX5_blows 43 = .ok (.sipush 9999, 3) := by decide +kernel
theorem dX5_blows_46 : decode cX5_blows 46 = .ok (.invokestatic 124, 3) := by decide +kernel
theorem dX5_blows_49 : decode cX5_blows 49 = .ok (.iastore, 1) := by decide +kernel
theorem dX5_blows_50 : decode cX5_blows 50 = .ok (.iload_n 3, 1) := by decide +kernel
theorem dX5_blows_51 : decode cX5_blows 51 = .ok (.ireturn, 1) := by decide +kernel
theorem dX5_sneeze_0 : decode cX5_sneeze 0 = .ok (.iload_n 1, 1) := by decide +kernel
theorem dX5_sneeze_1 : decode cX5_sneeze 1 = .ok (.invokestatic 61, 3) := by decide +kernel
theorem dX5_sneeze_4 : decode cX5_sneeze 4 = .ok (.ifCond .eq 26, 3) := by decide +kernel
theorem dX5_sneeze_7 : decode cX5_sneeze 7 = .ok (.iload_n 2, 1) := by decide +kernel
theorem dX5_sneeze_8 : decode cX5_sneeze 8 = .ok (.i2l, 1) := by decide +kernel
theorem dX5_sneeze_9 : decode cX5_sneeze 9 = .ok (.ldc2_w 127, 3) := by decide +kernel
theorem dX5_sneeze_12 : decode cX5_sneeze 12 = .ok (.ldc2_w 51, 3) := by decide +kernel
theorem dX5_sneeze_15 : decode cX5_sneeze 15 = .ok (.invokestatic 53, 3) := by decide +kernel
theorem dX5_sneeze_18 : decode cX5_sneeze 18 = .ok (.ifCond .eq 12, 3) := by decide +kernel
theorem dX5_sneeze_21 : decode cX5_sneeze 21 = .ok (.aload_n 0, 1) := by decide +kernel
theorem dX5_sneeze_22 : decode cX5_sneeze 22 = .ok (.iload_n 1, 1) := by decide +kernel
theorem dX5_sneeze_23 : decode cX5_sneeze 23 = .ok (.iload_n 2, 1) := by decide +kernel
theorem dX5_sneeze_24 : decode cX5_sneeze 24 = .ok (.invokevirtual 129, 3) := by decide +kernel
theorem dX5_sneeze_27 : decode cX5_sneeze 27 = .ok (.goto 9, 3) := by decide +kernel
theorem dX5_sneeze_30 : decode cX5_sneeze 30 = .ok (.aload_n 0, 1) := by decide +kernel
theorem dX5_sneeze_31 : decode cX5_sneeze 31 = .ok (.ldc 50, 2) := by decide +kernel
theorem dX5_sneeze_33 : decode cX5_sneeze 33 = .ok (.invokevirtual 70, 3) := by decide +kernel
theorem dX5_sneeze_36 : decode cX5_sneeze 36 = .ok (.ireturn, 1) := by decide +kernel
theorem dX5_draughts_0 : decode cX5_draughts 0 = .ok (.iconst 0, 1) := by decide +kernel
theorem dX5_draughts_1 : decode cX5_draughts 1 = .ok (.istore_n 1, 1) := by decide +kernel
theorem dX5_draughts_2 : decode cX5_draughts 2 = .ok (.iload_n 1, 1) := by decide +kernel
theorem dX5_draughts_3 : decode cX5_draughts 3 = .ok (.bipush 12, 2) := by decide +kernel
theorem dX5_draughts_5 : decode cX5_draughts 5 = .ok (.if_icmp .ge 35, 3) := by decide +kernel
theorem dX5_draughts_8 : decode cX5_draughts 8 = .ok (.aload_n 0, 1) := by decide +kernel
theorem dX5_draughts_9 : decode cX5_draughts 9 = .ok (.getfield 29, 3) := by decide +kernel
theorem dX5_draughts_12 : decode cX5_draughts 12 = .ok (.iload_n 1, 1) := by decide +kernel
theorem dX5_draughts_13 : decode cX5_draughts 13 = .ok (.aload_n 0, 1) := by decide +kernel
theorem dX5_draughts_14 : decode cX5_draughts 14 = .ok (.getfield 7, 3) := by decide +kernel
theorem dX5_draughts_17 : decode cX5_draughts 17 = .ok (.iconst 5, 1) := by decide +kernel
theorem dX5_draughts_18 : decode cX5_draughts 18 = .ok (.iload_n 1, 1) := by decide +kernel
theorem dX5_draughts_19 : decode cX5_draughts 19 = .ok (.iadd, 1) := by decide +kernel
theorem dX5_draughts_20 : decode cX5_draughts 20 = .ok (.iaload, 1) := by decide +kernel
theorem dX5_draughts_21 : decode cX5_draughts 21 = .ok (.aload_n 0, 1) := by decide +kernel
theorem dX5_draughts_22 : decode cX5_draughts 22 = .ok (.getfield 7, 3) := by decide +kernel
theorem dX5_draughts_25 : decode cX5_draughts 25 = .ok (.iconst 5, 1) := by decide +kernel
theorem dX5_draughts_26 : decode cX5_draughts 26 = .ok (.iload_n 1, 1) := by decide +kernel
theorem dX5_draughts_27 : decode cX5_draughts 27 = .ok (.iadd, 1) := by decide +kernel
theorem dX5_draughts_28 : decode cX5_draughts 28 = .ok (.iaload, 1) := by decide +kernel
theorem dX5_draughts_29 : decode cX5_draughts 29 = .ok (.bipush 10, 2) := by decide +kernel
theorem dX5_draughts_31 : decode cX5_draughts 31 = .ok (.idiv, 1) := by decide +kernel
theorem dX5_draughts_32 : decode cX5_draughts 32 = .ok (.isub, 1) := by decide +kernel
theorem dX5_draughts_33 : decode cX5_draughts 33 = .ok (.iastore, 1) := by decide +kernel
theorem dX5_draughts_34 : decode cX5_draughts 34 = .ok (.iinc 1 1, 3) := by decide +kernel
theorem dX5_draughts_37 : decode cX5_draughts 37 = .ok (.goto (-35), 3) := by decide +kernel
theorem dX5_draughts_40 : decode cX5_draughts 40 = .ok (.iconst 0, 1) := by decide +kernel
theorem dX5_draughts_41 : decode cX5_draughts 41 = .ok (.istore_n 1, 1) := by decide +kernel
theorem dX5_draughts_42 : decode cX5_draughts 42 = .ok (.iload_n 1, 1) := by decide +kernel
theorem dX5_draughts_43 : decode cX5_draughts 43 = .ok (.bipush 12, 2) := by decide +kernel
theorem dX5_draughts_45 : decode cX5_draughts 45 = .ok (.if_icmp .ge 39, 3) := by decide +kernel
theorem dX5_draughts_48 : decode cX5_draughts 48 = .ok (.aload_n 0, 1) := by decide +kernel
theorem dX5_draughts_49 : decode cX5_draughts 49 = .ok (.getfield 29, 3) := by decide +kernel
theorem dX5_draughts_52 : decode cX5_draughts 52 = .ok (.iload_n 1, 1) := by decide +kernel
theorem dX5_draughts_53 : decode cX5_draughts 53 = .ok (.aload_n 0, 1) := by decide +kernel
theorem dX5_draughts_54 : decode cX5_draughts 54 = .ok (.getfield 7, 3) := by decide +kernel
theorem dX5_draughts_57 : decode cX5_draughts 57 = .ok (.iconst 3, 1) := by decide +kernel
theorem dX5_draughts_58 : decode cX5_draughts 58 = .ok (.iaload, 1) := by decide +kernel
theorem dX5_draughts_59 : decode cX5_draughts 59 = .ok (.iadd, 1) := by decide +kernel
theorem dX5_draughts_60 : decode cX5_draughts 60 = .ok (.invokestatic 121, 3) := by decide +kernel
theorem dX5_draughts_63 : decode cX5_draughts 63 = .ok (.dup2, 1) := by decide +kernel
theorem dX5_draughts_64 : decode cX5_draughts 64 = .ok (.iaload, 1) := by decide +kernel
theorem dX5_draughts_65 : decode cX5_draughts 65 = .ok (.aload_n 0, 1) := by decide +kernel
theorem dX5_draughts_66 : decode cX5_draughts 66 = .ok (.getfield 7, 3) := by decide +kernel
theorem dX5_draughts_69 : decode cX5_draughts 69 = .ok (.iconst 5, 1) := by decide +kernel
theorem dX5_draughts_70 : decode cX5_draughts 70 = .ok (.iload_n 1, 1) := by decide +kernel
theorem dX5_draughts_71 : decode cX5_draughts 71 = .ok (.iadd, 1) := by decide +kernel
theorem dX5_draughts_72 : decode cX5_draughts 72 = .ok (.iaload, 1) := by decide +kernel
theorem dX5_draughts_73 : decode cX5_draughts 73 = .ok (.bipush 10, 2) := by decide +kernel
theorem dX5_draughts_75 : decode cX5_draughts 75 = .ok (.idiv, 1) := by decide +kernel
theorem dX5_draughts_76 : decode cX5_draughts 76 = .ok (.iadd, 1) := by decide +kernel
theorem dX5_draughts_77 : decode cX5_draughts 77 = .ok (.iastore, 1) := by decide +kernel
theorem dX5_draughts_78 : decode cX5_draughts 78 = .ok (.iinc 1 1, 3) := by decide +kernel
theorem dX5_draughts_81 : decode cX5_draughts 81 = .ok (.goto (-39), 3) := by decide +kernel
theorem dX5_draughts_84 : decode cX5_draughts 84 = .ok (.iconst 0, 1) := by decide +kernel
theorem dX5_draughts_85 : decode cX5_draughts 85 = .ok (.istore_n 1, 1) := by decide +kernel
theorem dX5_draughts_86 : decode cX5_draughts 86 = .ok (.iload_n 1, 1) := by decide +kernel
theorem dX5_draughts_87 : decode cX5_draughts 87 = .ok (.bipush 12, 2) := by decide +kernel
theorem dX5_draughts_89 : decode cX5_draughts 89 = .ok (.if_icmp .ge 42, 3) := by decide +kernel
theorem dX5_draughts_92 : decode cX5_draughts 92 = .ok (.aload_n 0, 1) := by decide +kernel
theorem dX5_draughts_93 : decode cX5_draughts 93 = .ok (.getfield 7, 3) := by decide +kernel
theorem dX5_draughts_96 : decode cX5_draughts 96 = .ok (.iconst 5, 1) := by decide +kernel
theorem dX5_draughts_97 : decode cX5_draughts 97 = .ok (.iload_n 1, 1) := by decide +kernel
theorem dX5_draughts_98 : decode cX5_draughts 98 = .ok (.iadd, 1) := by decide +kernel
theorem dX5_draughts_99 : decode cX5_draughts 99 = .ok (.aload_n 0, 1) := by decide +kernel
theorem dX5_draughts_100 : decode cX5_draughts 100 = .ok (.getfield 29, 3) := by decide +kernel
theorem dX5_draughts_103 : decode cX5_draughts 103 = .ok (.iload_n 1, 1) := by decide +kernel
theorem dX5_draughts_104 : decode cX5_draughts 104 = .ok (.iaload, 1) := by decide +kernel
theorem dX5_draughts_105 : decode cX5_draughts 105 = .ok (.sipush 9999, 3) := by decide +kernel
theorem dX5_draughts_108 : decode cX5_draughts 108 = .ok (.invokestatic 124, 3) := by decide +kernel
theorem dX5_draughts_111 : decode cX5_draughts 111 = .ok (.aload_n 0, 1) := by decide +kernel
theorem dX5_draughts_112 : decode cX5_draughts 112 = .ok (.getfield 7, 3) := by decide +kernel
theorem dX5_draughts_115 : decode cX5_draughts 115 = .ok (.iconst 2, 1) := by decide +kernel
theorem dX5_draughts_116 : decode cX5_draughts 116 = .ok (.iaload, 1) := by decide +kernel
theorem dX5_draughts_117 : decode cX5_draughts 117 = .ok (.iadd, 1) := by decide +kernel
theorem dX5_draughts_118 : decode cX5_draughts 118 = .ok (.sipush 9999, 3) := by decide +kernel
theorem dX5_draughts_121 : decode cX5_draughts 121 = .ok (.invokestatic 124, 3) := by decide +kernel
theorem dX5_draughts_124 : decode cX5_draughts 124 = .ok (.iastore, 1) := by decide +kernel
theorem dX5_draughts_125 : decode cX5_draughts 125 = .ok (.iinc 1 1, 3) := by decide +kernel
theorem dX5_draughts_128 : decode cX5_draughts 128 = .ok (.goto (-42), 3) := by decide +kernel
theorem dX5_draughts_131 : decode cX5_draughts 131 = .ok (.return_, 1) := by decide +kernel
theorem dX5_gets_0 : decode cX5_gets 0 = .ok (.aload_n 0, 1) := by decide +kernel
theorem dX5_gets_1 : decode cX5_gets 1 = .ok (.getfield 7, 3) := by decide +kernel
theorem dX5_gets_4 : decode cX5_gets 4 = .ok (.iload_n 1, 1) := by decide +kernel
theorem dX5_gets_5 : decode cX5_gets 5 = .ok (.iconst 2, 1) := by decide +kernel
theorem dX5_gets_6 : decode cX5_gets 6 = .ok (.invokestatic 57, 3) := by decide +kernel
theorem dX5_gets_9 : decode cX5_gets 9 = .ok (.aload_n 0, 1) := by decide +kernel
theorem dX5_gets_10 : decode cX5_gets 10 = .ok (.iload_n 1, 1) := by decide +kernel
theorem dX5_gets_11 : decode cX5_gets 11 = .ok (.iconst 2, 1) := by decide +kernel
theorem dX5_gets_12 : decode cX5_gets 12 = .ok (.invokevirtual 77, 3) := by decide +kernel
theorem dX5_gets_15 : decode cX5_gets 15 = .ok (.iload_n 2, 1) := by decide +kernel
theorem dX5_gets_16 : decode cX5_gets 16 = .ok (.iadd, 1) := by decide +kernel
theorem dX5_gets_17 : decode cX5_gets 17 = .ok (.ldc 132, 2) := by decide +kernel
theorem dX5_gets_19 : decode cX5_gets 19 = .ok (.invokestatic 124, 3) := by decide +kernel
theorem dX5_gets_22 : decode cX5_gets 22 = .ok (.iastore, 1) := by decide +kernel
theorem dX5_gets_23 : decode cX5_gets 23 = .ok (.return_, 1) := by decide +kernel
theorem dX5_sweep_0 : decode cX5_sweep 0 = .ok (.iconst 5, 1) := by decide +kernel
theorem dX5_sweep_1 : decode cX5_sweep 1 = .ok (.aload_n 0, 1) := by decide +kernel
theorem dX5_sweep_2 : decode cX5_sweep 2 = .ok (.iload_n 1, 1) := by decide +kernel
theorem dX5_sweep_3 : decode cX5_sweep 3 = .ok (.iconst 1, 1) := by decide +kernel
theorem dX5_sweep_4 : decode cX5_sweep 4 = .ok (.invokevirtual 77, 3) := by decide +kernel
theorem dX5_sweep_7 : decode cX5_sweep 7 = .ok (.iadd, 1) := by decide +kernel
theorem dX5_sweep_8 : decode cX5_sweep 8 = .ok (.istore_n 2, 1) := by decide +kernel
theorem dX5_sweep_9 : decode cX5_sweep 9 = .ok (.aload_n 0, 1) := by decide +kernel
theorem dX5_sweep_10 : decode cX5_sweep 10 = .ok (.iload_n 1, 1) := by decide +kernel
theorem dX5_sweep_11 : decode cX5_sweep 11 = .ok (.invokevirtual 107, 3) := by decide +kernel
theorem dX5_sweep_14 : decode cX5_sweep 14 = .ok (.aload_n 0, 1) := by decide +kernel
theorem dX5_sweep_15 : decode cX5_sweep 15 = .ok (.getfield 7, 3) := by decide +kernel
theorem dX5_sweep_18 : decode cX5_sweep 18 = .ok (.iload_n 2, 1) := by decide +kernel
theorem dX5_sweep_19 : decode cX5_sweep 19 = .ok (.iaload, 1) := by decide +kernel
theorem dX5_sweep_20 : decode cX5_sweep 20 = .ok (.invokestatic 124, 3) := by decide +kernel
theorem dX5_sweep_23 : decode cX5_sweep 23 = .ok (.istore_n 3, 1) := by decide +kernel
theorem dX5_sweep_24 : decode cX5_sweep 24 = .ok (.aload_n 0, 1) := by decide +kernel
theorem dX5_sweep_25 : decode cX5_sweep 25 = .ok (.iload_n 1, 1) := by decide +kernel
theorem dX5_sweep_26 : decode cX5_sweep 26 = .ok (.iconst 0, 1) := by decide +kernel
theorem dX5_sweep_27 : decode cX5_sweep 27 = .ok (.invokevirtual 77, 3) := by decide +kernel
theorem dX5_sweep_30 : decode cX5_sweep 30 = .ok (.istore 4, 2) := by decide +kernel
theorem dX5_sweep_32 : decode cX5_sweep 32 = .ok (.aload_n 0, 1) := by decide +kernel
theorem dX5_sweep_33 : decode cX5_sweep 33 = .ok (.getfield 7, 3) := by decide +kernel
theorem dX5_sweep_36 : decode cX5_sweep 36 = .ok (.iload_n 2, 1) := by decide +kernel
theorem dX5_sweep_37 : decode cX5_sweep 37 = .ok (.dup2, 1) := by decide +kernel
theorem dX5_sweep_38 : decode cX5_sweep 38 = .ok (.iaload, 1) := by decide +kernel
theorem dX5_sweep_39 : decode cX5_sweep 39 = .ok (.iload_n 3, 1) := by decide +kernel
theorem dX5_sweep_40 : decode cX5_sweep 40 = .ok (.isub, 1) := by decide +kernel
theorem dX5_sweep_41 : decode cX5_sweep 41 = .ok (.iastore, 1) := by decide +kernel
theorem dX5_sweep_42 : decode cX5_sweep 42 = .ok (.aload_n 0, 1) := by decide +kernel
theorem dX5_sweep_43 : decode cX5_sweep 43 = .ok (.iload_n 1, 1) := by decide +kernel
theorem dX5_sweep_44 : decode cX5_sweep 44 = .ok (.iload 4, 2) := by decide +kernel
theorem dX5_sweep_46 : decode cX5_sweep 46 = .ok (.iconst 4, 1) := by decide +kernel
theorem dX5_sweep_47 : decode cX5_sweep 47 = .ok (.if_icmp .ne 7, 3) := by decide +kernel
theorem dX5_sweep_50 : decode cX5_sweep 50 = .ok (.iload_n 3, 1) := by decide +kernel
theorem dX5_sweep_51 : decode cX5_sweep 51 = .ok (.goto 16, 3) := by decide +kernel
theorem dX5_sweep_54 : decode cX5_sweep 54 = .ok (.iload 4, 2) := by decide +kernel
theorem dX5_sweep_56 : decode cX5_sweep 56 = .ok (.iconst 3, 1) := by decide +kernel
theorem dX5_sweep_57 : decode cX5_sweep 57 = .ok (.if_icmp .ne 9, 3) := by decide +kernel
theorem dX5_sweep_60 : decode cX5_sweep 60 = .ok (.iload_n 3, 1) := by decide +kernel
theorem dX5_sweep_61 : decode cX5_sweep 61 = .ok (.iconst 2, 1) := by decide +kernel
theorem dX5_sweep_62 : decode cX5_sweep 62 = .ok (.idiv, 1) := by decide +kernel
theorem dX5_sweep_63 : decode cX5_sweep 63 = .ok (.goto 4, 3) := by decide +kernel
theorem dX5_sweep_66 : decode cX5_sweep 66 = .ok (.iconst 0, 1) := by decide +kernel
theorem dX5_sweep_67 : decode cX5_sweep 67 = .ok (.invokevirtual 133, 3) := by decide +kernel
theorem dX5_sweep_70 : decode cX5_sweep 70 = .ok (.return_, 1) := by decide +kernel
theorem dX5_marks_0 : decode cX5_marks 0 = .ok (.aload_n 0, 1) := by decide +kernel
theorem dX5_marks_1 : decode cX5_marks 1 = .ok (.iload_n 1, 1) := by decide +kernel
theorem dX5_marks_2 : decode cX5_marks 2 = .ok (.iconst 1, 1) := by decide +kernel
theorem dX5_marks_3 : decode cX5_marks 3 = .ok (.invokevirtual 77, 3) := by decide +kernel
theorem dX5_marks_6 : decode cX5_marks 6 = .ok (.istore_n 2, 1) := by decide +kernel
theorem dX5_marks_7 : decode cX5_marks 7 = .ok (.iload_n 1, 1) := by decide +kernel
theorem dX5_marks_8 : decode cX5_marks 8 = .ok (.iload_n 2, 1) := by decide +kernel
theorem dX5_marks_9 : decode cX5_marks 9 = .ok (.invokestatic 74, 3) := by decide +kernel
theorem dX5_marks_12 : decode cX5_marks 12 = .ok (.istore_n 3, 1) := by decide +kernel
theorem dX5_marks_13 : decode cX5_marks 13 = .ok (.aload_n 0, 1) := by decide +kernel
theorem dX5_marks_14 : decode cX5_marks 14 = .ok (.getfield 7, 3) := by decide +kernel
theorem dX5_marks_17 : decode cX5_marks 17 = .ok (.iload_n 3, 1) := by decide +kernel
theorem dX5_marks_18 : decode cX5_marks 18 = .ok (.aload_n 0, 1) := by decide +kernel
theorem dX5_marks_19 : decode cX5_marks 19 = .ok (.getfield 7, 3) := by decide +kernel
theorem dX5_marks_22 : decode cX5_marks 22 = .ok (.iload_n 3, 1) := by decide +kernel
theorem dX5_marks_23 : decode cX5_marks 23 = .ok (.iaload, 1) := by decide +kernel
theorem dX5_marks_24 : decode cX5_marks 24 = .ok (.aload_n 0, 1) := by decide +kernel
theorem dX5_marks_25 : decode cX5_marks 25 = .ok (.iload_n 1, 1) := by decide +kernel
theorem dX5_marks_26 : decode cX5_marks 26 = .ok (.invokevirtual 104, 3) := by decide +kernel
theorem dX5_marks_29 : decode cX5_marks 29 = .ok (.iadd, 1) := by decide +kernel
theorem dX5_marks_30 : decode cX5_marks 30 = .ok (.bipush 99, 2) := by decide +kernel
theorem dX5_marks_32 : decode cX5_marks 32 = .ok (.invokestatic 124, 3) := by decide +kernel
theorem dX5_marks_35 : decode cX5_marks 35 = .ok (.iastore, 1) := by decide +kernel
theorem dX5_marks_36 : decode cX5_marks 36 = .ok (.iconst 0, 1) := by decide +kernel
theorem dX5_marks_37 : decode cX5_marks 37 = .ok (.istore 4, 2) := by decide +kernel
theorem dX5_marks_39 : decode cX5_marks 39 = .ok (.iload 4, 2) := by decide +kernel
theorem dX5_marks_41 : decode cX5_marks 41 = .ok (.aload_n 0, 1) := by decide +kernel
theorem dX5_marks_42 : decode cX5_marks 42 = .ok (.getfield 7, 3) := by decide +kernel
theorem dX5_marks_45 : decode cX5_marks 45 = .ok (.iconst 1, 1) := by decide +kernel
theorem dX5_marks_46 : decode cX5_marks 46 = .ok (.iaload, 1) := by decide +kernel
theorem dX5_marks_47 : decode cX5_marks 47 = .ok (.if_icmp .ge 48, 3) := by decide +kernel
theorem dX5_marks_50 : decode cX5_marks 50 = .ok (.iload 4, 2) := by decide +kernel
theorem dX5_marks_52 : decode cX5_marks 52 = .ok (.iload_n 2, 1) := by decide +kernel
theorem dX5_marks_53 : decode cX5_marks 53 = .ok (.invokestatic 74, 3) := by decide +kernel
theorem dX5_marks_56 : decode cX5_marks 56 = .ok (.istore 5, 2) := by decide +kernel
theorem dX5_marks_58 : decode cX5_marks 58 = .ok (.aload_n 0, 1) := by decide +kernel
theorem dX5_marks_59 : decode cX5_marks 59 = .ok (.getfield 7, 3) := by decide +kernel
theorem dX5_marks_62 : decode cX5_marks 62 = .ok (.iload 5, 2) := by decide +kernel
theorem dX5_marks_64 : decode cX5_marks 64 = .ok (.dup2, 1) := by decide +kernel
theorem dX5_marks_65 : decode cX5_marks 65 = .ok (.iaload, 1) := by decide +kernel
theorem dX5_marks_66 : decode cX5_marks 66 = .ok (.iload 4, 2) := by decide +kernel
theorem dX5_marks_68 : decode cX5_marks 68 = .ok (.iload_n 1, 1) := by decide +kernel
theorem dX5_marks_69 : decode cX5_marks 69 = .ok (.if_icmp .eq 17, 3) := by decide +kernel
theorem dX5_marks_72 : decode cX5_marks 72 = .ok (.aload_n 0, 1) := by decide +kernel
theorem dX5_marks_73 : decode cX5_marks 73 = .ok (.getfield 7, 3) := by decide +kernel
theorem dX5_marks_76 : decode cX5_marks 76 = .ok (.iload 5, 2) := by decide +kernel
theorem dX5_marks_78 : decode cX5_marks 78 = .ok (.iaload, 1) := by decide +kernel
theorem dX5_marks_79 : decode cX5_marks 79 = .ok (.ifCond .le 7, 3) := by decide +kernel
theorem dX5_marks_82 : decode cX5_marks 82 = .ok (.iconst 1, 1) := by decide +kernel
theorem dX5_marks_83 : decode cX5_marks 83 = .ok (.goto 4, 3) := by decide +kernel
theorem dX5_marks_86 : decode cX5_marks 86 = .ok (.iconst 0, 1) := by decide +kernel
theorem dX5_marks_87 : decode cX5_marks 87 = .ok (.isub, 1) := by decide +kernel
theorem dX5_marks_88 : decode cX5_marks 88 = .ok (.iastore, 1) := by decide +kernel
theorem dX5_marks_89 : decode cX5_marks 89 = .ok (.iinc 4 1, 3) := by decide +kernel
theorem dX5_marks_92 : decode cX5_marks 92 = .ok (.goto (-53), 3) := by decide +kernel
theorem dX5_marks_95 : decode cX5_marks 95 = .ok (.return_, 1) := by decide +kernel
theorem dX5_day_0 : decode cX5_day 0 = .ok (.aload_n 0, 1) := by decide +kernel
theorem dX5_day_1 : decode cX5_day 1 = .ok (.invokevirtual 137, 3) := by decide +kernel
theorem dX5_day_4 : decode cX5_day 4 = .ok (.iconst 0, 1) := by decide +kernel
theorem dX5_day_5 : decode cX5_day 5 = .ok (.istore_n 1, 1) := by decide +kernel
theorem dX5_day_6 : decode cX5_day 6 = .ok (.iload_n 1, 1) := by decide +kernel
theorem dX5_day_7 : decode cX5_day 7 = .ok (.aload_n 0, 1) := by decide +kernel
theorem dX5_day_8 : decode cX5_day 8 = .ok (.getfield 7, 3) := by decide +kernel
theorem dX5_day_11 : decode cX5_day 11 = .ok (.iconst 1, 1) := by decide +kernel
theorem dX5_day_12 : decode cX5_day 12 = .ok (.iaload, 1) := by decide +kernel
theorem dX5_day_13 : decode cX5_day 13 = .ok (.if_icmp .ge 26, 3) := by decide +kernel
theorem dX5_day_16 : decode cX5_day 16 = .ok (.aload_n 0, 1) := by decide +kernel
theorem dX5_day_17 : decode cX5_day 17 = .ok (.getfield 25, 3) := by decide +kernel
theorem dX5_day_20 : decode cX5_day 20 = .ok (.iload_n 1, 1) := by decide +kernel
theorem dX5_day_21 : decode cX5_day 21 = .ok (.ishr, 1) := by decide +kernel
theorem dX5_day_22 : decode cX5_day 22 = .ok (.iconst 1, 1) := by decide +kernel
theorem dX5_day_23 : decode cX5_day 23 = .ok (.iand, 1) := by decide +kernel
theorem dX5_day_24 : decode cX5_day 24 = .ok (.iconst 1, 1) := by decide +kernel
theorem dX5_day_25 : decode cX5_day 25 = .ok (.if_icmp .ne 8, 3) := by decide +kernel
theorem dX5_day_28 : decode cX5_day 28 = .ok (.aload_n 0, 1) := by decide +kernel
theorem dX5_day_29 : decode cX5_day 29 = .ok (.iload_n 1, 1) := by decide +kernel
theorem dX5_day_30 : decode cX5_day 30 = .ok (.invokevirtual 140, 3) := by decide +kernel
theorem dX5_day_33 : decode cX5_day 33 = .ok (.iinc 1 1, 3) := by decide +kernel
theorem dX5_day_36 : decode cX5_day 36 = .ok (.goto (-30), 3) := by decide +kernel
theorem dX5_day_39 : decode cX5_day 39 = .ok (.iconst 0, 1) := by decide +kernel
theorem dX5_day_40 : decode cX5_day 40 = .ok (.istore_n 1, 1) := by decide +kernel
theorem dX5_day_41 : decode cX5_day 41 = .ok (.iload_n 1, 1) := by decide +kernel
theorem dX5_day_42 : decode cX5_day 42 = .ok (.aload_n 0, 1) := by decide +kernel
theorem dX5_day_43 : decode cX5_day 43 = .ok (.getfield 7, 3) := by decide +kernel
theorem dX5_day_46 : decode cX5_day 46 = .ok (.iconst 1, 1) := by decide +kernel
theorem dX5_day_47 : decode cX5_day 47 = .ok (.iaload, 1) := by decide +kernel
theorem dX5_day_48 : decode cX5_day 48 = .ok (.if_icmp .ge 14, 3) := by decide +kernel
theorem dX5_day_51 : decode cX5_day 51 = .ok (.aload_n 0, 1) := by decide +kernel
theorem dX5_day_52 : decode cX5_day 52 = .ok (.iload_n 1, 1) := by decide +kernel
theorem dX5_day_53 : decode cX5_day 53 = .ok (.invokevirtual 144, 3) := by decide +kernel
theorem dX5_day_56 : decode cX5_day 56 = .ok (.iinc 1 1, 3) := by decide +kernel
theorem dX5_day_59 : decode cX5_day 59 = .ok (.goto (-18), 3) := by decide +kernel
theorem dX5_day_62 : decode cX5_day 62 = .ok (.iconst 0, 1) := by decide +kernel
theorem dX5_day_63 : decode cX5_day 63 = .ok (.istore_n 1, 1) := by decide +kernel
theorem dX5_day_64 : decode cX5_day 64 = .ok (.iload_n 1, 1) := by decide +kernel
theorem dX5_day_65 : decode cX5_day 65 = .ok (.bipush 12, 2) := by decide +kernel
theorem dX5_day_67 : decode cX5_day 67 = .ok (.if_icmp .ge 35, 3) := by decide +kernel
theorem dX5_day_70 : decode cX5_day 70 = .ok (.aload_n 0, 1) := by decide +kernel
theorem dX5_day_71 : decode cX5_day 71 = .ok (.iload_n 1, 1) := by decide +kernel
theorem dX5_day_72 : decode cX5_day 72 = .ok (.invokevirtual 82, 3) := by decide +kernel
theorem dX5_day_75 : decode cX5_day 75 = .ok (.istore_n 2, 1) := by decide +kernel
theorem dX5_day_76 : decode cX5_day 76 = .ok (.iload_n 2, 1) := by decide +kernel
theorem dX5_day_77 : decode cX5_day 77 = .ok (.ifCond .lt 19, 3) := by decide +kernel
theorem dX5_day_80 : decode cX5_day 80 = .ok (.aload_n 0, 1) := by decide +kernel
theorem dX5_day_81 : decode cX5_day 81 = .ok (.iload_n 2, 1) := by decide +kernel
theorem dX5_day_82 : decode cX5_day 82 = .ok (.aload_n 0, 1) := by decide +kernel
theorem dX5_day_83 : decode cX5_day 83 = .ok (.getfield 7, 3) := by decide +kernel
theorem dX5_day_86 : decode cX5_day 86 = .ok (.iconst 5, 1) := by decide +kernel
theorem dX5_day_87 : decode cX5_day 87 = .ok (.iload_n 1, 1) := by decide +kernel
theorem dX5_day_88 : decode cX5_day 88 = .ok (.iadd, 1) := by decide +kernel
theorem dX5_day_89 : decode cX5_day 89 = .ok (.iaload, 1) := by decide +kernel
theorem dX5_day_90 : decode cX5_day 90 = .ok (.bipush 20, 2) := by decide +kernel
theorem dX5_day_92 : decode cX5_day 92 = .ok (.idiv, 1) := by decide +kernel
theorem dX5_day_93 : decode cX5_day 93 = .ok (.invokevirtual 133, 3) := by decide +kernel
theorem dX5_day_96 : decode cX5_day 96 = .ok (.iinc 1 1, 3) := by decide +kernel
theorem dX5_day_99 : decode cX5_day 99 = .ok (.goto (-35), 3) := by decide +kernel
theorem dX5_day_102 : decode cX5_day 102 = .ok (.aload_n 0, 1) := by decide +kernel
theorem dX5_day_103 : decode cX5_day 103 = .ok (.getfield 7, 3) := by decide +kernel
theorem dX5_day_106 : decode cX5_day 106 = .ok (.iconst 0, 1) := by decide +kernel
theorem dX5_day_107 : decode cX5_day 107 = .ok (.dup2, 1) := by decide +kernel
theorem dX5_day_108 : decode cX5_day 108 = .ok (.iaload, 1) := by decide +kernel
theorem dX5_day_109 : decode cX5_day 109 = .ok (.iconst 1, 1) := by decide +kernel
theorem dX5_day_110 : decode cX5_day 110 = .ok (.iadd, 1) := by decide +kernel
theorem dX5_day_111 : decode cX5_day 111 = .ok (.iastore, 1) := by decide +kernel
theorem dX5_day_112 : decode cX5_day 112 = .ok (.return_, 1) := by decide +kernel
theorem dX5_goesOn_0 : decode cX5_goesOn 0 = .ok (.iconst 0, 1) := by decide +kernel
theorem dX5_goesOn_1 : decode cX5_goesOn 1 = .ok (.istore_n 2, 1) := by decide +kernel
theorem dX5_goesOn_2 : decode cX5_goesOn 2 = .ok (.iload_n 2, 1) := by decide +kernel
theorem dX5_goesOn_3 : decode cX5_goesOn 3 = .ok (.iload_n 1, 1) := by decide +kernel
theorem dX5_goesOn_4 : decode cX5_goesOn 4 = .ok (.if_icmp .ge 13, 3) := by decide +kernel
theorem dX5_goesOn_7 : decode cX5_goesOn 7 = .ok (.aload_n 0, 1) := by decide +kernel
theorem dX5_goesOn_8 : decode cX5_goesOn 8 = .ok (.invokevirtual 147, 3) := by decide +kernel
theorem dX5_goesOn_11 : decode cX5_goesOn 11 = .ok (.iinc 2 1, 3) := by decide +kernel
theorem dX5_goesOn_14 : decode cX5_goesOn 14 = .ok (.goto (-12), 3) := by decide +kernel
theorem dX5_goesOn_17 : decode cX5_goesOn 17 = .ok (.return_, 1) := by decide +kernel
theorem dX5_dustAll_0 : decode cX5_dustAll 0 = .ok (.iconst 0, 1) := by decide +kernel
theorem dX5_dustAll_1 : decode cX5_dustAll 1 = .ok (.istore_n 1, 1) := by decide +kernel
theorem dX5_dustAll_2 : decode cX5_dustAll 2 = .ok (.iconst 0, 1) := by decide +kernel
theorem dX5_dustAll_3 : decode cX5_dustAll 3 = .ok (.istore_n 2, 1) := by decide +kernel
theorem dX5_dustAll_4 : decode cX5_dustAll 4 = .ok (.iload_n 2, 1) := by decide +kernel
theorem dX5_dustAll_5 : decode cX5_dustAll 5 = .ok (.bipush 12, 2) := by decide +kernel
theorem dX5_dustAll_7 : decode cX5_dustAll 7 = .ok (.if_icmp .ge 20, 3) := by decide +kernel
theorem dX5_dustAll_10 : decode cX5_dustAll 10 = .ok (.iload_n 1, 1) := by decide +kernel
theorem dX5_dustAll_11 : decode cX5_dustAll 11 = .ok (.aload_n 0, 1) := by decide +kernel
theorem dX5_dustAll_12 : decode cX5_dustAll 12 = .ok (.getfield 7, 3) := by decide +kernel
theorem dX5_dustAll_15 : decode cX5_dustAll 15 = .ok (.iconst 5, 1) := by decide +kernel
theorem dX5_dustAll_16 : decode cX5_dustAll 16 = .ok (.iload_n 2, 1) := by decide +kernel
theorem dX5_dustAll_17 : decode cX5_dustAll 17 = .ok (.iadd, 1) := by decide +kernel
theorem dX5_dustAll_18 : decode cX5_dustAll 18 = .ok (.iaload, 1) := by decide +kernel
theorem dX5_dustAll_19 : decode cX5_dustAll 19 = .ok (.iadd, 1) := by decide +kernel
theorem dX5_dustAll_20 : decode cX5_dustAll 20 = .ok (.istore_n 1, 1) := by decide +kernel
theorem dX5_dustAll_21 : decode cX5_dustAll 21 = .ok (.iinc 2 1, 3) := by decide +kernel
theorem dX5_dustAll_24 : decode cX5_dustAll 24 = .ok (.goto (-20), 3) := by decide +kernel
theorem dX5_dustAll_27 : decode cX5_dustAll 27 = .ok (.iload_n 1, 1) := by decide +kernel
theorem dX5_dustAll_28 : decode cX5_dustAll 28 = .ok (.ireturn, 1) := by decide +kernel
theorem dX5_goodsAll_0 : decode cX5_goodsAll 0 = .ok (.iconst 0, 1) := by decide +kernel
theorem dX5_goodsAll_1 : decode cX5_goodsAll 1 = .ok (.istore_n 1, 1) := by decide +kernel
theorem dX5_goodsAll_2 : decode cX5_goodsAll 2 = .ok (.iconst 0, 1) := by decide +kernel
theorem dX5_goodsAll_3 : decode cX5_goodsAll 3 = .ok (.istore_n 2, 1) := by decide +kernel
theorem dX5_goodsAll_4 : decode cX5_goodsAll 4 = .ok (.iload_n 2, 1) := by decide +kernel
theorem dX5_goodsAll_5 : decode cX5_goodsAll 5 = .ok (.aload_n 0, 1) := by decide +kernel
theorem dX5_goodsAll_6 : decode cX5_goodsAll 6 = .ok (.getfield 7, 3) := by decide +kernel
theorem dX5_goodsAll_9 : decode cX5_goodsAll 9 = .ok (.iconst 1, 1) := by decide +kernel
theorem dX5_goodsAll_10 : decode cX5_goodsAll 10 = .ok (.iaload, 1) := by decide +kernel
theorem dX5_goodsAll_11 : decode cX5_goodsAll 11 = .ok (.if_icmp .ge 18, 3) := by decide +kernel
theorem dX5_goodsAll_14 : decode cX5_goodsAll 14 = .ok (.iload_n 1, 1) := by decide +kernel
theorem dX5_goodsAll_15 : decode cX5_goodsAll 15 = .ok (.aload_n 0, 1) := by decide +kernel
theorem dX5_goodsAll_16 : decode cX5_goodsAll 16 = .ok (.iload_n 2, 1) := by decide +kernel
theorem dX5_goodsAll_17 : decode cX5_goodsAll 17 = .ok (.iconst 2, 1) := by decide +kernel
theorem dX5_goodsAll_18 : decode cX5_goodsAll 18 = .ok (.invokevirtual 77, 3) := by decide +kernel
theorem dX5_goodsAll_21 : decode cX5_goodsAll 21 = .ok (.iadd, 1) := by decide +kernel
theorem dX5_goodsAll_22 : decode cX5_goodsAll 22 = .ok (.istore_n 1, 1) := by decide +kernel
theorem dX5_goodsAll_23 : decode cX5_goodsAll 23 = .ok (.iinc 2 1, 3) := by decide +kernel
theorem dX5_goodsAll_26 : decode cX5_goodsAll 26 = .ok (.goto (-22), 3) := by decide +kernel
theorem dX5_goodsAll_29 : decode cX5_goodsAll 29 = .ok (.iload_n 1, 1) := by decide +kernel
theorem dX5_goodsAll_30 : decode cX5_goodsAll 30 = .ok (.ireturn, 1) := by decide +kernel
theorem dX5_go_0 : decode cX5_go 0 = .ok (.iload_n 1, 1) := by decide +kernel
theorem dX5_go_1 : decode cX5_go 1 = .ok (.i2l, 1) := by decide +kernel
theorem dX5_go_2 : decode cX5_go 2 = .ok (.lconst 1, 1) := by decide +kernel
theorem dX5_go_3 : decode cX5_go 3 = .ok (.ldc2_w 150, 3) := by decide +kernel
theorem dX5_go_6 : decode cX5_go 6 = .ok (.invokestatic 53, 3) := by decide +kernel
theorem dX5_go_9 : decode cX5_go 9 = .ok (.ifCond .ne 10, 3) := by decide +kernel
theorem dX5_go_12 : decode cX5_go 12 = .ok (.aload_n 0, 1) := by decide +kernel
theorem dX5_go_13 : decode cX5_go 13 = .ok (.ldc 50, 2) := by decide +kernel
theorem dX5_go_15 : decode cX5_go 15 = .ok (.invokevirtual 70, 3) := by decide +kernel
theorem dX5_go_18 : decode cX5_go 18 = .ok (.ireturn, 1) := by decide +kernel
theorem dX5_go_19 : decode cX5_go 19 = .ok (.aload_n 0, 1) := by decide +kernel
theorem dX5_go_20 : decode cX5_go 20 = .ok (.getfield 7, 3) := by decide +kernel
theorem dX5_go_23 : decode cX5_go 23 = .ok (.iconst 0, 1) := by decide +kernel
theorem dX5_go_24 : decode cX5_go 24 = .ok (.iaload, 1) := by decide +kernel
theorem dX5_go_25 : decode cX5_go 25 = .ok (.iload_n 1, 1) := by decide +kernel
theorem dX5_go_26 : decode cX5_go 26 = .ok (.iadd, 1) := by decide +kernel
theorem dX5_go_27 : decode cX5_go 27 = .ok (.ldc 132, 2) := by decide +kernel
theorem dX5_go_29 : decode cX5_go 29 = .ok (.if_icmp .le 10, 3) := by decide +kernel
theorem dX5_go_32 : decode cX5_go 32 = .ok (.aload_n 0, 1) := by decide +kernel
theorem dX5_go_33 : decode cX5_go 33 = .ok (.ldc 152, 2) := by decide +kernel
theorem dX5_go_35 : decode cX5_go 35 = .ok (.invokevirtual 70, 3) := by decide +kernel
theorem dX5_go_38 : decode cX5_go 38 = .ok (.ireturn, 1) := by decide +kernel
theorem dX5_go_39 : decode cX5_go 39 = .ok (.aload_n 0, 1) := by decide +kernel
theorem dX5_go_40 : decode cX5_go 40 = .ok (.iload_n 1, 1) := by decide +kernel
theorem dX5_go_41 : decode cX5_go 41 = .ok (.invokevirtual 153, 3) := by decide +kernel
theorem dX5_go_44 : decode cX5_go 44 = .ok (.aload_n 0, 1) := by decide +kernel
theorem dX5_go_45 : decode cX5_go 45 = .ok (.invokevirtual 156, 3) := by decide +kernel
theorem dX5_go_48 : decode cX5_go 48 = .ok (.ireturn, 1) := by decide +kernel
theorem dX5_heldOnes_0 : decode cX5_heldOnes 0 = .ok (.iconst 0, 1) := by decide +kernel
theorem dX5_heldOnes_1 : decode cX5_heldOnes 1 = .ok (.istore_n 1, 1) := by decide +kernel
theorem dX5_heldOnes_2 : decode cX5_heldOnes 2 = .ok (.iconst 0, 1) := by decide +kernel
theorem dX5_heldOnes_3 : decode cX5_heldOnes 3 = .ok (.istore_n 2, 1) := by decide +kernel
theorem dX5_heldOnes_4 : decode cX5_heldOnes 4 = .ok (.iload_n 2, 1) := by decide +kernel
theorem dX5_heldOnes_5 : decode cX5_heldOnes 5 = .ok (.bipush 12, 2) := by decide +kernel
theorem dX5_heldOnes_7 : decode cX5_heldOnes 7 = .ok (.if_icmp .ge 27, 3) := by decide +kernel
theorem dX5_heldOnes_10 : decode cX5_heldOnes 10 = .ok (.iload_n 1, 1) := by decide +kernel
theorem dX5_heldOnes_11 : decode cX5_heldOnes 11 = .ok (.aload_n 0, 1) := by decide +kernel
theorem dX5_heldOnes_12 : decode cX5_heldOnes 12 = .ok (.iload_n 2, 1) := by decide +kernel
theorem dX5_heldOnes_13 : decode cX5_heldOnes 13 = .ok (.invokevirtual 82, 3) := by decide +kernel
theorem dX5_heldOnes_16 : decode cX5_heldOnes 16 = .ok (.ifCond .lt 9, 3) := by decide +kernel
theorem dX5_heldOnes_19 : decode cX5_heldOnes 19 = .ok (.iconst 1, 1) := by decide +kernel
theorem dX5_heldOnes_20 : decode cX5_heldOnes 20 = .ok (.iload_n 2, 1) := by decide +kernel
theorem dX5_heldOnes_21 : decode cX5_heldOnes 21 = .ok (.ishl, 1) := by decide +kernel
theorem dX5_heldOnes_22 : decode cX5_heldOnes 22 = .ok (.goto 4, 3) := by decide +kernel
theorem dX5_heldOnes_25 : decode cX5_heldOnes 25 = .ok (.iconst 0, 1) := by decide +kernel
theorem dX5_heldOnes_26 : decode cX5_heldOnes 26 = .ok (.ior, 1) := by decide +kernel
theorem dX5_heldOnes_27 : decode cX5_heldOnes 27 = .ok (.istore_n 1, 1) := by decide +kernel
theorem dX5_heldOnes_28 : decode cX5_heldOnes 28 = .ok (.iinc 2 1, 3) := by decide +kernel
theorem dX5_heldOnes_31 : decode cX5_heldOnes 31 = .ok (.goto (-27), 3) := by decide +kernel
theorem dX5_heldOnes_34 : decode cX5_heldOnes 34 = .ok (.iload_n 1, 1) := by decide +kernel
theorem dX5_heldOnes_35 : decode cX5_heldOnes 35 = .ok (.ireturn, 1) := by decide +kernel
theorem dX5_landless_0 : decode cX5_landless 0 = .ok (.iconst 0, 1) := by decide +kernel
theorem dX5_landless_1 : decode cX5_landless 1 = .ok (.istore_n 1, 1) := by decide +kernel
theorem dX5_landless_2 : decode cX5_landless 2 = .ok (.iconst 0, 1) := by decide +kernel
theorem dX5_landless_3 : decode cX5_landless 3 = .ok (.istore_n 2, 1) := by decide +kernel
theorem dX5_landless_4 : decode cX5_landless 4 = .ok (.iload_n 2, 1) := by decide +kernel
theorem dX5_landless_5 : decode cX5_landless 5 = .ok (.aload_n 0, 1) := by decide +kernel
theorem dX5_landless_6 : decode cX5_landless 6 = .ok (.getfield 7, 3) := by decide +kernel
theorem dX5_landless_9 : decode cX5_landless 9 = .ok (.iconst 1, 1) := by decide +kernel
theorem dX5_landless_10 : decode cX5_landless 10 = .ok (.iaload, 1) := by decide +kernel
theorem dX5_landless_11 : decode cX5_landless 11 = .ok (.if_icmp .ge 27, 3) := by decide +kernel
theorem dX5_landless_14 : decode cX5_landless 14 = .ok (.iload_n 1, 1) := by decide +kernel
theorem dX5_landless_15 : decode cX5_landless 15 = .ok (.aload_n 0, 1) := by decide +kernel
theorem dX5_landless_16 : decode cX5_landless 16 = .ok (.iload_n 2, 1) := by decide +kernel
theorem dX5_landless_17 : decode cX5_landless 17 = .ok (.invokevirtual 110, 3) := by decide +kernel
theorem dX5_landless_20 : decode cX5_landless 20 = .ok (.ifCond .ne 9, 3) := by decide +kernel
theorem dX5_landless_23 : decode cX5_landless 23 = .ok (.iconst 1, 1) := by decide +kernel
theorem dX5_landless_24 : decode cX5_landless 24 = .ok (.iload_n 2, 1) := by decide +kernel
theorem dX5_landless_25 : decode cX5_landless 25 = .ok (.ishl, 1) := by decide +kernel
theorem dX5_landless_26 : decode cX5_landless 26 = .ok (.goto 4, 3) := by decide +kernel
theorem dX5_landless_29 : decode cX5_landless 29 = .ok (.iconst 0, 1) := by decide +kernel
theorem dX5_landless_30 : decode cX5_landless 30 = .ok (.ior, 1) := by decide +kernel
theorem dX5_landless_31 : decode cX5_landless 31 = .ok (.istore_n 1, 1) := by decide +kernel
theorem dX5_landless_32 : decode cX5_landless 32 = .ok (.iinc 2 1, 3) := by decide +kernel
theorem dX5_landless_35 : decode cX5_landless 35 = .ok (.goto (-31), 3) := by decide +kernel
theorem dX5_landless_38 : decode cX5_landless 38 = .ok (.iload_n 1, 1) := by decide +kernel
theorem dX5_landless_39 : decode cX5_landless 39 = .ok (.ireturn, 1) := by decide +kernel
theorem dX5_richest_0 : decode cX5_richest 0 = .ok (.iconst (-1), 1) := by decide +kernel
theorem dX5_richest_1 : decode cX5_richest 1 = .ok (.istore_n 1, 1) := by decide +kernel
theorem dX5_richest_2 : decode cX5_richest 2 = .ok (.iconst 0, 1) := by decide +kernel
theorem dX5_richest_3 : decode cX5_richest 3 = .ok (.istore_n 2, 1) := by decide +kernel
theorem dX5_richest_4 : decode cX5_richest 4 = .ok (.iload_n 2, 1) := by decide +kernel
theorem dX5_richest_5 : decode cX5_richest 5 = .ok (.aload_n 0, 1) := by decide +kernel
theorem dX5_richest_6 : decode cX5_richest 6 = .ok (.getfield 7, 3) := by decide +kernel
theorem dX5_richest_9 : decode cX5_richest 9 = .ok (.iconst 1, 1) := by decide +kernel
theorem dX5_richest_10 : decode cX5_richest 10 = .ok (.iaload, 1) := by decide +kernel
theorem dX5_richest_11 : decode cX5_richest 11 = .ok (.if_icmp .ge 34, 3) := by decide +kernel
theorem dX5_richest_14 : decode cX5_richest 14 = .ok (.iload_n 1, 1) := by decide +kernel
theorem dX5_richest_15 : decode cX5_richest 15 = .ok (.ifCond .lt 18, 3) := by decide +kernel
theorem dX5_richest_18 : decode cX5_richest 18 = .ok (.aload_n 0, 1) := by decide +kernel
theorem dX5_richest_19 : decode cX5_richest 19 = .ok (.iload_n 2, 1) := by decide +kernel
theorem dX5_richest_20 : decode cX5_richest 20 = .ok (.iconst 2, 1) := by decide +kernel
theorem dX5_richest_21 : decode cX5_richest 21 = .ok (.invokevirtual 77, 3) := by decide +kernel
theorem dX5_richest_24 : decode cX5_richest 24 = .ok (.aload_n 0, 1) := by decide +kernel
theorem dX5_richest_25 : decode cX5_richest 25 = .ok (.iload_n 1, 1) := by decide +kernel
theorem dX5_richest_26 : decode cX5_richest 26 = .ok (.iconst 2, 1) := by decide +kernel
theorem dX5_richest_27 : decode cX5_richest 27 = .ok (.invokevirtual 77, 3) := by decide +kernel
theorem dX5_richest_30 : decode cX5_richest 30 = .ok (.if_icmp .le 7, 3) := by decide +kernel
theorem dX5_richest_33 : decode cX5_richest 33 = .ok (.iload_n 2, 1) := by decide +kernel
theorem dX5_richest_34 : decode cX5_richest 34 = .ok (.goto 4, 3) := by decide +kernel
theorem dX5_richest_37 : decode cX5_richest 37 = .ok (.iload_n 1, 1) := by decide +kernel
theorem dX5_richest_38 : decode cX5_richest 38 = .ok (.istore_n 1, 1) := by decide +kernel
theorem dX5_richest_39 : decode cX5_richest 39 = .ok (.iinc 2 1, 3) := by decide +kernel
theorem dX5_richest_42 : decode cX5_richest 42 = .ok (.goto (-38), 3) := by decide +kernel
theorem dX5_richest_45 : decode cX5_richest 45 = .ok (.iload_n 1, 1) := by decide +kernel
theorem dX5_richest_46 : decode cX5_richest 46 = .ok (.ireturn, 1) := by decide +kernel
theorem dX5_now_0 : decode cX5_now 0 = .ok (.iload_n 1, 1) := by decide +kernel
theorem dX5_now_1 : decode cX5_now 1 = .ok (.tableswitch 71 0 5 #[39, 46, 51, 56, 61, 66], 39) := by decide +kernel
theorem dX5_now_40 : decode cX5_now 40 = .ok (.aload_n 0, 1) := by decide +kernel
theorem dX5_now_41 : decode cX5_now 41 = .ok (.getfield 7, 3) := by decide +kernel
theorem dX5_now_44 : decode cX5_now 44 = .ok (.iconst 0, 1) := by decide +kernel
theorem dX5_now_45 : decode cX5_now 45 = .ok (.iaload, 1) := by decide +kernel
theorem dX5_now_46 : decode cX5_now 46 = .ok (.ireturn, 1) := by decide +kernel
theorem dX5_now_47 : decode cX5_now 47 = .ok (.aload_n 0, 1) := by decide +kernel
theorem dX5_now_48 : decode cX5_now 48 = .ok (.invokevirtual 156, 3) := by decide +kernel
theorem dX5_now_51 : decode cX5_now 51 = .ok (.ireturn, 1) := by decide +kernel
theorem dX5_now_52 : decode cX5_now 52 = .ok (.aload_n 0, 1) := by decide +kernel
theorem dX5_now_53 : decode cX5_now 53 = .ok (.invokevirtual 160, 3) := by decide +kernel
theorem dX5_now_56 : decode cX5_now 56 = .ok (.ireturn, 1) := by decide +kernel
theorem dX5_now_57 : decode cX5_now 57 = .ok (.aload_n 0, 1) := by decide +kernel
theorem dX5_now_58 : decode cX5_now 58 = .ok (.invokevirtual 163, 3) := by decide +kernel
theorem dX5_now_61 : decode cX5_now 61 = .ok (.ireturn, 1) := by decide +kernel
theorem dX5_now_62 : decode cX5_now 62 = .ok (.aload_n 0, 1) := by decide +kernel
theorem dX5_now_63 : decode cX5_now 63 = .ok (.invokevirtual 166, 3) := by decide +kernel
theorem dX5_now_66 : decode cX5_now 66 = .ok (.ireturn, 1) := by decide +kernel
theorem dX5_now_67 : decode cX5_now 67 = .ok (.aload_n 0, 1) := by decide +kernel
theorem dX5_now_68 : decode cX5_now 68 = .ok (.invokevirtual 169, 3) := by decide +kernel
theorem dX5_now_71 : decode cX5_now 71 = .ok (.ireturn, 1) := by decide +kernel
theorem dX5_now_72 : decode cX5_now 72 = .ok (.aload_n 0, 1) := by decide +kernel
theorem dX5_now_73 : decode cX5_now 73 = .ok (.ldc 50, 2) := by decide +kernel
theorem dX5_now_75 : decode cX5_now 75 = .ok (.invokevirtual 70, 3) := by decide +kernel
theorem dX5_now_78 : decode cX5_now 78 = .ok (.ireturn, 1) := by decide +kernel
theorem dX5_isAhead_0 : decode cX5_isAhead 0 = .ok (.iload_n 0, 1) := by decide +kernel
theorem dX5_isAhead_1 : decode cX5_isAhead 1 = .ok (.i2l, 1) := by decide +kernel
theorem dX5_isAhead_2 : decode cX5_isAhead 2 = .ok (.lconst 0, 1) := by decide +kernel
theorem dX5_isAhead_3 : decode cX5_isAhead 3 = .ok (.ldc2_w 172, 3) := by decide +kernel
theorem dX5_isAhead_6 : decode cX5_isAhead 6 = .ok (.invokestatic 53, 3) := by decide +kernel
theorem dX5_isAhead_9 : decode cX5_isAhead 9 = .ok (.ireturn, 1) := by decide +kernel
theorem dX5_ahead_0 : decode cX5_ahead 0 = .ok (.iload_n 1, 1) := by decide +kernel
theorem dX5_ahead_1 : decode cX5_ahead 1 = .ok (.invokestatic 61, 3) := by decide +kernel
theorem dX5_ahead_4 : decode cX5_ahead 4 = .ok (.ifCond .eq 10, 3) := by decide +kernel
theorem dX5_ahead_7 : decode cX5_ahead 7 = .ok (.iload_n 2, 1) := by decide +kernel
theorem dX5_ahead_8 : decode cX5_ahead 8 = .ok (.invokestatic 174, 3) := by decide +kernel
theorem dX5_ahead_11 : decode cX5_ahead 11 = .ok (.ifCond .ne 10, 3) := by decide +kernel
theorem dX5_ahead_14 : decode cX5_ahead 14 = .ok (.aload_n 0, 1) := by decide +kernel
theorem dX5_ahead_15 : decode cX5_ahead 15 = .ok (.ldc 50, 2) := by decide +kernel
theorem dX5_ahead_17 : decode cX5_ahead 17 = .ok (.invokevirtual 70, 3) := by decide +kernel
theorem dX5_ahead_20 : decode cX5_ahead 20 = .ok (.ireturn, 1) := by decide +kernel
theorem dX5_ahead_21 : decode cX5_ahead 21 = .ok (.aload_n 0, 1) := by decide +kernel
theorem dX5_ahead_22 : decode cX5_ahead 22 = .ok (.invokevirtual 177, 3) := by decide +kernel
theorem dX5_ahead_25 : decode cX5_ahead 25 = .ok (.aload_n 0, 1) := by decide +kernel
theorem dX5_ahead_26 : decode cX5_ahead 26 = .ok (.iload_n 2, 1) := by decide +kernel
theorem dX5_ahead_27 : decode cX5_ahead 27 = .ok (.invokevirtual 153, 3) := by decide +kernel
theorem dX5_ahead_30 : decode cX5_ahead 30 = .ok (.aload_n 0, 1) := by decide +kernel
theorem dX5_ahead_31 : decode cX5_ahead 31 = .ok (.aload_n 0, 1) := by decide +kernel
theorem dX5_ahead_32 : decode cX5_ahead 32 = .ok (.getfield 7, 3) := by decide +kernel
theorem dX5_ahead_35 : decode cX5_ahead 35 = .ok (.iconst 5, 1) := by decide +kernel
theorem dX5_ahead_36 : decode cX5_ahead 36 = .ok (.iload_n 1, 1) := by decide +kernel
theorem dX5_ahead_37 : decode cX5_ahead 37 = .ok (.iadd, 1) := by decide +kernel
theorem dX5_ahead_38 : decode cX5_ahead 38 = .ok (.iaload, 1) := by decide +kernel
theorem dX5_ahead_39 : decode cX5_ahead 39 = .ok (.invokevirtual 180, 3) := by decide +kernel
theorem dX5_ahead_42 : decode cX5_ahead 42 = .ok (.ireturn, 1) := by decide +kernel
theorem dX5_goodsBehind_0 : decode cX5_goodsBehind 0 = .ok (.aload_n 0, 1) := by decide +kernel
theorem dX5_goodsBehind_1 : decode cX5_goodsBehind 1 = .ok (.invokevirtual 177, 3) := by decide +kernel
theorem dX5_goodsBehind_4 : decode cX5_goodsBehind 4 = .ok (.aload_n 0, 1) := by decide +kernel
theorem dX5_goodsBehind_5 : decode cX5_goodsBehind 5 = .ok (.iload_n 2, 1) := by decide +kernel
theorem dX5_goodsBehind_6 : decode cX5_goodsBehind 6 = .ok (.invokevirtual 153, 3) := by decide +kernel
theorem dX5_goodsBehind_9 : decode cX5_goodsBehind 9 = .ok (.aload_n 0, 1) := by decide +kernel
theorem dX5_goodsBehind_10 : decode cX5_goodsBehind 10 = .ok (.aload_n 0, 1) := by decide +kernel
theorem dX5_goodsBehind_11 : decode cX5_goodsBehind 11 = .ok (.iload_n 1, 1) := by decide +kernel
theorem dX5_goodsBehind_12 : decode cX5_goodsBehind 12 = .ok (.iconst 2, 1) := by decide +kernel
theorem dX5_goodsBehind_13 : decode cX5_goodsBehind 13 = .ok (.invokevirtual 77, 3) := by decide +kernel
theorem dX5_goodsBehind_16 : decode cX5_goodsBehind 16 = .ok (.invokevirtual 180, 3) := by decide +kernel
theorem dX5_goodsBehind_19 : decode cX5_goodsBehind 19 = .ok (.ireturn, 1) := by decide +kernel
theorem dX5_goods_0 : decode cX5_goods 0 = .ok (.aload_n 0, 1) := by decide +kernel
theorem dX5_goods_1 : decode cX5_goods 1 = .ok (.iload_n 1, 1) := by decide +kernel
theorem dX5_goods_2 : decode cX5_goods 2 = .ok (.invokevirtual 101, 3) := by decide +kernel
theorem dX5_goods_5 : decode cX5_goods 5 = .ok (.ifCond .eq 19, 3) := by decide +kernel
theorem dX5_goods_8 : decode cX5_goods 8 = .ok (.iload_n 2, 1) := by decide +kernel
theorem dX5_goods_9 : decode cX5_goods 9 = .ok (.invokestatic 174, 3) := by decide +kernel
theorem dX5_goods_12 : decode cX5_goods 12 = .ok (.ifCond .eq 12, 3) := by decide +kernel
theorem dX5_goods_15 : decode cX5_goods 15 = .ok (.aload_n 0, 1) := by decide +kernel
theorem dX5_goods_16 : decode cX5_goods 16 = .ok (.iload_n 1, 1) := by decide +kernel
theorem dX5_goods_17 : decode cX5_goods 17 = .ok (.iload_n 2, 1) := by decide +kernel
theorem dX5_goods_18 : decode cX5_goods 18 = .ok (.invokevirtual 183, 3) := by decide +kernel
theorem dX5_goods_21 : decode cX5_goods 21 = .ok (.goto 9, 3) := by decide +kernel
theorem dX5_goods_24 : decode cX5_goods 24 = .ok (.aload_n 0, 1) := by decide +kernel
theorem dX5_goods_25 : decode cX5_goods 25 = .ok (.ldc 50, 2) := by decide +kernel
theorem dX5_goods_27 : decode cX5_goods 27 = .ok (.invokevirtual 70, 3) := by decide +kernel
theorem dX5_goods_30 : decode cX5_goods 30 = .ok (.ireturn, 1) := by decide +kernel
theorem dX5_holder_0 : decode cX5_holder 0 = .ok (.iload_n 1, 1) := by decide +kernel
theorem dX5_holder_1 : decode cX5_holder 1 = .ok (.invokestatic 61, 3) := by decide +kernel
theorem dX5_holder_4 : decode cX5_holder 4 = .ok (.ifCond .eq 10, 3) := by decide +kernel
theorem dX5_holder_7 : decode cX5_holder 7 = .ok (.iload_n 2, 1) := by decide +kernel
theorem dX5_holder_8 : decode cX5_holder 8 = .ok (.invokestatic 174, 3) := by decide +kernel
theorem dX5_holder_11 : decode cX5_holder 11 = .ok (.ifCond .ne 10, 3) := by decide +kernel
theorem dX5_holder_14 : decode cX5_holder 14 = .ok (.aload_n 0, 1) := by decide +kernel
theorem dX5_holder_15 : decode cX5_holder 15 = .ok (.ldc 50, 2) := by decide +kernel
theorem dX5_holder_17 : decode cX5_holder 17 = .ok (.invokevirtual 70, 3) := by decide +kernel
theorem dX5_holder_20 : decode cX5_holder 20 = .ok (.ireturn, 1) := by decide +kernel
theorem dX5_holder_21 : decode cX5_holder 21 = .ok (.aload_n 0, 1) := by decide +kernel
theorem dX5_holder_22 : decode cX5_holder 22 = .ok (.invokevirtual 177, 3) := by decide +kernel
theorem dX5_holder_25 : decode cX5_holder 25 = .ok (.aload_n 0, 1) := by decide +kernel
theorem dX5_holder_26 : decode cX5_holder 26 = .ok (.iload_n 2, 1) := by decide +kernel
theorem dX5_holder_27 : decode cX5_holder 27 = .ok (.invokevirtual 153, 3) := by decide +kernel
theorem dX5_holder_30 : decode cX5_holder 30 = .ok (.aload_n 0, 1) := by decide +kernel
theorem dX5_holder_31 : decode cX5_holder 31 = .ok (.aload_n 0, 1) := by decide +kernel
theorem dX5_holder_32 : decode cX5_holder 32 = .ok (.iload_n 1, 1) := by decide +kernel
theorem dX5_holder_33 : decode cX5_holder 33 = .ok (.invokevirtual 82, 3) := by decide +kernel
theorem dX5_holder_36 : decode cX5_holder 36 = .ok (.invokevirtual 180, 3) := by decide +kernel
theorem dX5_holder_39 : decode cX5_holder 39 = .ok (.ireturn, 1) := by decide +kernel
theorem dX5_orNone_0 : decode cX5_orNone 0 = .ok (.iload_n 1, 1) := by decide +kernel
theorem dX5_orNone_1 : decode cX5_orNone 1 = .ok (.bipush 60, 2) := by decide +kernel
theorem dX5_orNone_3 : decode cX5_orNone 3 = .ok (.if_icmp .le 12, 3) := by decide +kernel
theorem dX5_orNone_6 : decode cX5_orNone 6 = .ok (.aload_n 0, 1) := by decide +kernel
theorem dX5_orNone_7 : decode cX5_orNone 7 = .ok (.ldc 186, 2) := by decide +kernel
theorem dX5_orNone_9 : decode cX5_orNone 9 = .ok (.invokevirtual 70, 3) := by decide +kernel
theorem dX5_orNone_12 : decode cX5_orNone 12 = .ok (.goto 4, 3) := by decide +kernel
theorem dX5_orNone_15 : decode cX5_orNone 15 = .ok (.iload_n 1, 1) := by decide +kernel
theorem dX5_orNone_16 : decode cX5_orNone 16 = .ok (.ireturn, 1) := by decide +kernel
theorem dX5_when_0 : decode cX5_when 0 = .ok (.aload_n 0, 1) := by decide +kernel
theorem dX5_when_1 : decode cX5_when 1 = .ok (.iload_n 1, 1) := by decide +kernel
theorem dX5_when_2 : decode cX5_when 2 = .ok (.invokevirtual 101, 3) := by decide +kernel
theorem dX5_when_5 : decode cX5_when 5 = .ok (.ifCond .eq 10, 3) := by decide +kernel
theorem dX5_when_8 : decode cX5_when 8 = .ok (.iload_n 2, 1) := by decide +kernel
theorem dX5_when_9 : decode cX5_when 9 = .ok (.invokestatic 61, 3) := by decide +kernel
theorem dX5_when_12 : decode cX5_when 12 = .ok (.ifCond .ne 10, 3) := by decide +kernel
theorem dX5_when_15 : decode cX5_when 15 = .ok (.aload_n 0, 1) := by decide +kernel
theorem dX5_when_16 : decode cX5_when 16 = .ok (.ldc 50, 2) := by decide +kernel
theorem dX5_when_18 : decode cX5_when 18 = .ok (.invokevirtual 70, 3) := by decide +kernel
theorem dX5_when_21 : decode cX5_when 21 = .ok (.ireturn, 1) := by decide +kernel
theorem dX5_when_22 : decode cX5_when 22 = .ok (.aload_n 0, 1) := by decide +kernel
theorem dX5_when_23 : decode cX5_when 23 = .ok (.invokevirtual 177, 3) := by decide +kernel
theorem dX5_when_26 : decode cX5_when 26 = .ok (.iconst 0, 1) := by decide +kernel
theorem dX5_when_27 : decode cX5_when 27 = .ok (.istore_n 3, 1) := by decide +kernel
theorem dX5_when_28 : decode cX5_when 28 = .ok (.iload_n 3, 1) := by decide +kernel
theorem dX5_when_29 : decode cX5_when 29 = .ok (.bipush 60, 2) := by decide +kernel
theorem dX5_when_31 : decode cX5_when 31 = .ok (.if_icmp .gt 22, 3) := by decide +kernel
theorem dX5_when_34 : decode cX5_when 34 = .ok (.aload_n 0, 1) := by decide +kernel
theorem dX5_when_35 : decode cX5_when 35 = .ok (.iload_n 2, 1) := by decide +kernel
theorem dX5_when_36 : decode cX5_when 36 = .ok (.invokevirtual 82, 3) := by decide +kernel
theorem dX5_when_39 : decode cX5_when 39 = .ok (.iload_n 1, 1) := by decide +kernel
theorem dX5_when_40 : decode cX5_when 40 = .ok (.if_icmp .eq 13, 3) := by decide +kernel
theorem dX5_when_43 : decode cX5_when 43 = .ok (.aload_n 0, 1) := by decide +kernel
theorem dX5_when_44 : decode cX5_when 44 = .ok (.invokevirtual 147, 3) := by decide +kernel
theorem dX5_when_47 : decode cX5_when 47 = .ok (.iinc 3 1, 3) := by decide +kernel
theorem dX5_when_50 : decode cX5_when 50 = .ok (.goto (-22), 3) := by decide +kernel
theorem dX5_when_53 : decode cX5_when 53 = .ok (.aload_n 0, 1) := by decide +kernel
theorem dX5_when_54 : decode cX5_when 54 = .ok (.aload_n 0, 1) := by decide +kernel
theorem dX5_when_55 : decode cX5_when 55 = .ok (.iload_n 3, 1) := by decide +kernel
theorem dX5_when_56 : decode cX5_when 56 = .ok (.invokevirtual 180, 3) := by decide +kernel
theorem dX5_when_59 : decode cX5_when 59 = .ok (.invokevirtual 187, 3) := by decide +kernel
theorem dX5_when_62 : decode cX5_when 62 = .ok (.ireturn, 1) := by decide +kernel
theorem dX5_isOtherwise_0 : decode cX5_isOtherwise 0 = .ok (.iconst 0, 1) := by decide +kernel
theorem dX5_isOtherwise_1 : decode cX5_isOtherwise 1 = .ok (.istore_n 1, 1) := by decide +kernel
theorem dX5_isOtherwise_2 : decode cX5_isOtherwise 2 = .ok (.iconst 0, 1) := by decide +kernel
theorem dX5_isOtherwise_3 : decode cX5_isOtherwise 3 = .ok (.istore_n 2, 1) := by decide +kernel
theorem dX5_isOtherwise_4 : decode cX5_isOtherwise 4 = .ok (.iload_n 2, 1) := by decide +kernel
theorem dX5_isOtherwise_5 : decode cX5_isOtherwise 5 = .ok (.bipush 12, 2) := by decide +kernel
theorem dX5_isOtherwise_7 : decode cX5_isOtherwise 7 = .ok (.if_icmp .ge 33, 3) := by decide +kernel
theorem dX5_isOtherwise_10 : decode cX5_isOtherwise 10 = .ok (.iload_n 1, 1) := by decide +kernel
theorem dX5_isOtherwise_11 : decode cX5_isOtherwise 11 = .ok (.ifCond .ne 17, 3) := by decide +kernel
theorem dX5_isOtherwise_14 : decode cX5_isOtherwise 14 = .ok (.aload_n 0, 1) := by decide +kernel
theorem dX5_isOtherwise_15 : decode cX5_isOtherwise 15 = .ok (.iload_n 2, 1) := by decide +kernel
theorem dX5_isOtherwise_16 : decode cX5_isOtherwise 16 = .ok (.invokevirtual 82, 3) := by decide +kernel
theorem dX5_isOtherwise_19 : decode cX5_isOtherwise 19 = .ok (.aload_n 0, 1) := by decide +kernel
theorem dX5_isOtherwise_20 : decode cX5_isOtherwise 20 = .ok (.getfield 32, 3) := by decide +kernel
theorem dX5_isOtherwise_23 : decode cX5_isOtherwise 23 = .ok (.iload_n 2, 1) := by decide +kernel
theorem dX5_isOtherwise_24 : decode cX5_isOtherwise 24 = .ok (.iaload, 1) := by decide +kernel
theorem dX5_isOtherwise_25 : decode cX5_isOtherwise 25 = .ok (.if_icmp .eq 7, 3) := by decide +kernel
theorem dX5_isOtherwise_28 : decode cX5_isOtherwise 28 = .ok (.iconst 1, 1) := by decide +kernel
theorem dX5_isOtherwise_29 : decode cX5_isOtherwise 29 = .ok (.goto 4, 3) := by decide +kernel
theorem dX5_isOtherwise_32 : decode cX5_isOtherwise 32 = .ok (.iconst 0, 1) := by decide +kernel
theorem dX5_isOtherwise_33 : decode cX5_isOtherwise 33 = .ok (.istore_n 1, 1) := by decide +kernel
theorem dX5_isOtherwise_34 : decode cX5_isOtherwise 34 = .ok (.iinc 2 1, 3) := by decide +kernel
theorem dX5_isOtherwise_37 : decode cX5_isOtherwise 37 = .ok (.goto (-33), 3) := by decide +kernel
theorem dX5_isOtherwise_40 : decode cX5_isOtherwise 40 = .ok (.iload_n 1, 1) := by decide +kernel
theorem dX5_isOtherwise_41 : decode cX5_isOtherwise 41 = .ok (.ireturn, 1) := by decide +kernel
theorem dX5_clash_0 : decode cX5_clash 0 = .ok (.iconst 0, 1) := by decide +kernel
theorem dX5_clash_1 : decode cX5_clash 1 = .ok (.istore_n 1, 1) := by decide +kernel
theorem dX5_clash_2 : decode cX5_clash 2 = .ok (.iload_n 1, 1) := by decide +kernel
theorem dX5_clash_3 : decode cX5_clash 3 = .ok (.bipush 12, 2) := by decide +kernel
theorem dX5_clash_5 : decode cX5_clash 5 = .ok (.if_icmp .ge 20, 3) := by decide +kernel
theorem dX5_clash_8 : decode cX5_clash 8 = .ok (.aload_n 0, 1) := by decide +kernel
theorem dX5_clash_9 : decode cX5_clash 9 = .ok (.getfield 32, 3) := by decide +kernel
theorem dX5_clash_12 : decode cX5_clash 12 = .ok (.iload_n 1, 1) := by decide +kernel
theorem dX5_clash_13 : decode cX5_clash 13 = .ok (.aload_n 0, 1) := by decide +kernel
theorem dX5_clash_14 : decode cX5_clash 14 = .ok (.iload_n 1, 1) := by decide +kernel
theorem dX5_clash_15 : decode cX5_clash 15 = .ok (.invokevirtual 82, 3) := by decide +kernel
theorem dX5_clash_18 : decode cX5_clash 18 = .ok (.iastore, 1) := by decide +kernel
theorem dX5_clash_19 : decode cX5_clash 19 = .ok (.iinc 1 1, 3) := by decide +kernel
theorem dX5_clash_22 : decode cX5_clash 22 = .ok (.goto (-20), 3) := by decide +kernel
theorem dX5_clash_25 : decode cX5_clash 25 = .ok (.aload_n 0, 1) := by decide +kernel
theorem dX5_clash_26 : decode cX5_clash 26 = .ok (.invokevirtual 177, 3) := by decide +kernel
theorem dX5_clash_29 : decode cX5_clash 29 = .ok (.iconst 0, 1) := by decide +kernel
theorem dX5_clash_30 : decode cX5_clash 30 = .ok (.istore_n 1, 1) := by decide +kernel
theorem dX5_clash_31 : decode cX5_clash 31 = .ok (.iload_n 1, 1) := by decide +kernel
theorem dX5_clash_32 : decode cX5_clash 32 = .ok (.bipush 60, 2) := by decide +kernel
theorem dX5_clash_34 : decode cX5_clash 34 = .ok (.if_icmp .gt 20, 3) := by decide +kernel
theorem dX5_clash_37 : decode cX5_clash 37 = .ok (.aload_n 0, 1) := by decide +kernel
theorem dX5_clash_38 : decode cX5_clash 38 = .ok (.invokevirtual 190, 3) := by decide +kernel
theorem dX5_clash_41 : decode cX5_clash 41 = .ok (.ifCond .ne 13, 3) := by decide +kernel
theorem dX5_clash_44 : decode cX5_clash 44 = .ok (.aload_n 0, 1) := by decide +kernel
theorem dX5_clash_45 : decode cX5_clash 45 = .ok (.invokevirtual 147, 3) := by decide +kernel
theorem dX5_clash_48 : decode cX5_clash 48 = .ok (.iinc 1 1, 3) := by decide +kernel
theorem dX5_clash_51 : decode cX5_clash 51 = .ok (.goto (-20), 3) := by decide +kernel
theorem dX5_clash_54 : decode cX5_clash 54 = .ok (.aload_n 0, 1) := by decide +kernel
theorem dX5_clash_55 : decode cX5_clash 55 = .ok (.aload_n 0, 1) := by decide +kernel
theorem dX5_clash_56 : decode cX5_clash 56 = .ok (.iload_n 1, 1) := by decide +kernel
theorem dX5_clash_57 : decode cX5_clash 57 = .ok (.invokevirtual 180, 3) := by decide +kernel
theorem dX5_clash_60 : decode cX5_clash 60 = .ok (.invokevirtual 187, 3) := by decide +kernel
theorem dX5_clash_63 : decode cX5_clash 63 = .ok (.ireturn, 1) := by decide +kernel
theorem dX5_rich_0 : decode cX5_rich 0 = .ok (.aload_n 0, 1) := by decide +kernel
theorem dX5_rich_1 : decode cX5_rich 1 = .ok (.iload_n 1, 1) := by decide +kernel
theorem dX5_rich_2 : decode cX5_rich 2 = .ok (.invokevirtual 101, 3) := by decide +kernel
theorem dX5_rich_5 : decode cX5_rich 5 = .ok (.ifCond .eq 15, 3) := by decide +kernel
theorem dX5_rich_8 : decode cX5_rich 8 = .ok (.iload_n 2, 1) := by decide +kernel
theorem dX5_rich_9 : decode cX5_rich 9 = .ok (.i2l, 1) := by decide +kernel
theorem dX5_rich_10 : decode cX5_rich 10 = .ok (.lconst 0, 1) := by decide +kernel
theorem dX5_rich_11 : decode cX5_rich 11 = .ok (.ldc2_w 116, 3) := by decide +kernel
theorem dX5_rich_14 : decode cX5_rich 14 = .ok (.invokestatic 53, 3) := by decide +kernel
theorem dX5_rich_17 : decode cX5_rich 17 = .ok (.ifCond .ne 10, 3) := by decide +kernel
theorem dX5_rich_20 : decode cX5_rich 20 = .ok (.aload_n 0, 1) := by decide +kernel
theorem dX5_rich_21 : decode cX5_rich 21 = .ok (.ldc 50, 2) := by decide +kernel
theorem dX5_rich_23 : decode cX5_rich 23 = .ok (.invokevirtual 70, 3) := by decide +kernel
theorem dX5_rich_26 : decode cX5_rich 26 = .ok (.ireturn, 1) := by decide +kernel
theorem dX5_rich_27 : decode cX5_rich 27 = .ok (.aload_n 0, 1) := by decide +kernel
theorem dX5_rich_28 : decode cX5_rich 28 = .ok (.invokevirtual 177, 3) := by decide +kernel
theorem dX5_rich_31 : decode cX5_rich 31 = .ok (.iconst 0, 1) := by decide +kernel
theorem dX5_rich_32 : decode cX5_rich 32 = .ok (.istore_n 3, 1) := by decide +kernel
theorem dX5_rich_33 : decode cX5_rich 33 = .ok (.iload_n 3, 1) := by decide +kernel
theorem dX5_rich_34 : decode cX5_rich 34 = .ok (.bipush 60, 2) := by decide +kernel
theorem dX5_rich_36 : decode cX5_rich 36 = .ok (.if_icmp .gt 23, 3) := by decide +kernel
theorem dX5_rich_39 : decode cX5_rich 39 = .ok (.aload_n 0, 1) := by decide +kernel
theorem dX5_rich_40 : decode cX5_rich 40 = .ok (.iload_n 1, 1) := by decide +kernel
theorem dX5_rich_41 : decode cX5_rich 41 = .ok (.iconst 2, 1) := by decide +kernel
theorem dX5_rich_42 : decode cX5_rich 42 = .ok (.invokevirtual 77, 3) := by decide +kernel
theorem dX5_rich_45 : decode cX5_rich 45 = .ok (.iload_n 2, 1) := by decide +kernel
theorem dX5_rich_46 : decode cX5_rich 46 = .ok (.if_icmp .ge 13, 3) := by decide +kernel
theorem dX5_rich_49 : decode cX5_rich 49 = .ok (.aload_n 0, 1) := by decide +kernel
theorem dX5_rich_50 : decode cX5_rich 50 = .ok (.invokevirtual 147, 3) := by decide +kernel
theorem dX5_rich_53 : decode cX5_rich 53 = .ok (.iinc 3 1, 3) := by decide +kernel
theorem dX5_rich_56 : decode cX5_rich 56 = .ok (.goto (-23), 3) := by decide +kernel
theorem dX5_rich_59 : decode cX5_rich 59 = .ok (.aload_n 0, 1) := by decide +kernel
theorem dX5_rich_60 : decode cX5_rich 60 = .ok (.aload_n 0, 1) := by decide +kernel
theorem dX5_rich_61 : decode cX5_rich 61 = .ok (.iload_n 3, 1) := by decide +kernel
theorem dX5_rich_62 : decode cX5_rich 62 = .ok (.invokevirtual 180, 3) := by decide +kernel
theorem dX5_rich_65 : decode cX5_rich 65 = .ok (.invokevirtual 187, 3) := by decide +kernel
theorem dX5_rich_68 : decode cX5_rich 68 = .ok (.ireturn, 1) := by decide +kernel
theorem dX5_isSoon_0 : decode cX5_isSoon 0 = .ok (.iload_n 0, 1) := by decide +kernel
theorem dX5_isSoon_1 : decode cX5_isSoon 1 = .ok (.i2l, 1) := by decide +kernel
theorem dX5_isSoon_2 : decode cX5_isSoon 2 = .ok (.lconst 0, 1) := by decide +kernel
theorem dX5_isSoon_3 : decode cX5_isSoon 3 = .ok (.ldc2_w 150, 3) := by decide +kernel
theorem dX5_isSoon_6 : decode cX5_isSoon 6 = .ok (.invokestatic 53, 3) := by decide +kernel
theorem dX5_isSoon_9 : decode cX5_isSoon 9 = .ok (.ireturn, 1) := by decide +kernel
theorem dX5_richestBy_0 : decode cX5_richestBy 0 = .ok (.aload_n 0, 1) := by decide +kernel
theorem dX5_richestBy_1 : decode cX5_richestBy 1 = .ok (.getfield 7, 3) := by decide +kernel
theorem dX5_richestBy_4 : decode cX5_richestBy 4 = .ok (.iload_n 1, 1) := by decide +kernel
theorem dX5_richestBy_5 : decode cX5_richestBy 5 = .ok (.iaload, 1) := by decide +kernel
theorem dX5_richestBy_6 : decode cX5_richestBy 6 = .ok (.istore 6, 2) := by decide +kernel
theorem dX5_richestBy_8 : decode cX5_richestBy 8 = .ok (.iload_n 2, 1) := by decide +kernel
theorem dX5_richestBy_9 : decode cX5_richestBy 9 = .ok (.istore 7, 2) := by decide +kernel
theorem dX5_richestBy_11 : decode cX5_richestBy 11 = .ok (.iconst (-1), 1) := by decide +kernel
theorem dX5_richestBy_12 : decode cX5_richestBy 12 = .ok (.istore 8, 2) := by decide +kernel
theorem dX5_richestBy_14 : decode cX5_richestBy 14 = .ok (.iload_n 2, 1) := by decide +kernel
theorem dX5_richestBy_15 : decode cX5_richestBy 15 = .ok (.istore 9, 2) := by decide +kernel
theorem dX5_richestBy_17 : decode cX5_richestBy 17 = .ok (.iload 9, 2) := by decide +kernel
theorem dX5_richestBy_19 : decode cX5_richestBy 19 = .ok (.iload_n 3, 1) := by decide +kernel
theorem dX5_richestBy_20 : decode cX5_richestBy 20 = .ok (.if_icmp .gt 59, 3) := by decide +kernel
theorem dX5_richestBy_23 : decode cX5_richestBy 23 = .ok (.aload_n 0, 1) := by decide +kernel
theorem dX5_richestBy_24 : decode cX5_richestBy 24 = .ok (.getfield 7, 3) := by decide +kernel
theorem dX5_richestBy_27 : decode cX5_richestBy 27 = .ok (.iload_n 1, 1) := by decide +kernel
theorem dX5_richestBy_28 : decode cX5_richestBy 28 = .ok (.iload 9, 2) := by decide +kernel
theorem dX5_richestBy_30 : decode cX5_richestBy 30 = .ok (.iastore, 1) := by decide +kernel
theorem dX5_richestBy_31 : decode cX5_richestBy 31 = .ok (.aload_n 0, 1) := by decide +kernel
theorem dX5_richestBy_32 : decode cX5_richestBy 32 = .ok (.iload 4, 2) := by decide +kernel
theorem dX5_richestBy_34 : decode cX5_richestBy 34 = .ok (.iload 5, 2) := by decide +kernel
theorem dX5_richestBy_36 : decode cX5_richestBy 36 = .ok (.invokevirtual 183, 3) := by decide +kernel
theorem dX5_richestBy_39 : decode cX5_richestBy 39 = .ok (.istore 10, 2) := by decide +kernel
theorem dX5_richestBy_41 : decode cX5_richestBy 41 = .ok (.iload 10, 2) := by decide +kernel
theorem dX5_richestBy_43 : decode cX5_richestBy 43 = .ok (.iload 8, 2) := by decide +kernel
theorem dX5_richestBy_45 : decode cX5_richestBy 45 = .ok (.if_icmp .le 8, 3) := by decide +kernel
theorem dX5_richestBy_48 : decode cX5_richestBy 48 = .ok (.iload 9, 2) := by decide +kernel
theorem dX5_richestBy_50 : decode cX5_richestBy 50 = .ok (.goto 5, 3) := by decide +kernel
theorem dX5_richestBy_53 : decode cX5_richestBy 53 = .ok (.iload 7, 2) := by decide +kernel
theorem dX5_richestBy_55 : decode cX5_richestBy 55 = .ok (.istore 7, 2) := by decide +kernel
theorem dX5_richestBy_57 : decode cX5_richestBy 57 = .ok (.iload 10, 2) := by decide +kernel
theorem dX5_richestBy_59 : decode cX5_richestBy 59 = .ok (.iload 8, 2) := by decide +kernel
theorem dX5_richestBy_61 : decode cX5_richestBy 61 = .ok (.if_icmp .le 8, 3) := by decide +kernel
theorem dX5_richestBy_64 : decode cX5_richestBy 64 = .ok (.iload 10, 2) := by decide +kernel
theorem dX5_richestBy_66 : decode cX5_richestBy 66 = .ok (.goto 5, 3) := by decide +kernel
theorem dX5_richestBy_69 : decode cX5_richestBy 69 = .ok (.iload 8, 2) := by decide +kernel
theorem dX5_richestBy_71 : decode cX5_richestBy 71 = .ok (.istore 8, 2) := by decide +kernel
theorem dX5_richestBy_73 : decode cX5_richestBy 73 = .ok (.iinc 9 1, 3) := by decide +kernel
theorem dX5_richestBy_76 : decode cX5_richestBy 76 = .ok (.goto (-59), 3) := by decide +kernel
theorem dX5_richestBy_79 : decode cX5_richestBy 79 = .ok (.aload_n 0, 1) := by decide +kernel
theorem dX5_richestBy_80 : decode cX5_richestBy 80 = .ok (.getfield 7, 3) := by decide +kernel
theorem dX5_richestBy_83 : decode cX5_richestBy 83 = .ok (.iload_n 1, 1) := by decide +kernel
theorem dX5_richestBy_84 : decode cX5_richestBy 84 = .ok (.iload 6, 2) := by decide +kernel
theorem dX5_richestBy_86 : decode cX5_richestBy 86 = .ok (.iastore, 1) := by decide +kernel
theorem dX5_richestBy_87 : decode cX5_richestBy 87 = .ok (.iload 7, 2) := by decide +kernel
theorem dX5_richestBy_89 : decode cX5_richestBy 89 = .ok (.ireturn, 1) := by decide +kernel
theorem dX5_seat_0 : decode cX5_seat 0 = .ok (.aload_n 0, 1) := by decide +kernel
theorem dX5_seat_1 : decode cX5_seat 1 = .ok (.iload_n 1, 1) := by decide +kernel
theorem dX5_seat_2 : decode cX5_seat 2 = .ok (.invokevirtual 101, 3) := by decide +kernel
theorem dX5_seat_5 : decode cX5_seat 5 = .ok (.ifCond .eq 27, 3) := by decide +kernel
theorem dX5_seat_8 : decode cX5_seat 8 = .ok (.iload_n 2, 1) := by decide +kernel
theorem dX5_seat_9 : decode cX5_seat 9 = .ok (.invokestatic 194, 3) := by decide +kernel
theorem dX5_seat_12 : decode cX5_seat 12 = .ok (.ifCond .eq 20, 3) := by decide +kernel
theorem dX5_seat_15 : decode cX5_seat 15 = .ok (.aload_n 0, 1) := by decide +kernel
theorem dX5_seat_16 : decode cX5_seat 16 = .ok (.iload_n 1, 1) := by decide +kernel
theorem dX5_seat_17 : decode cX5_seat 17 = .ok (.iconst 1, 1) := by decide +kernel
theorem dX5_seat_18 : decode cX5_seat 18 = .ok (.invokestatic 57, 3) := by decide +kernel
theorem dX5_seat_21 : decode cX5_seat 21 = .ok (.iconst 0, 1) := by decide +kernel
theorem dX5_seat_22 : decode cX5_seat 22 = .ok (.bipush 11, 2) := by decide +kernel
theorem dX5_seat_24 : decode cX5_seat 24 = .ok (.iload_n 1, 1) := by decide +kernel
theorem dX5_seat_25 : decode cX5_seat 25 = .ok (.iload_n 2, 1) := by decide +kernel
theorem dX5_seat_26 : decode cX5_seat 26 = .ok (.invokevirtual 197, 3) := by decide +kernel
theorem dX5_seat_29 : decode cX5_seat 29 = .ok (.goto 9, 3) := by decide +kernel
theorem dX5_seat_32 : decode cX5_seat 32 = .ok (.aload_n 0, 1) := by decide +kernel
theorem dX5_seat_33 : decode cX5_seat 33 = .ok (.ldc 50, 2) := by decide +kernel
theorem dX5_seat_35 : decode cX5_seat 35 = .ok (.invokevirtual 70, 3) := by decide +kernel
theorem dX5_seat_38 : decode cX5_seat 38 = .ok (.ireturn, 1) := by decide +kernel
theorem dX5_kindFor_0 : decode cX5_kindFor 0 = .ok (.aload_n 0, 1) := by decide +kernel
theorem dX5_kindFor_1 : decode cX5_kindFor 1 = .ok (.iload_n 1, 1) := by decide +kernel
theorem dX5_kindFor_2 : decode cX5_kindFor 2 = .ok (.invokevirtual 101, 3) := by decide +kernel
theorem dX5_kindFor_5 : decode cX5_kindFor 5 = .ok (.ifCond .eq 27, 3) := by decide +kernel
theorem dX5_kindFor_8 : decode cX5_kindFor 8 = .ok (.iload_n 2, 1) := by decide +kernel
theorem dX5_kindFor_9 : decode cX5_kindFor 9 = .ok (.invokestatic 194, 3) := by decide +kernel
theorem dX5_kindFor_12 : decode cX5_kindFor 12 = .ok (.ifCond .eq 20, 3) := by decide +kernel
theorem dX5_kindFor_15 : decode cX5_kindFor 15 = .ok (.aload_n 0, 1) := by decide +kernel
theorem dX5_kindFor_16 : decode cX5_kindFor 16 = .ok (.iload_n 1, 1) := by decide +kernel
theorem dX5_kindFor_17 : decode cX5_kindFor 17 = .ok (.iconst 0, 1) := by decide +kernel
theorem dX5_kindFor_18 : decode cX5_kindFor 18 = .ok (.invokestatic 57, 3) := by decide +kernel
theorem dX5_kindFor_21 : decode cX5_kindFor 21 = .ok (.iconst 0, 1) := by decide +kernel
theorem dX5_kindFor_22 : decode cX5_kindFor 22 = .ok (.bipush 6, 2) := by decide +kernel
theorem dX5_kindFor_24 : decode cX5_kindFor 24 = .ok (.iload_n 1, 1) := by decide +kernel
theorem dX5_kindFor_25 : decode cX5_kindFor 25 = .ok (.iload_n 2, 1) := by decide +kernel
theorem dX5_kindFor_26 : decode cX5_kindFor 26 = .ok (.invokevirtual 197, 3) := by decide +kernel
theorem dX5_kindFor_29 : decode cX5_kindFor 29 = .ok (.goto 9, 3) := by decide +kernel
theorem dX5_kindFor_32 : decode cX5_kindFor 32 = .ok (.aload_n 0, 1) := by decide +kernel
theorem dX5_kindFor_33 : decode cX5_kindFor 33 = .ok (.ldc 50, 2) := by decide +kernel
theorem dX5_kindFor_35 : decode cX5_kindFor 35 = .ok (.invokevirtual 70, 3) := by decide +kernel
theorem dX5_kindFor_38 : decode cX5_kindFor 38 = .ok (.ireturn, 1) := by decide +kernel
theorem dX5_draught_0 : decode cX5_draught 0 = .ok (.aload_n 0, 1) := by decide +kernel
theorem dX5_draught_1 : decode cX5_draught 1 = .ok (.iload_n 1, 1) := by decide +kernel
theorem dX5_draught_2 : decode cX5_draught 2 = .ok (.invokevirtual 101, 3) := by decide +kernel
theorem dX5_draught_5 : decode cX5_draught 5 = .ok (.ifCond .eq 23, 3) := by decide +kernel
theorem dX5_draught_8 : decode cX5_draught 8 = .ok (.iload_n 2, 1) := by decide +kernel
theorem dX5_draught_9 : decode cX5_draught 9 = .ok (.invokestatic 194, 3) := by decide +kernel
theorem dX5_draught_12 : decode cX5_draught 12 = .ok (.ifCond .eq 16, 3) := by decide +kernel
theorem dX5_draught_15 : decode cX5_draught 15 = .ok (.aload_n 0, 1) := by decide +kernel
theorem dX5_draught_16 : decode cX5_draught 16 = .ok (.iconst 3, 1) := by decide +kernel
theorem dX5_draught_17 : decode cX5_draught 17 = .ok (.bipush (-3), 2) := by decide +kernel
theorem dX5_draught_19 : decode cX5_draught 19 = .ok (.iconst 3, 1) := by decide +kernel
theorem dX5_draught_20 : decode cX5_draught 20 = .ok (.iload_n 1, 1) := by decide +kernel
theorem dX5_draught_21 : decode cX5_draught 21 = .ok (.iload_n 2, 1) := by decide +kernel
theorem dX5_draught_22 : decode cX5_draught 22 = .ok (.invokevirtual 197, 3) := by decide +kernel
theorem dX5_draught_25 : decode cX5_draught 25 = .ok (.goto 9, 3) := by decide +kernel
theorem dX5_draught_28 : decode cX5_draught 28 = .ok (.aload_n 0, 1) := by decide +kernel
theorem dX5_draught_29 : decode cX5_draught 29 = .ok (.ldc 50, 2) := by decide +kernel
theorem dX5_draught_31 : decode cX5_draught 31 = .ok (.invokevirtual 70, 3) := by decide +kernel
theorem dX5_draught_34 : decode cX5_draught 34 = .ok (.ireturn, 1) := by decide +kernel
theorem dX5_dustBehind_0 : decode cX5_dustBehind 0 = .ok (.aload_n 0, 1) := by decide +kernel
theorem dX5_dustBehind_1 : decode cX5_dustBehind 1 = .ok (.invokevirtual 177, 3) := by decide +kernel
theorem dX5_dustBehind_4 : decode cX5_dustBehind 4 = .ok (.aload_n 0, 1) := by decide +kernel
theorem dX5_dustBehind_5 : decode cX5_dustBehind 5 = .ok (.iload_n 1, 1) := by decide +kernel
theorem dX5_dustBehind_6 : decode cX5_dustBehind 6 = .ok (.invokevirtual 153, 3) := by decide +kernel
theorem dX5_dustBehind_9 : decode cX5_dustBehind 9 = .ok (.aload_n 0, 1) := by decide +kernel
theorem dX5_dustBehind_10 : decode cX5_dustBehind 10 = .ok (.aload_n 0, 1) := by decide +kernel
theorem dX5_dustBehind_11 : decode cX5_dustBehind 11 = .ok (.invokevirtual 156, 3) := by decide +kernel
theorem dX5_dustBehind_14 : decode cX5_dustBehind 14 = .ok (.invokevirtual 180, 3) := by decide +kernel
theorem dX5_dustBehind_17 : decode cX5_dustBehind 17 = .ok (.ireturn, 1) := by decide +kernel
theorem dX5_fallFor_0 : decode cX5_fallFor 0 = .ok (.iload_n 1, 1) := by decide +kernel
theorem dX5_fallFor_1 : decode cX5_fallFor 1 = .ok (.i2l, 1) := by decide +kernel
theorem dX5_fallFor_2 : decode cX5_fallFor 2 = .ok (.lconst 0, 1) := by decide +kernel
theorem dX5_fallFor_3 : decode cX5_fallFor 3 = .ok (.ldc2_w 116, 3) := by decide +kernel
theorem dX5_fallFor_6 : decode cX5_fallFor 6 = .ok (.invokestatic 53, 3) := by decide +kernel
theorem dX5_fallFor_9 : decode cX5_fallFor 9 = .ok (.ifCond .eq 10, 3) := by decide +kernel
theorem dX5_fallFor_12 : decode cX5_fallFor 12 = .ok (.iload_n 2, 1) := by decide +kernel
theorem dX5_fallFor_13 : decode cX5_fallFor 13 = .ok (.invokestatic 194, 3) := by decide +kernel
theorem dX5_fallFor_16 : decode cX5_fallFor 16 = .ok (.ifCond .ne 10, 3) := by decide +kernel
theorem dX5_fallFor_19 : decode cX5_fallFor 19 = .ok (.aload_n 0, 1) := by decide +kernel
theorem dX5_fallFor_20 : decode cX5_fallFor 20 = .ok (.ldc 50, 2) := by decide +kernel
theorem dX5_fallFor_22 : decode cX5_fallFor 22 = .ok (.invokevirtual 70, 3) := by decide +kernel
theorem dX5_fallFor_25 : decode cX5_fallFor 25 = .ok (.ireturn, 1) := by decide +kernel
theorem dX5_fallFor_26 : decode cX5_fallFor 26 = .ok (.aload_n 0, 1) := by decide +kernel
theorem dX5_fallFor_27 : decode cX5_fallFor 27 = .ok (.getfield 7, 3) := by decide +kernel
theorem dX5_fallFor_30 : decode cX5_fallFor 30 = .ok (.iconst 2, 1) := by decide +kernel
theorem dX5_fallFor_31 : decode cX5_fallFor 31 = .ok (.iaload, 1) := by decide +kernel
theorem dX5_fallFor_32 : decode cX5_fallFor 32 = .ok (.istore_n 3, 1) := by decide +kernel
theorem dX5_fallFor_33 : decode cX5_fallFor 33 = .ok (.iconst 0, 1) := by decide +kernel
theorem dX5_fallFor_34 : decode cX5_fallFor 34 = .ok (.istore 4, 2) := by decide +kernel
theorem dX5_fallFor_36 : decode cX5_fallFor 36 = .ok (.aload_n 0, 1) := by decide +kernel
theorem dX5_fallFor_37 : decode cX5_fallFor 37 = .ok (.getfield 7, 3) := by decide +kernel
theorem dX5_fallFor_40 : decode cX5_fallFor 40 = .ok (.iconst 2, 1) := by decide +kernel
theorem dX5_fallFor_41 : decode cX5_fallFor 41 = .ok (.iconst 0, 1) := by decide +kernel
theorem dX5_fallFor_42 : decode cX5_fallFor 42 = .ok (.iastore, 1) := by decide +kernel
theorem dX5_fallFor_43 : decode cX5_fallFor 43 = .ok (.iload 4, 2) := by decide +kernel
theorem dX5_fallFor_45 : decode cX5_fallFor 45 = .ok (.bipush 100, 2) := by decide +kernel
theorem dX5_fallFor_47 : decode cX5_fallFor 47 = .ok (.if_icmp .ge 26, 3) := by decide +kernel
theorem dX5_fallFor_50 : decode cX5_fallFor 50 = .ok (.aload_n 0, 1) := by decide +kernel
theorem dX5_fallFor_51 : decode cX5_fallFor 51 = .ok (.iload_n 2, 1) := by decide +kernel
theorem dX5_fallFor_52 : decode cX5_fallFor 52 = .ok (.invokevirtual 201, 3) := by decide +kernel
theorem dX5_fallFor_55 : decode cX5_fallFor 55 = .ok (.iload_n 1, 1) := by decide +kernel
theorem dX5_fallFor_56 : decode cX5_fallFor 56 = .ok (.if_icmp .ge 17, 3) := by decide +kernel
theorem dX5_fallFor_59 : decode cX5_fallFor 59 = .ok (.iinc 4 1, 3) := by decide +kernel
theorem dX5_fallFor_62 : decode cX5_fallFor 62 = .ok (.aload_n 0, 1) := by decide +kernel
theorem dX5_fallFor_63 : decode cX5_fallFor 63 = .ok (.getfield 7, 3) := by decide +kernel
theorem dX5_fallFor_66 : decode cX5_fallFor 66 = .ok (.iconst 2, 1) := by decide +kernel
theorem dX5_fallFor_67 : decode cX5_fallFor 67 = .ok (.iload 4, 2) := by decide +kernel
theorem dX5_fallFor_69 : decode cX5_fallFor 69 = .ok (.iastore, 1) := by decide +kernel
theorem dX5_fallFor_70 : decode cX5_fallFor 70 = .ok (.goto (-27), 3) := by decide +kernel
theorem dX5_fallFor_73 : decode cX5_fallFor 73 = .ok (.aload_n 0, 1) := by decide +kernel
theorem dX5_fallFor_74 : decode cX5_fallFor 74 = .ok (.getfield 7, 3) := by decide +kernel
theorem dX5_fallFor_77 : decode cX5_fallFor 77 = .ok (.iconst 2, 1) := by decide +kernel
theorem dX5_fallFor_78 : decode cX5_fallFor 78 = .ok (.iload_n 3, 1) := by decide +kernel
theorem dX5_fallFor_79 : decode cX5_fallFor 79 = .ok (.iastore, 1) := by decide +kernel
theorem dX5_fallFor_80 : decode cX5_fallFor 80 = .ok (.iload 4, 2) := by decide +kernel
theorem dX5_fallFor_82 : decode cX5_fallFor 82 = .ok (.bipush 99, 2) := by decide +kernel
theorem dX5_fallFor_84 : decode cX5_fallFor 84 = .ok (.if_icmp .le 12, 3) := by decide +kernel
theorem dX5_fallFor_87 : decode cX5_fallFor 87 = .ok (.aload_n 0, 1) := by decide +kernel
theorem dX5_fallFor_88 : decode cX5_fallFor 88 = .ok (.ldc 186, 2) := by decide +kernel
theorem dX5_fallFor_90 : decode cX5_fallFor 90 = .ok (.invokevirtual 70, 3) := by decide +kernel
theorem dX5_fallFor_93 : decode cX5_fallFor 93 = .ok (.goto 5, 3) := by decide +kernel
theorem dX5_fallFor_96 : decode cX5_fallFor 96 = .ok (.iload 4, 2) := by decide +kernel
theorem dX5_fallFor_98 : decode cX5_fallFor 98 = .ok (.ireturn, 1) := by decide +kernel
theorem dX5_swapFor_0 : decode cX5_swapFor 0 = .ok (.aload_n 0, 1) := by decide +kernel
theorem dX5_swapFor_1 : decode cX5_swapFor 1 = .ok (.iload_n 1, 1) := by decide +kernel
theorem dX5_swapFor_2 : decode cX5_swapFor 2 = .ok (.invokevirtual 101, 3) := by decide +kernel
theorem dX5_swapFor_5 : decode cX5_swapFor 5 = .ok (.ifCond .eq 10, 3) := by decide +kernel
theorem dX5_swapFor_8 : decode cX5_swapFor 8 = .ok (.iload_n 2, 1) := by decide +kernel
theorem dX5_swapFor_9 : decode cX5_swapFor 9 = .ok (.invokestatic 194, 3) := by decide +kernel
theorem dX5_swapFor_12 : decode cX5_swapFor 12 = .ok (.ifCond .ne 10, 3) := by decide +kernel
theorem dX5_swapFor_15 : decode cX5_swapFor 15 = .ok (.aload_n 0, 1) := by decide +kernel
theorem dX5_swapFor_16 : decode cX5_swapFor 16 = .ok (.ldc 50, 2) := by decide +kernel
theorem dX5_swapFor_18 : decode cX5_swapFor 18 = .ok (.invokevirtual 70, 3) := by decide +kernel
theorem dX5_swapFor_21 : decode cX5_swapFor 21 = .ok (.ireturn, 1) := by decide +kernel
theorem dX5_swapFor_22 : decode cX5_swapFor 22 = .ok (.iconst (-1), 1) := by decide +kernel
theorem dX5_swapFor_23 : decode cX5_swapFor 23 = .ok (.istore_n 3, 1) := by decide +kernel
theorem dX5_swapFor_24 : decode cX5_swapFor 24 = .ok (.iconst (-1), 1) := by decide +kernel
theorem dX5_swapFor_25 : decode cX5_swapFor 25 = .ok (.istore 4, 2) := by decide +kernel
theorem dX5_swapFor_27 : decode cX5_swapFor 27 = .ok (.iconst 0, 1) := by decide +kernel
theorem dX5_swapFor_28 : decode cX5_swapFor 28 = .ok (.istore 5, 2) := by decide +kernel
theorem dX5_swapFor_30 : decode cX5_swapFor 30 = .ok (.iload 5, 2) := by decide +kernel
theorem dX5_swapFor_32 : decode cX5_swapFor 32 = .ok (.aload_n 0, 1) := by decide +kernel
theorem dX5_swapFor_33 : decode cX5_swapFor 33 = .ok (.getfield 7, 3) := by decide +kernel
theorem dX5_swapFor_36 : decode cX5_swapFor 36 = .ok (.iconst 1, 1) := by decide +kernel
theorem dX5_swapFor_37 : decode cX5_swapFor 37 = .ok (.iaload, 1) := by decide +kernel
theorem dX5_swapFor_38 : decode cX5_swapFor 38 = .ok (.if_icmp .ge 71, 3) := by decide +kernel
theorem dX5_swapFor_41 : decode cX5_swapFor 41 = .ok (.iload 5, 2) := by decide +kernel
theorem dX5_swapFor_43 : decode cX5_swapFor 43 = .ok (.iload_n 1, 1) := by decide +kernel
theorem dX5_swapFor_44 : decode cX5_swapFor 44 = .ok (.if_icmp .eq 59, 3) := by decide +kernel
theorem dX5_swapFor_47 : decode cX5_swapFor 47 = .ok (.aload_n 0, 1) := by decide +kernel
theorem dX5_swapFor_48 : decode cX5_swapFor 48 = .ok (.iload_n 1, 1) := by decide +kernel
theorem dX5_swapFor_49 : decode cX5_swapFor 49 = .ok (.iload 5, 2) := by decide +kernel
theorem dX5_swapFor_51 : decode cX5_swapFor 51 = .ok (.invokevirtual 118, 3) := by decide +kernel
theorem dX5_swapFor_54 : decode cX5_swapFor 54 = .ok (.istore 6, 2) := by decide +kernel
theorem dX5_swapFor_56 : decode cX5_swapFor 56 = .ok (.aload_n 0, 1) := by decide +kernel
theorem dX5_swapFor_57 : decode cX5_swapFor 57 = .ok (.iload_n 1, 1) := by decide +kernel
theorem dX5_swapFor_58 : decode cX5_swapFor 58 = .ok (.iload_n 2, 1) := by decide +kernel
theorem dX5_swapFor_59 : decode cX5_swapFor 59 = .ok (.invokevirtual 183, 3) := by decide +kernel
theorem dX5_swapFor_62 : decode cX5_swapFor 62 = .ok (.istore 7, 2) := by decide +kernel
theorem dX5_swapFor_64 : decode cX5_swapFor 64 = .ok (.aload_n 0, 1) := by decide +kernel
theorem dX5_swapFor_65 : decode cX5_swapFor 65 = .ok (.iload_n 1, 1) := by decide +kernel
theorem dX5_swapFor_66 : decode cX5_swapFor 66 = .ok (.iload 5, 2) := by decide +kernel
theorem dX5_swapFor_68 : decode cX5_swapFor 68 = .ok (.invokevirtual 118, 3) := by decide +kernel
theorem dX5_swapFor_71 : decode cX5_swapFor 71 = .ok (.istore 6, 2) := by decide +kernel
theorem dX5_swapFor_73 : decode cX5_swapFor 73 = .ok (.iload 7, 2) := by decide +kernel
theorem dX5_swapFor_75 : decode cX5_swapFor 75 = .ok (.iload 4, 2) := by decide +kernel
theorem dX5_swapFor_77 : decode cX5_swapFor 77 = .ok (.if_icmp .le 8, 3) := by decide +kernel
theorem dX5_swapFor_80 : decode cX5_swapFor 80 = .ok (.iload 5, 2) := by decide +kernel
theorem dX5_swapFor_82 : decode cX5_swapFor 82 = .ok (.goto 4, 3) := by decide +kernel
theorem dX5_swapFor_85 : decode cX5_swapFor 85 = .ok (.iload_n 3, 1) := by decide +kernel
theorem dX5_swapFor_86 : decode cX5_swapFor 86 = .ok (.istore_n 3, 1) := by decide +kernel
theorem dX5_swapFor_87 : decode cX5_swapFor 87 = .ok (.iload 7, 2) := by decide +kernel
theorem dX5_swapFor_89 : decode cX5_swapFor 89 = .ok (.iload 4, 2) := by decide +kernel
theorem dX5_swapFor_91 : decode cX5_swapFor 91 = .ok (.if_icmp .le 8, 3) := by decide +kernel
theorem dX5_swapFor_94 : decode cX5_swapFor 94 = .ok (.iload 7, 2) := by decide +kernel
theorem dX5_swapFor_96 : decode cX5_swapFor 96 = .ok (.goto 5, 3) := by decide +kernel
theorem dX5_swapFor_99 : decode cX5_swapFor 99 = .ok (.iload 4, 2) := by decide +kernel
theorem dX5_swapFor_101 : decode cX5_swapFor 101 = .ok (.istore 4, 2) := by decide +kernel
theorem dX5_swapFor_103 : decode cX5_swapFor 103 = .ok (.iinc 5 1, 3) := by decide +kernel
theorem dX5_swapFor_106 : decode cX5_swapFor 106 = .ok (.goto (-76), 3) := by decide +kernel
theorem dX5_swapFor_109 : decode cX5_swapFor 109 = .ok (.iload_n 3, 1) := by decide +kernel
theorem dX5_swapFor_110 : decode cX5_swapFor 110 = .ok (.ifCond .ge 12, 3) := by decide +kernel
theorem dX5_swapFor_113 : decode cX5_swapFor 113 = .ok (.aload_n 0, 1) := by decide +kernel
theorem dX5_swapFor_114 : decode cX5_swapFor 114 = .ok (.ldc 186, 2) := by decide +kernel
theorem dX5_swapFor_116 : decode cX5_swapFor 116 = .ok (.invokevirtual 70, 3) := by decide +kernel
theorem dX5_swapFor_119 : decode cX5_swapFor 119 = .ok (.goto 4, 3) := by decide +kernel
theorem dX5_swapFor_122 : decode cX5_swapFor 122 = .ok (.iload_n 3, 1) := by decide +kernel
theorem dX5_swapFor_123 : decode cX5_swapFor 123 = .ok (.ireturn, 1) := by decide +kernel
theorem dX5_ones_0 : decode cX5_ones 0 = .ok (.iconst 0, 1) := by decide +kernel
theorem dX5_ones_1 : decode cX5_ones 1 = .ok (.istore_n 1, 1) := by decide +kernel
theorem dX5_ones_2 : decode cX5_ones 2 = .ok (.iload_n 0, 1) := by decide +kernel
theorem dX5_ones_3 : decode cX5_ones 3 = .ok (.istore_n 2, 1) := by decide +kernel
theorem dX5_ones_4 : decode cX5_ones 4 = .ok (.iload_n 2, 1) := by decide +kernel
theorem dX5_ones_5 : decode cX5_ones 5 = .ok (.ifCond .eq 15, 3) := by decide +kernel
theorem dX5_ones_8 : decode cX5_ones 8 = .ok (.iinc 1 1, 3) := by decide +kernel
theorem dX5_ones_11 : decode cX5_ones 11 = .ok (.iload_n 2, 1) := by decide +kernel
theorem dX5_ones_12 : decode cX5_ones 12 = .ok (.iload_n 2, 1) := by decide +kernel
theorem dX5_ones_13 : decode cX5_ones 13 = .ok (.iconst 1, 1) := by decide +kernel
theorem dX5_ones_14 : decode cX5_ones 14 = .ok (.isub, 1) := by decide +kernel
theorem dX5_ones_15 : decode cX5_ones 15 = .ok (.iand, 1) := by decide +kernel
theorem dX5_ones_16 : decode cX5_ones 16 = .ok (.istore_n 2, 1) := by decide +kernel
theorem dX5_ones_17 : decode cX5_ones 17 = .ok (.goto (-13), 3) := by decide +kernel
theorem dX5_ones_20 : decode cX5_ones 20 = .ok (.iload_n 1, 1) := by decide +kernel
theorem dX5_ones_21 : decode cX5_ones 21 = .ok (.ireturn, 1) := by decide +kernel
theorem dX5_dustWith_0 : decode cX5_dustWith 0 = .ok (.aload_n 0, 1) := by decide +kernel
theorem dX5_dustWith_1 : decode cX5_dustWith 1 = .ok (.iload_n 1, 1) := by decide +kernel
theorem dX5_dustWith_2 : decode cX5_dustWith 2 = .ok (.putfield 25, 3) := by decide +kernel
theorem dX5_dustWith_5 : decode cX5_dustWith 5 = .ok (.aload_n 0, 1) := by decide +kernel
theorem dX5_dustWith_6 : decode cX5_dustWith 6 = .ok (.iload_n 2, 1) := by decide +kernel
theorem dX5_dustWith_7 : decode cX5_dustWith 7 = .ok (.invokevirtual 201, 3) := by decide +kernel
theorem dX5_dustWith_10 : decode cX5_dustWith 10 = .ok (.istore_n 3, 1) := by decide +kernel
theorem dX5_dustWith_11 : decode cX5_dustWith 11 = .ok (.aload_n 0, 1) := by decide +kernel
theorem dX5_dustWith_12 : decode cX5_dustWith 12 = .ok (.sipush 255, 3) := by decide +kernel
theorem dX5_dustWith_15 : decode cX5_dustWith 15 = .ok (.putfield 25, 3) := by decide +kernel
theorem dX5_dustWith_18 : decode cX5_dustWith 18 = .ok (.iload_n 3, 1) := by decide +kernel
theorem dX5_dustWith_19 : decode cX5_dustWith 19 = .ok (.ireturn, 1) := by decide +kernel
theorem dX5_brooms_0 : decode cX5_brooms 0 = .ok (.iload_n 1, 1) := by decide +kernel
theorem dX5_brooms_1 : decode cX5_brooms 1 = .ok (.i2l, 1) := by decide +kernel
theorem dX5_brooms_2 : decode cX5_brooms 2 = .ok (.lconst 0, 1) := by decide +kernel
theorem dX5_brooms_3 : decode cX5_brooms 3 = .ok (.ldc2_w 116, 3) := by decide +kernel
theorem dX5_brooms_6 : decode cX5_brooms 6 = .ok (.invokestatic 53, 3) := by decide +kernel
theorem dX5_brooms_9 : decode cX5_brooms 9 = .ok (.ifCond .eq 15, 3) := by decide +kernel
theorem dX5_brooms_12 : decode cX5_brooms 12 = .ok (.iload_n 2, 1) := by decide +kernel
theorem dX5_brooms_13 : decode cX5_brooms 13 = .ok (.i2l, 1) := by decide +kernel
theorem dX5_brooms_14 : decode cX5_brooms 14 = .ok (.lconst 0, 1) := by decide +kernel
theorem dX5_brooms_15 : decode cX5_brooms 15 = .ok (.ldc2_w 204, 3) := by decide +kernel
theorem dX5_brooms_18 : decode cX5_brooms 18 = .ok (.invokestatic 53, 3) := by decide +kernel
theorem dX5_brooms_21 : decode cX5_brooms 21 = .ok (.ifCond .ne 10, 3) := by decide +kernel
theorem dX5_brooms_24 : decode cX5_brooms 24 = .ok (.aload_n 0, 1) := by decide +kernel
theorem dX5_brooms_25 : decode cX5_brooms 25 = .ok (.ldc 50, 2) := by decide +kernel
theorem dX5_brooms_27 : decode cX5_brooms 27 = .ok (.invokevirtual 70, 3) := by decide +kernel
theorem dX5_brooms_30 : decode cX5_brooms 30 = .ok (.ireturn, 1) := by decide +kernel
theorem dX5_brooms_31 : decode cX5_brooms 31 = .ok (.iconst (-1), 1) := by decide +kernel
theorem dX5_brooms_32 : decode cX5_brooms 32 = .ok (.istore_n 3, 1) := by decide +kernel
theorem dX5_brooms_33 : decode cX5_brooms 33 = .ok (.iconst 0, 1) := by decide +kernel
theorem dX5_brooms_34 : decode cX5_brooms 34 = .ok (.istore 4, 2) := by decide +kernel
theorem dX5_brooms_36 : decode cX5_brooms 36 = .ok (.iload 4, 2) := by decide +kernel
theorem dX5_brooms_38 : decode cX5_brooms 38 = .ok (.iconst 1, 1) := by decide +kernel
theorem dX5_brooms_39 : decode cX5_brooms 39 = .ok (.aload_n 0, 1) := by decide +kernel
theorem dX5_brooms_40 : decode cX5_brooms 40 = .ok (.getfield 7, 3) := by decide +kernel
theorem dX5_brooms_43 : decode cX5_brooms 43 = .ok (.iconst 1, 1) := by decide +kernel
theorem dX5_brooms_44 : decode cX5_brooms 44 = .ok (.iaload, 1) := by decide +kernel
theorem dX5_brooms_45 : decode cX5_brooms 45 = .ok (.ishl, 1) := by decide +kernel
theorem dX5_brooms_46 : decode cX5_brooms 46 = .ok (.if_icmp .ge 43, 3) := by decide +kernel
theorem dX5_brooms_49 : decode cX5_brooms 49 = .ok (.iload_n 3, 1) := by decide +kernel
theorem dX5_brooms_50 : decode cX5_brooms 50 = .ok (.ifCond .lt 15, 3) := by decide +kernel
theorem dX5_brooms_53 : decode cX5_brooms 53 = .ok (.iload 4, 2) := by decide +kernel
theorem dX5_brooms_55 : decode cX5_brooms 55 = .ok (.invokestatic 206, 3) := by decide +kernel
theorem dX5_brooms_58 : decode cX5_brooms 58 = .ok (.iload_n 3, 1) := by decide +kernel
theorem dX5_brooms_59 : decode cX5_brooms 59 = .ok (.invokestatic 206, 3) := by decide +kernel
theorem dX5_brooms_62 : decode cX5_brooms 62 = .ok (.if_icmp .ge 19, 3) := by decide +kernel
theorem dX5_brooms_65 : decode cX5_brooms 65 = .ok (.aload_n 0, 1) := by decide +kernel
theorem dX5_brooms_66 : decode cX5_brooms 66 = .ok (.iload 4, 2) := by decide +kernel
theorem dX5_brooms_68 : decode cX5_brooms 68 = .ok (.iload_n 2, 1) := by decide +kernel
theorem dX5_brooms_69 : decode cX5_brooms 69 = .ok (.invokevirtual 209, 3) := by decide +kernel
theorem dX5_brooms_72 : decode cX5_brooms 72 = .ok (.iload_n 1, 1) := by decide +kernel
theorem dX5_brooms_73 : decode cX5_brooms 73 = .ok (.if_icmp .gt 8, 3) := by decide +kernel
theorem dX5_brooms_76 : decode cX5_brooms 76 = .ok (.iload 4, 2) := by decide +kernel
theorem dX5_brooms_78 : decode cX5_brooms 78 = .ok (.goto 4, 3) := by decide +kernel
theorem dX5_brooms_81 : decode cX5_brooms 81 = .ok (.iload_n 3, 1) := by decide +kernel
theorem dX5_brooms_82 : decode cX5_brooms 82 = .ok (.istore_n 3, 1) := by decide +kernel
theorem dX5_brooms_83 : decode cX5_brooms 83 = .ok (.iinc 4 1, 3) := by decide +kernel
theorem dX5_brooms_86 : decode cX5_brooms 86 = .ok (.goto (-50), 3) := by decide +kernel
theorem dX5_brooms_89 : decode cX5_brooms 89 = .ok (.iload_n 3, 1) := by decide +kernel
theorem dX5_brooms_90 : decode cX5_brooms 90 = .ok (.ifCond .ge 12, 3) := by decide +kernel
theorem dX5_brooms_93 : decode cX5_brooms 93 = .ok (.aload_n 0, 1) := by decide +kernel
theorem dX5_brooms_94 : decode cX5_brooms 94 = .ok (.ldc 186, 2) := by decide +kernel
theorem dX5_brooms_96 : decode cX5_brooms 96 = .ok (.invokevirtual 70, 3) := by decide +kernel
theorem dX5_brooms_99 : decode cX5_brooms 99 = .ok (.goto 4, 3) := by decide +kernel
theorem dX5_brooms_102 : decode cX5_brooms 102 = .ok (.iload_n 3, 1) := by decide +kernel
theorem dX5_brooms_103 : decode cX5_brooms 103 = .ok (.ireturn, 1) := by decide +kernel
theorem dX5_without_0 : decode cX5_without 0 = .ok (.iload_n 1, 1) := by decide +kernel
theorem dX5_without_1 : decode cX5_without 1 = .ok (.invokestatic 194, 3) := by decide +kernel
theorem dX5_without_4 : decode cX5_without 4 = .ok (.ifCond .ne 10, 3) := by decide +kernel
theorem dX5_without_7 : decode cX5_without 7 = .ok (.aload_n 0, 1) := by decide +kernel
theorem dX5_without_8 : decode cX5_without 8 = .ok (.ldc 50, 2) := by decide +kernel
theorem dX5_without_10 : decode cX5_without 10 = .ok (.invokevirtual 70, 3) := by decide +kernel
theorem dX5_without_13 : decode cX5_without 13 = .ok (.ireturn, 1) := by decide +kernel
theorem dX5_without_14 : decode cX5_without 14 = .ok (.iconst (-1), 1) := by decide +kernel
theorem dX5_without_15 : decode cX5_without 15 = .ok (.istore_n 2, 1) := by decide +kernel
theorem dX5_without_16 : decode cX5_without 16 = .ok (.iconst (-1), 1) := by decide +kernel
theorem dX5_without_17 : decode cX5_without 17 = .ok (.istore_n 3, 1) := by decide +kernel
theorem dX5_without_18 : decode cX5_without 18 = .ok (.iconst 0, 1) := by decide +kernel
theorem dX5_without_19 : decode cX5_without 19 = .ok (.istore 4, 2) := by decide +kernel
theorem dX5_without_21 : decode cX5_without 21 = .ok (.iload 4, 2) := by decide +kernel
theorem dX5_without_23 : decode cX5_without 23 = .ok (.aload_n 0, 1) := by decide +kernel
theorem dX5_without_24 : decode cX5_without 24 = .ok (.getfield 7, 3) := by decide +kernel
theorem dX5_without_27 : decode cX5_without 27 = .ok (.iconst 1, 1) := by decide +kernel
theorem dX5_without_28 : decode cX5_without 28 = .ok (.iaload, 1) := by decide +kernel
theorem dX5_without_29 : decode cX5_without 29 = .ok (.if_icmp .ge 52, 3) := by decide +kernel
theorem dX5_without_32 : decode cX5_without 32 = .ok (.aload_n 0, 1) := by decide +kernel
theorem dX5_without_33 : decode cX5_without 33 = .ok (.sipush 255, 3) := by decide +kernel
theorem dX5_without_36 : decode cX5_without 36 = .ok (.iconst 1, 1) := by decide +kernel
theorem dX5_without_37 : decode cX5_without 37 = .ok (.iload 4, 2) := by decide +kernel
theorem dX5_without_39 : decode cX5_without 39 = .ok (.ishl, 1) := by decide +kernel
theorem dX5_without_40 : decode cX5_without 40 = .ok (.iconst (-1), 1) := by decide +kernel
theorem dX5_without_41 : decode cX5_without 41 = .ok (.ixor, 1) := by decide +kernel
theorem dX5_without_42 : decode cX5_without 42 = .ok (.iand, 1) := by decide +kernel
theorem dX5_without_43 : decode cX5_without 43 = .ok (.iload_n 1, 1) := by decide +kernel
theorem dX5_without_44 : decode cX5_without 44 = .ok (.invokevirtual 209, 3) := by decide +kernel
theorem dX5_without_47 : decode cX5_without 47 = .ok (.istore 5, 2) := by decide +kernel
theorem dX5_without_49 : decode cX5_without 49 = .ok (.iload 5, 2) := by decide +kernel
theorem dX5_without_51 : decode cX5_without 51 = .ok (.iload_n 3, 1) := by decide +kernel
theorem dX5_without_52 : decode cX5_without 52 = .ok (.if_icmp .le 8, 3) := by decide +kernel
theorem dX5_without_55 : decode cX5_without 55 = .ok (.iload 4, 2) := by decide +kernel
theorem dX5_without_57 : decode cX5_without 57 = .ok (.goto 4, 3) := by decide +kernel
theorem dX5_without_60 : decode cX5_without 60 = .ok (.iload_n 2, 1) := by decide +kernel
theorem dX5_without_61 : decode cX5_without 61 = .ok (.istore_n 2, 1) := by decide +kernel
theorem dX5_without_62 : decode cX5_without 62 = .ok (.iload 5, 2) := by decide +kernel
theorem dX5_without_64 : decode cX5_without 64 = .ok (.iload_n 3, 1) := by decide +kernel
theorem dX5_without_65 : decode cX5_without 65 = .ok (.if_icmp .le 8, 3) := by decide +kernel
theorem dX5_without_68 : decode cX5_without 68 = .ok (.iload 5, 2) := by decide +kernel
theorem dX5_without_70 : decode cX5_without 70 = .ok (.goto 4, 3) := by decide +kernel
theorem dX5_without_73 : decode cX5_without 73 = .ok (.iload_n 3, 1) := by decide +kernel
theorem dX5_without_74 : decode cX5_without 74 = .ok (.istore_n 3, 1) := by decide +kernel
theorem dX5_without_75 : decode cX5_without 75 = .ok (.iinc 4 1, 3) := by decide +kernel
theorem dX5_without_78 : decode cX5_without 78 = .ok (.goto (-57), 3) := by decide +kernel
theorem dX5_without_81 : decode cX5_without 81 = .ok (.iload_n 2, 1) := by decide +kernel
theorem dX5_without_82 : decode cX5_without 82 = .ok (.ifCond .ge 12, 3) := by decide +kernel
theorem dX5_without_85 : decode cX5_without 85 = .ok (.aload_n 0, 1) := by decide +kernel
theorem dX5_without_86 : decode cX5_without 86 = .ok (.ldc 186, 2) := by decide +kernel
theorem dX5_without_88 : decode cX5_without 88 = .ok (.invokevirtual 70, 3) := by decide +kernel
theorem dX5_without_91 : decode cX5_without 91 = .ok (.goto 4, 3) := by decide +kernel
theorem dX5_without_94 : decode cX5_without 94 = .ok (.iload_n 2, 1) := by decide +kernel
theorem dX5_without_95 : decode cX5_without 95 = .ok (.ireturn, 1) := by decide +kernel
theorem dX5_isTold_0 : decode cX5_isTold 0 = .ok (.aload_n 0, 1) := by decide +kernel
theorem dX5_isTold_1 : decode cX5_isTold 1 = .ok (.invokevirtual 177, 3) := by decide +kernel
theorem dX5_isTold_4 : decode cX5_isTold 4 = .ok (.iconst 1, 1) := by decide +kernel
theorem dX5_isTold_5 : decode cX5_isTold 5 = .ok (.istore_n 3, 1) := by decide +kernel
theorem dX5_isTold_6 : decode cX5_isTold 6 = .ok (.iconst 0, 1) := by decide +kernel
theorem dX5_isTold_7 : decode cX5_isTold 7 = .ok (.istore 4, 2) := by decide +kernel
theorem dX5_isTold_9 : decode cX5_isTold 9 = .ok (.iload 4, 2) := by decide +kernel
theorem dX5_isTold_11 : decode cX5_isTold 11 = .ok (.aload_n 0, 1) := by decide +kernel
theorem dX5_isTold_12 : decode cX5_isTold 12 = .ok (.getfield 41, 3) := by decide +kernel
theorem dX5_isTold_15 : decode cX5_isTold 15 = .ok (.iload_n 1, 1) := by decide +kernel
theorem dX5_isTold_16 : decode cX5_isTold 16 = .ok (.iaload, 1) := by decide +kernel
theorem dX5_isTold_17 : decode cX5_isTold 17 = .ok (.if_icmp .ge 54, 3) := by decide +kernel
theorem dX5_isTold_20 : decode cX5_isTold 20 = .ok (.iload_n 3, 1) := by decide +kernel
theorem dX5_isTold_21 : decode cX5_isTold 21 = .ok (.ifCond .eq 50, 3) := by decide +kernel
theorem dX5_isTold_24 : decode cX5_isTold 24 = .ok (.aload_n 0, 1) := by decide +kernel
theorem dX5_isTold_25 : decode cX5_isTold 25 = .ok (.getfield 44, 3) := by decide +kernel
theorem dX5_isTold_28 : decode cX5_isTold 28 = .ok (.bipush 40, 2) := by decide +kernel
theorem dX5_isTold_30 : decode cX5_isTold 30 = .ok (.iload_n 1, 1) := by decide +kernel
theorem dX5_isTold_31 : decode cX5_isTold 31 = .ok (.imul, 1) := by decide +kernel
theorem dX5_isTold_32 : decode cX5_isTold 32 = .ok (.iload 4, 2) := by decide +kernel
theorem dX5_isTold_34 : decode cX5_isTold 34 = .ok (.iadd, 1) := by decide +kernel
theorem dX5_isTold_35 : decode cX5_isTold 35 = .ok (.iaload, 1) := by decide +kernel
theorem dX5_isTold_36 : decode cX5_isTold 36 = .ok (.istore 5, 2) := by decide +kernel
theorem dX5_isTold_38 : decode cX5_isTold 38 = .ok (.iload 5, 2) := by decide +kernel
theorem dX5_isTold_40 : decode cX5_isTold 40 = .ok (.iconst (-1), 1) := by decide +kernel
theorem dX5_isTold_41 : decode cX5_isTold 41 = .ok (.if_icmp .eq 14, 3) := by decide +kernel
theorem dX5_isTold_44 : decode cX5_isTold 44 = .ok (.iload 5, 2) := by decide +kernel
theorem dX5_isTold_46 : decode cX5_isTold 46 = .ok (.aload_n 0, 1) := by decide +kernel
theorem dX5_isTold_47 : decode cX5_isTold 47 = .ok (.iload_n 2, 1) := by decide +kernel
theorem dX5_isTold_48 : decode cX5_isTold 48 = .ok (.iconst 2, 1) := by decide +kernel
theorem dX5_isTold_49 : decode cX5_isTold 49 = .ok (.invokevirtual 77, 3) := by decide +kernel
theorem dX5_isTold_52 : decode cX5_isTold 52 = .ok (.if_icmp .ne 7, 3) := by decide +kernel
theorem dX5_isTold_55 : decode cX5_isTold 55 = .ok (.iconst 1, 1) := by decide +kernel
theorem dX5_isTold_56 : decode cX5_isTold 56 = .ok (.goto 4, 3) := by decide +kernel
theorem dX5_isTold_59 : decode cX5_isTold 59 = .ok (.iconst 0, 1) := by decide +kernel
theorem dX5_isTold_60 : decode cX5_isTold 60 = .ok (.istore_n 3, 1) := by decide +kernel
theorem dX5_isTold_61 : decode cX5_isTold 61 = .ok (.aload_n 0, 1) := by decide +kernel
theorem dX5_isTold_62 : decode cX5_isTold 62 = .ok (.invokevirtual 147, 3) := by decide +kernel
theorem dX5_isTold_65 : decode cX5_isTold 65 = .ok (.iinc 4 1, 3) := by decide +kernel
theorem dX5_isTold_68 : decode cX5_isTold 68 = .ok (.goto (-59), 3) := by decide +kernel
theorem dX5_isTold_71 : decode cX5_isTold 71 = .ok (.aload_n 0, 1) := by decide +kernel
theorem dX5_isTold_72 : decode cX5_isTold 72 = .ok (.iload_n 3, 1) := by decide +kernel
theorem dX5_isTold_73 : decode cX5_isTold 73 = .ok (.ifCond .eq 7, 3) := by decide +kernel
theorem dX5_isTold_76 : decode cX5_isTold 76 = .ok (.iconst 1, 1) := by decide +kernel
theorem dX5_isTold_77 : decode cX5_isTold 77 = .ok (.goto 4, 3) := by decide +kernel
theorem dX5_isTold_80 : decode cX5_isTold 80 = .ok (.iconst 0, 1) := by decide +kernel
theorem dX5_isTold_81 : decode cX5_isTold 81 = .ok (.invokevirtual 180, 3) := by decide +kernel
theorem dX5_isTold_84 : decode cX5_isTold 84 = .ok (.iconst 1, 1) := by decide +kernel
theorem dX5_isTold_85 : decode cX5_isTold 85 = .ok (.if_icmp .ne 7, 3) := by decide +kernel
theorem dX5_isTold_88 : decode cX5_isTold 88 = .ok (.iconst 1, 1) := by decide +kernel
theorem dX5_isTold_89 : decode cX5_isTold 89 = .ok (.goto 4, 3) := by decide +kernel
theorem dX5_isTold_92 : decode cX5_isTold 92 = .ok (.iconst 0, 1) := by decide +kernel
theorem dX5_isTold_93 : decode cX5_isTold 93 = .ok (.ireturn, 1) := by decide +kernel
theorem dX5_fitsBy_0 : decode cX5_fitsBy 0 = .ok (.aload_n 0, 1) := by decide +kernel
theorem dX5_fitsBy_1 : decode cX5_fitsBy 1 = .ok (.iload_n 2, 1) := by decide +kernel
theorem dX5_fitsBy_2 : decode cX5_fitsBy 2 = .ok (.iload_n 3, 1) := by decide +kernel
theorem dX5_fitsBy_3 : decode cX5_fitsBy 3 = .ok (.invokevirtual 77, 3) := by decide +kernel
theorem dX5_fitsBy_6 : decode cX5_fitsBy 6 = .ok (.istore 5, 2) := by decide +kernel
theorem dX5_fitsBy_8 : decode cX5_fitsBy 8 = .ok (.iconst 0, 1) := by decide +kernel
theorem dX5_fitsBy_9 : decode cX5_fitsBy 9 = .ok (.istore 6, 2) := by decide +kernel
theorem dX5_fitsBy_11 : decode cX5_fitsBy 11 = .ok (.iconst 0, 1) := by decide +kernel
theorem dX5_fitsBy_12 : decode cX5_fitsBy 12 = .ok (.istore 7, 2) := by decide +kernel
theorem dX5_fitsBy_14 : decode cX5_fitsBy 14 = .ok (.iload 7, 2) := by decide +kernel
theorem dX5_fitsBy_16 : decode cX5_fitsBy 16 = .ok (.iload 4, 2) := by decide +kernel
theorem dX5_fitsBy_18 : decode cX5_fitsBy 18 = .ok (.if_icmp .gt 43, 3) := by decide +kernel
theorem dX5_fitsBy_21 : decode cX5_fitsBy 21 = .ok (.aload_n 0, 1) := by decide +kernel
theorem dX5_fitsBy_22 : decode cX5_fitsBy 22 = .ok (.getfield 7, 3) := by decide +kernel
theorem dX5_fitsBy_25 : decode cX5_fitsBy 25 = .ok (.iload_n 2, 1) := by decide +kernel
theorem dX5_fitsBy_26 : decode cX5_fitsBy 26 = .ok (.iload_n 3, 1) := by decide +kernel
theorem dX5_fitsBy_27 : decode cX5_fitsBy 27 = .ok (.invokestatic 57, 3) := by decide +kernel
theorem dX5_fitsBy_30 : decode cX5_fitsBy 30 = .ok (.iload 7, 2) := by decide +kernel
theorem dX5_fitsBy_32 : decode cX5_fitsBy 32 = .ok (.iastore, 1) := by decide +kernel
theorem dX5_fitsBy_33 : decode cX5_fitsBy 33 = .ok (.iload 6, 2) := by decide +kernel
theorem dX5_fitsBy_35 : decode cX5_fitsBy 35 = .ok (.aload_n 0, 1) := by decide +kernel
theorem dX5_fitsBy_36 : decode cX5_fitsBy 36 = .ok (.iload_n 1, 1) := by decide +kernel
theorem dX5_fitsBy_37 : decode cX5_fitsBy 37 = .ok (.iload_n 2, 1) := by decide +kernel
theorem dX5_fitsBy_38 : decode cX5_fitsBy 38 = .ok (.invokevirtual 212, 3) := by decide +kernel
theorem dX5_fitsBy_41 : decode cX5_fitsBy 41 = .ok (.ifCond .eq 10, 3) := by decide +kernel
theorem dX5_fitsBy_44 : decode cX5_fitsBy 44 = .ok (.iconst 1, 1) := by decide +kernel
theorem dX5_fitsBy_45 : decode cX5_fitsBy 45 = .ok (.iload 7, 2) := by decide +kernel
theorem dX5_fitsBy_47 : decode cX5_fitsBy 47 = .ok (.ishl, 1) := by decide +kernel
theorem dX5_fitsBy_48 : decode cX5_fitsBy 48 = .ok (.goto 4, 3) := by decide +kernel
theorem dX5_fitsBy_51 : decode cX5_fitsBy 51 = .ok (.iconst 0, 1) := by decide +kernel
theorem dX5_fitsBy_52 : decode cX5_fitsBy 52 = .ok (.ior, 1) := by decide +kernel
theorem dX5_fitsBy_53 : decode cX5_fitsBy 53 = .ok (.istore 6, 2) := by decide +kernel
theorem dX5_fitsBy_55 : decode cX5_fitsBy 55 = .ok (.iinc 7 1, 3) := by decide +kernel
theorem dX5_fitsBy_58 : decode cX5_fitsBy 58 = .ok (.goto (-44), 3) := by decide +kernel
theorem dX5_fitsBy_61 : decode cX5_fitsBy 61 = .ok (.aload_n 0, 1) := by decide +kernel
theorem dX5_fitsBy_62 : decode cX5_fitsBy 62 = .ok (.getfield 7, 3) := by decide +kernel
theorem dX5_fitsBy_65 : decode cX5_fitsBy 65 = .ok (.iload_n 2, 1) := by decide +kernel
theorem dX5_fitsBy_66 : decode cX5_fitsBy 66 = .ok (.iload_n 3, 1) := by decide +kernel
theorem dX5_fitsBy_67 : decode cX5_fitsBy 67 = .ok (.invokestatic 57, 3) := by decide +kernel
theorem dX5_fitsBy_70 : decode cX5_fitsBy 70 = .ok (.iload 5, 2) := by decide +kernel
theorem dX5_fitsBy_72 : decode cX5_fitsBy 72 = .ok (.iastore, 1) := by decide +kernel
theorem dX5_fitsBy_73 : decode cX5_fitsBy 73 = .ok (.iload 6, 2) := by decide +kernel
theorem dX5_fitsBy_75 : decode cX5_fitsBy 75 = .ok (.ireturn, 1) := by decide +kernel
theorem dX5_wrongTold_0 : decode cX5_wrongTold 0 = .ok (.aload_n 0, 1) := by decide +kernel
theorem dX5_wrongTold_1 : decode cX5_wrongTold 1 = .ok (.iload_n 1, 1) := by decide +kernel
theorem dX5_wrongTold_2 : decode cX5_wrongTold 2 = .ok (.invokevirtual 216, 3) := by decide +kernel
theorem dX5_wrongTold_5 : decode cX5_wrongTold 5 = .ok (.istore_n 3, 1) := by decide +kernel
theorem dX5_wrongTold_6 : decode cX5_wrongTold 6 = .ok (.iload_n 3, 1) := by decide +kernel
theorem dX5_wrongTold_7 : decode cX5_wrongTold 7 = .ok (.ifCond .eq 7, 3) := by decide +kernel
theorem dX5_wrongTold_10 : decode cX5_wrongTold 10 = .ok (.iload_n 3, 1) := by decide +kernel
theorem dX5_wrongTold_11 : decode cX5_wrongTold 11 = .ok (.goto 17, 3) := by decide +kernel
theorem dX5_wrongTold_14 : decode cX5_wrongTold 14 = .ok (.aload_n 0, 1) := by decide +kernel
theorem dX5_wrongTold_15 : decode cX5_wrongTold 15 = .ok (.iload_n 2, 1) := by decide +kernel
theorem dX5_wrongTold_16 : decode cX5_wrongTold 16 = .ok (.invokevirtual 101, 3) := by decide +kernel
theorem dX5_wrongTold_19 : decode cX5_wrongTold 19 = .ok (.ifCond .eq 7, 3) := by decide +kernel
theorem dX5_wrongTold_22 : decode cX5_wrongTold 22 = .ok (.iconst 0, 1) := by decide +kernel
theorem dX5_wrongTold_23 : decode cX5_wrongTold 23 = .ok (.goto 5, 3) := by decide +kernel
theorem dX5_wrongTold_26 : decode cX5_wrongTold 26 = .ok (.ldc 50, 2) := by decide +kernel
theorem dX5_wrongTold_28 : decode cX5_wrongTold 28 = .ok (.ireturn, 1) := by decide +kernel
theorem dX5_fits_0 : decode cX5_fits 0 = .ok (.aload_n 0, 1) := by decide +kernel
theorem dX5_fits_1 : decode cX5_fits 1 = .ok (.iload_n 1, 1) := by decide +kernel
theorem dX5_fits_2 : decode cX5_fits 2 = .ok (.iload_n 2, 1) := by decide +kernel
theorem dX5_fits_3 : decode cX5_fits 3 = .ok (.invokevirtual 219, 3) := by decide +kernel
theorem dX5_fits_6 : decode cX5_fits 6 = .ok (.istore_n 3, 1) := by decide +kernel
theorem dX5_fits_7 : decode cX5_fits 7 = .ok (.iload_n 3, 1) := by decide +kernel
theorem dX5_fits_8 : decode cX5_fits 8 = .ok (.ifCond .eq 11, 3) := by decide +kernel
theorem dX5_fits_11 : decode cX5_fits 11 = .ok (.aload_n 0, 1) := by decide +kernel
theorem dX5_fits_12 : decode cX5_fits 12 = .ok (.iload_n 3, 1) := by decide +kernel
theorem dX5_fits_13 : decode cX5_fits 13 = .ok (.invokevirtual 70, 3) := by decide +kernel
theorem dX5_fits_16 : decode cX5_fits 16 = .ok (.goto 12, 3) := by decide +kernel
theorem dX5_fits_19 : decode cX5_fits 19 = .ok (.aload_n 0, 1) := by decide +kernel
theorem dX5_fits_20 : decode cX5_fits 20 = .ok (.iload_n 1, 1) := by decide +kernel
theorem dX5_fits_21 : decode cX5_fits 21 = .ok (.iload_n 2, 1) := by decide +kernel
theorem dX5_fits_22 : decode cX5_fits 22 = .ok (.iconst 1, 1) := by decide +kernel
theorem dX5_fits_23 : decode cX5_fits 23 = .ok (.bipush 11, 2) := by decide +kernel
theorem dX5_fits_25 : decode cX5_fits 25 = .ok (.invokevirtual 222, 3) := by decide +kernel
theorem dX5_fits_28 : decode cX5_fits 28 = .ok (.ireturn, 1) := by decide +kernel
theorem dX5_kinds_0 : decode cX5_kinds 0 = .ok (.aload_n 0, 1) := by decide +kernel
theorem dX5_kinds_1 : decode cX5_kinds 1 = .ok (.iload_n 1, 1) := by decide +kernel
theorem dX5_kinds_2 : decode cX5_kinds 2 = .ok (.iload_n 2, 1) := by decide +kernel
theorem dX5_kinds_3 : decode cX5_kinds 3 = .ok (.invokevirtual 219, 3) := by decide +kernel
theorem dX5_kinds_6 : decode cX5_kinds 6 = .ok (.istore_n 3, 1) := by decide +kernel
theorem dX5_kinds_7 : decode cX5_kinds 7 = .ok (.iload_n 3, 1) := by decide +kernel
theorem dX5_kinds_8 : decode cX5_kinds 8 = .ok (.ifCond .eq 11, 3) := by decide +kernel
theorem dX5_kinds_11 : decode cX5_kinds 11 = .ok (.aload_n 0, 1) := by decide +kernel
theorem dX5_kinds_12 : decode cX5_kinds 12 = .ok (.iload_n 3, 1) := by decide +kernel
theorem dX5_kinds_13 : decode cX5_kinds 13 = .ok (.invokevirtual 70, 3) := by decide +kernel
theorem dX5_kinds_16 : decode cX5_kinds 16 = .ok (.goto 12, 3) := by decide +kernel
theorem dX5_kinds_19 : decode cX5_kinds 19 = .ok (.aload_n 0, 1) := by decide +kernel
theorem dX5_kinds_20 : decode cX5_kinds 20 = .ok (.iload_n 1, 1) := by decide +kernel
theorem dX5_kinds_21 : decode cX5_kinds 21 = .ok (.iload_n 2, 1) := by decide +kernel
theorem dX5_kinds_22 : decode cX5_kinds 22 = .ok (.iconst 0, 1) := by decide +kernel
theorem dX5_kinds_23 : decode cX5_kinds 23 = .ok (.bipush 6, 2) := by decide +kernel
theorem dX5_kinds_25 : decode cX5_kinds 25 = .ok (.invokevirtual 222, 3) := by decide +kernel
theorem dX5_kinds_28 : decode cX5_kinds 28 = .ok (.ireturn, 1) := by decide +kernel
theorem dX5_draw_0 : decode cX5_draw 0 = .ok (.aload_n 0, 1) := by decide +kernel
theorem dX5_draw_1 : decode cX5_draw 1 = .ok (.getfield 7, 3) := by decide +kernel
theorem dX5_draw_4 : decode cX5_draw 4 = .ok (.iconst 4, 1) := by decide +kernel
theorem dX5_draw_5 : decode cX5_draw 5 = .ok (.aload_n 0, 1) := by decide +kernel
theorem dX5_draw_6 : decode cX5_draw 6 = .ok (.getfield 7, 3) := by decide +kernel
theorem dX5_draw_9 : decode cX5_draw 9 = .ok (.iconst 4, 1) := by decide +kernel
theorem dX5_draw_10 : decode cX5_draw 10 = .ok (.iaload, 1) := by decide +kernel
theorem dX5_draw_11 : decode cX5_draw 11 = .ok (.ldc 226, 2) := by decide +kernel
theorem dX5_draw_13 : decode cX5_draw 13 = .ok (.imul, 1) := by decide +kernel
theorem dX5_draw_14 : decode cX5_draw 14 = .ok (.sipush 12345, 3) := by decide +kernel
theorem dX5_draw_17 : decode cX5_draw 17 = .ok (.iadd, 1) := by decide +kernel
theorem dX5_draw_18 : decode cX5_draw 18 = .ok (.iastore, 1) := by decide +kernel
theorem dX5_draw_19 : decode cX5_draw 19 = .ok (.aload_n 0, 1) := by decide +kernel
theorem dX5_draw_20 : decode cX5_draw 20 = .ok (.getfield 7, 3) := by decide +kernel
theorem dX5_draw_23 : decode cX5_draw 23 = .ok (.iconst 4, 1) := by decide +kernel
theorem dX5_draw_24 : decode cX5_draw 24 = .ok (.iaload, 1) := by decide +kernel
theorem dX5_draw_25 : decode cX5_draw 25 = .ok (.bipush 8, 2) := by decide +kernel
theorem dX5_draw_27 : decode cX5_draw 27 = .ok (.iushr, 1) := by decide +kernel
theorem dX5_draw_28 : decode cX5_draw 28 = .ok (.ireturn, 1) := by decide +kernel
theorem dX5_sneezes_0 : decode cX5_sneezes 0 = .ok (.iload_n 1, 1) := by decide +kernel
theorem dX5_sneezes_1 : decode cX5_sneezes 1 = .ok (.i2l, 1) := by decide +kernel
theorem dX5_sneezes_2 : decode cX5_sneezes 2 = .ok (.lconst 1, 1) := by decide +kernel
theorem dX5_sneezes_3 : decode cX5_sneezes 3 = .ok (.ldc2_w 204, 3) := by decide +kernel
theorem dX5_sneezes_6 : decode cX5_sneezes 6 = .ok (.invokestatic 53, 3) := by decide +kernel
theorem dX5_sneezes_9 : decode cX5_sneezes 9 = .ok (.ifCond .ne 10, 3) := by decide +kernel
theorem dX5_sneezes_12 : decode cX5_sneezes 12 = .ok (.aload_n 0, 1) := by decide +kernel
theorem dX5_sneezes_13 : decode cX5_sneezes 13 = .ok (.ldc 50, 2) := by decide +kernel
theorem dX5_sneezes_15 : decode cX5_sneezes 15 = .ok (.invokevirtual 70, 3) := by decide +kernel
theorem dX5_sneezes_18 : decode cX5_sneezes 18 = .ok (.ireturn, 1) := by decide +kernel
theorem dX5_sneezes_19 : decode cX5_sneezes 19 = .ok (.aload_n 0, 1) := by decide +kernel
theorem dX5_sneezes_20 : decode cX5_sneezes 20 = .ok (.getfield 7, 3) := by decide +kernel
theorem dX5_sneezes_23 : decode cX5_sneezes 23 = .ok (.iconst 0, 1) := by decide +kernel
theorem dX5_sneezes_24 : decode cX5_sneezes 24 = .ok (.iaload, 1) := by decide +kernel
theorem dX5_sneezes_25 : decode cX5_sneezes 25 = .ok (.iload_n 1, 1) := by decide +kernel
theorem dX5_sneezes_26 : decode cX5_sneezes 26 = .ok (.iadd, 1) := by decide +kernel
theorem dX5_sneezes_27 : decode cX5_sneezes 27 = .ok (.ldc 132, 2) := by decide +kernel
theorem dX5_sneezes_29 : decode cX5_sneezes 29 = .ok (.if_icmp .le 10, 3) := by decide +kernel
theorem dX5_sneezes_32 : decode cX5_sneezes 32 = .ok (.aload_n 0, 1) := by decide +kernel
theorem dX5_sneezes_33 : decode cX5_sneezes 33 = .ok (.ldc 152, 2) := by decide +kernel
theorem dX5_sneezes_35 : decode cX5_sneezes 35 = .ok (.invokevirtual 70, 3) := by decide +kernel
theorem dX5_sneezes_38 : decode cX5_sneezes 38 = .ok (.ireturn, 1) := by decide +kernel
theorem dX5_sneezes_39 : decode cX5_sneezes 39 = .ok (.iconst 0, 1) := by decide +kernel
theorem dX5_sneezes_40 : decode cX5_sneezes 40 = .ok (.istore_n 2, 1) := by decide +kernel
theorem dX5_sneezes_41 : decode cX5_sneezes 41 = .ok (.iload_n 2, 1) := by decide +kernel
theorem dX5_sneezes_42 : decode cX5_sneezes 42 = .ok (.iload_n 1, 1) := by decide +kernel
theorem dX5_sneezes_43 : decode cX5_sneezes 43 = .ok (.if_icmp .ge 26, 3) := by decide +kernel
theorem dX5_sneezes_46 : decode cX5_sneezes 46 = .ok (.aload_n 0, 1) := by decide +kernel
theorem dX5_sneezes_47 : decode cX5_sneezes 47 = .ok (.aload_n 0, 1) := by decide +kernel
theorem dX5_sneezes_48 : decode cX5_sneezes 48 = .ok (.invokevirtual 227, 3) := by decide +kernel
theorem dX5_sneezes_51 : decode cX5_sneezes 51 = .ok (.bipush 12, 2) := by decide +kernel
theorem dX5_sneezes_53 : decode cX5_sneezes 53 = .ok (.irem, 1) := by decide +kernel
theorem dX5_sneezes_54 : decode cX5_sneezes 54 = .ok (.iconst 1, 1) := by decide +kernel
theorem dX5_sneezes_55 : decode cX5_sneezes 55 = .ok (.invokevirtual 129, 3) := by decide +kernel
theorem dX5_sneezes_58 : decode cX5_sneezes 58 = .ok (.istore_n 3, 1) := by decide +kernel
theorem dX5_sneezes_59 : decode cX5_sneezes 59 = .ok (.aload_n 0, 1) := by decide +kernel
theorem dX5_sneezes_60 : decode cX5_sneezes 60 = .ok (.invokevirtual 147, 3) := by decide +kernel
theorem dX5_sneezes_63 : decode cX5_sneezes 63 = .ok (.iinc 2 1, 3) := by decide +kernel
theorem dX5_sneezes_66 : decode cX5_sneezes 66 = .ok (.goto (-25), 3) := by decide +kernel
theorem dX5_sneezes_69 : decode cX5_sneezes 69 = .ok (.aload_n 0, 1) := by decide +kernel
theorem dX5_sneezes_70 : decode cX5_sneezes 70 = .ok (.invokevirtual 156, 3) := by decide +kernel
theorem dX5_sneezes_73 : decode cX5_sneezes 73 = .ok (.ireturn, 1) := by decide +kernel
theorem dX5_odds_0 : decode cX5_odds 0 = .ok (.iload_n 1, 1) := by decide +kernel
theorem dX5_odds_1 : decode cX5_odds 1 = .ok (.i2l, 1) := by decide +kernel
theorem dX5_odds_2 : decode cX5_odds 2 = .ok (.lconst 0, 1) := by decide +kernel
theorem dX5_odds_3 : decode cX5_odds 3 = .ok (.ldc2_w 230, 3) := by decide +kernel
theorem dX5_odds_6 : decode cX5_odds 6 = .ok (.invokestatic 53, 3) := by decide +kernel
theorem dX5_odds_9 : decode cX5_odds 9 = .ok (.ifCond .eq 13, 3) := by decide +kernel
theorem dX5_odds_12 : decode cX5_odds 12 = .ok (.iload_n 2, 1) := by decide +kernel
theorem dX5_odds_13 : decode cX5_odds 13 = .ok (.i2l, 1) := by decide +kernel
theorem dX5_odds_14 : decode cX5_odds 14 = .ok (.lconst 0, 1) := by decide +kernel
theorem dX5_odds_15 : decode cX5_odds 15 = .ok (.lconst 1, 1) := by decide +kernel
theorem dX5_odds_16 : decode cX5_odds 16 = .ok (.invokestatic 53, 3) := by decide +kernel
theorem dX5_odds_19 : decode cX5_odds 19 = .ok (.ifCond .ne 11, 3) := by decide +kernel
theorem dX5_odds_22 : decode cX5_odds 22 = .ok (.aload_n 0, 1) := by decide +kernel
theorem dX5_odds_23 : decode cX5_odds 23 = .ok (.ldc 50, 2) := by decide +kernel
theorem dX5_odds_25 : decode cX5_odds 25 = .ok (.invokevirtual 70, 3) := by decide +kernel
theorem dX5_odds_28 : decode cX5_odds 28 = .ok (.i2l, 1) := by decide +kernel
theorem dX5_odds_29 : decode cX5_odds 29 = .ok (.lreturn, 1) := by decide +kernel
theorem dX5_odds_30 : decode cX5_odds 30 = .ok (.bipush 12, 2) := by decide +kernel
theorem dX5_odds_32 : decode cX5_odds 32 = .ok (.aload_n 0, 1) := by decide +kernel
theorem dX5_odds_33 : decode cX5_odds 33 = .ok (.invokevirtual 163, 3) := by decide +kernel
theorem dX5_odds_36 : decode cX5_odds 36 = .ok (.invokestatic 206, 3) := by decide +kernel
theorem dX5_odds_39 : decode cX5_odds 39 = .ok (.isub, 1) := by decide +kernel
theorem dX5_odds_40 : decode cX5_odds 40 = .ok (.istore_n 3, 1) := by decide +kernel
theorem dX5_odds_41 : decode cX5_odds 41 = .ok (.bipush 12, 2) := by decide +kernel
theorem dX5_odds_43 : decode cX5_odds 43 = .ok (.istore 4, 2) := by decide +kernel
theorem dX5_odds_45 : decode cX5_odds 45 = .ok (.iload_n 3, 1) := by decide +kernel
theorem dX5_odds_46 : decode cX5_odds 46 = .ok (.iload 4, 2) := by decide +kernel
theorem dX5_odds_48 : decode cX5_odds 48 = .ok (.irem, 1) := by decide +kernel
theorem dX5_odds_49 : decode cX5_odds 49 = .ok (.ifCond .ne 11, 3) := by decide +kernel
theorem dX5_odds_52 : decode cX5_odds 52 = .ok (.bipush 12, 2) := by decide +kernel
theorem dX5_odds_54 : decode cX5_odds 54 = .ok (.iload 4, 2) := by decide +kernel
theorem dX5_odds_56 : decode cX5_odds 56 = .ok (.irem, 1) := by decide +kernel
theorem dX5_odds_57 : decode cX5_odds 57 = .ok (.ifCond .eq 9, 3) := by decide +kernel
theorem dX5_odds_60 : decode cX5_odds 60 = .ok (.iinc 4 (-1), 3) := by decide +kernel
theorem dX5_odds_63 : decode cX5_odds 63 = .ok (.goto (-18), 3) := by decide +kernel
theorem dX5_odds_66 : decode cX5_odds 66 = .ok (.lconst 1, 1) := by decide +kernel
theorem dX5_odds_67 : decode cX5_odds 67 = .ok (.lstore 5, 2) := by decide +kernel
theorem dX5_odds_69 : decode cX5_odds 69 = .ok (.iconst 0, 1) := by decide +kernel
theorem dX5_odds_70 : decode cX5_odds 70 = .ok (.istore 7, 2) := by decide +kernel
theorem dX5_odds_72 : decode cX5_odds 72 = .ok (.iload 7, 2) := by decide +kernel
theorem dX5_odds_74 : decode cX5_odds 74 = .ok (.iload_n 1, 1) := by decide +kernel
theorem dX5_odds_75 : decode cX5_odds 75 = .ok (.if_icmp .ge 32, 3) := by decide +kernel
theorem dX5_odds_78 : decode cX5_odds 78 = .ok (.lload 5, 2) := by decide +kernel
theorem dX5_odds_80 : decode cX5_odds 80 = .ok (.iload_n 2, 1) := by decide +kernel
theorem dX5_odds_81 : decode cX5_odds 81 = .ok (.ifCond .ne 11, 3) := by decide +kernel
theorem dX5_odds_84 : decode cX5_odds 84 = .ok (.iload_n 3, 1) := by decide +kernel
theorem dX5_odds_85 : decode cX5_odds 85 = .ok (.iload 4, 2) := by decide +kernel
theorem dX5_odds_87 : decode cX5_odds 87 = .ok (.idiv, 1) := by decide +kernel
theorem dX5_odds_88 : decode cX5_odds 88 = .ok (.i2l, 1) := by decide +kernel
theorem dX5_odds_89 : decode cX5_odds 89 = .ok (.goto 9, 3) := by decide +kernel
theorem dX5_odds_92 : decode cX5_odds 92 = .ok (.bipush 12, 2) := by decide +kernel
theorem dX5_odds_94 : decode cX5_odds 94 = .ok (.iload 4, 2) := by decide +kernel
theorem dX5_odds_96 : decode cX5_odds 96 = .ok (.idiv, 1) := by decide +kernel
theorem dX5_odds_97 : decode cX5_odds 97 = .ok (.i2l, 1) := by decide +kernel
theorem dX5_odds_98 : decode cX5_odds 98 = .ok (.lmul, 1) := by decide +kernel
theorem dX5_odds_99 : decode cX5_odds 99 = .ok (.lstore 5, 2) := by decide +kernel
theorem dX5_odds_101 : decode cX5_odds 101 = .ok (.iinc 7 1, 3) := by decide +kernel
theorem dX5_odds_104 : decode cX5_odds 104 = .ok (.goto (-32), 3) := by decide +kernel
theorem dX5_odds_107 : decode cX5_odds 107 = .ok (.lload 5, 2) := by decide +kernel
theorem dX5_odds_109 : decode cX5_odds 109 = .ok (.lreturn, 1) := by decide +kernel
theorem dX5_seed_0 : decode cX5_seed 0 = .ok (.aload_n 0, 1) := by decide +kernel
theorem dX5_seed_1 : decode cX5_seed 1 = .ok (.iconst 4, 1) := by decide +kernel
theorem dX5_seed_2 : decode cX5_seed 2 = .ok (.iload_n 1, 1) := by decide +kernel
theorem dX5_seed_3 : decode cX5_seed 3 = .ok (.invokevirtual 67, 3) := by decide +kernel
theorem dX5_seed_6 : decode cX5_seed 6 = .ok (.ireturn, 1) := by decide +kernel
theorem dX5_feed_0 : decode cX5_feed 0 = .ok (.iload_n 2, 1) := by decide +kernel
theorem dX5_feed_1 : decode cX5_feed 1 = .ok (.i2l, 1) := by decide +kernel
theorem dX5_feed_2 : decode cX5_feed 2 = .ok (.lconst 1, 1) := by decide +kernel
theorem dX5_feed_3 : decode cX5_feed 3 = .ok (.ldc2_w 232, 3) := by decide +kernel
theorem dX5_feed_6 : decode cX5_feed 6 = .ok (.invokestatic 53, 3) := by decide +kernel
theorem dX5_feed_9 : decode cX5_feed 9 = .ok (.ifCond .ne 10, 3) := by decide +kernel
theorem dX5_feed_12 : decode cX5_feed 12 = .ok (.aload_n 0, 1) := by decide +kernel
theorem dX5_feed_13 : decode cX5_feed 13 = .ok (.ldc 50, 2) := by decide +kernel
theorem dX5_feed_15 : decode cX5_feed 15 = .ok (.invokevirtual 70, 3) := by decide +kernel
theorem dX5_feed_18 : decode cX5_feed 18 = .ok (.ireturn, 1) := by decide +kernel
theorem dX5_feed_19 : decode cX5_feed 19 = .ok (.aload_n 0, 1) := by decide +kernel
theorem dX5_feed_20 : decode cX5_feed 20 = .ok (.getfield 234, 3) := by decide +kernel
theorem dX5_feed_23 : decode cX5_feed 23 = .ok (.iload_n 2, 1) := by decide +kernel
theorem dX5_feed_24 : decode cX5_feed 24 = .ok (.iadd, 1) := by decide +kernel
theorem dX5_feed_25 : decode cX5_feed 25 = .ok (.bipush 120, 2) := by decide +kernel
theorem dX5_feed_27 : decode cX5_feed 27 = .ok (.if_icmp .le 10, 3) := by decide +kernel
theorem dX5_feed_30 : decode cX5_feed 30 = .ok (.aload_n 0, 1) := by decide +kernel
theorem dX5_feed_31 : decode cX5_feed 31 = .ok (.ldc 97, 2) := by decide +kernel
theorem dX5_feed_33 : decode cX5_feed 33 = .ok (.invokevirtual 70, 3) := by decide +kernel
theorem dX5_feed_36 : decode cX5_feed 36 = .ok (.ireturn, 1) := by decide +kernel
theorem dX5_feed_37 : decode cX5_feed 37 = .ok (.iload_n 2, 1) := by decide +kernel
theorem dX5_feed_38 : decode cX5_feed 38 = .ok (.iconst 1, 1) := by decide +kernel
theorem dX5_feed_39 : decode cX5_feed 39 = .ok (.isub, 1) := by decide +kernel
theorem dX5_feed_40 : decode cX5_feed 40 = .ok (.istore_n 3, 1) := by decide +kernel
theorem dX5_feed_41 : decode cX5_feed 41 = .ok (.iload_n 3, 1) := by decide +kernel
theorem dX5_feed_42 : decode cX5_feed 42 = .ok (.ifCond .lt 38, 3) := by decide +kernel
theorem dX5_feed_45 : decode cX5_feed 45 = .ok (.aload_n 0, 1) := by decide +kernel
theorem dX5_feed_46 : decode cX5_feed 46 = .ok (.getfield 35, 3) := by decide +kernel
theorem dX5_feed_49 : decode cX5_feed 49 = .ok (.aload_n 0, 1) := by decide +kernel
theorem dX5_feed_50 : decode cX5_feed 50 = .ok (.getfield 234, 3) := by decide +kernel
theorem dX5_feed_53 : decode cX5_feed 53 = .ok (.iload_n 1, 1) := by decide +kernel
theorem dX5_feed_54 : decode cX5_feed 54 = .ok (.bipush 8, 2) := by decide +kernel
theorem dX5_feed_56 : decode cX5_feed 56 = .ok (.iload_n 3, 1) := by decide +kernel
theorem dX5_feed_57 : decode cX5_feed 57 = .ok (.imul, 1) := by decide +kernel
theorem dX5_feed_58 : decode cX5_feed 58 = .ok (.ishr, 1) := by decide +kernel
theorem dX5_feed_59 : decode cX5_feed 59 = .ok (.sipush 255, 3) := by decide +kernel
theorem dX5_feed_62 : decode cX5_feed 62 = .ok (.iand, 1) := by decide +kernel
theorem dX5_feed_63 : decode cX5_feed 63 = .ok (.iastore, 1) := by decide +kernel
theorem dX5_feed_64 : decode cX5_feed 64 = .ok (.aload_n 0, 1) := by decide +kernel
theorem dX5_feed_65 : decode cX5_feed 65 = .ok (.dup, 1) := by decide +kernel
theorem dX5_feed_66 : decode cX5_feed 66 = .ok (.getfield 234, 3) := by decide +kernel
theorem dX5_feed_69 : decode cX5_feed 69 = .ok (.iconst 1, 1) := by decide +kernel
theorem dX5_feed_70 : decode cX5_feed 70 = .ok (.iadd, 1) := by decide +kernel
theorem dX5_feed_71 : decode cX5_feed 71 = .ok (.putfield 234, 3) := by decide +kernel
theorem dX5_feed_74 : decode cX5_feed 74 = .ok (.iinc 3 (-1), 3) := by decide +kernel
theorem dX5_feed_77 : decode cX5_feed 77 = .ok (.goto (-36), 3) := by decide +kernel
theorem dX5_feed_80 : decode cX5_feed 80 = .ok (.aload_n 0, 1) := by decide +kernel
theorem dX5_feed_81 : decode cX5_feed 81 = .ok (.getfield 234, 3) := by decide +kernel
theorem dX5_feed_84 : decode cX5_feed 84 = .ok (.ireturn, 1) := by decide +kernel
theorem dX5_wipe_0 : decode cX5_wipe 0 = .ok (.aload_n 0, 1) := by decide +kernel
theorem dX5_wipe_1 : decode cX5_wipe 1 = .ok (.getfield 234, 3) := by decide +kernel
theorem dX5_wipe_4 : decode cX5_wipe 4 = .ok (.istore_n 1, 1) := by decide +kernel
theorem dX5_wipe_5 : decode cX5_wipe 5 = .ok (.aload_n 0, 1) := by decide +kernel
theorem dX5_wipe_6 : decode cX5_wipe 6 = .ok (.iconst 0, 1) := by decide +kernel
theorem dX5_wipe_7 : decode cX5_wipe 7 = .ok (.putfield 234, 3) := by decide +kernel
theorem dX5_wipe_10 : decode cX5_wipe 10 = .ok (.iload_n 1, 1) := by decide +kernel
theorem dX5_wipe_11 : decode cX5_wipe 11 = .ok (.ireturn, 1) := by decide +kernel
theorem dX5_byteAt_0 : decode cX5_byteAt 0 = .ok (.iload_n 1, 1) := by decide +kernel
theorem dX5_byteAt_1 : decode cX5_byteAt 1 = .ok (.aload_n 0, 1) := by decide +kernel
theorem dX5_byteAt_2 : decode cX5_byteAt 2 = .ok (.getfield 234, 3) := by decide +kernel
theorem dX5_byteAt_5 : decode cX5_byteAt 5 = .ok (.if_icmp .ge 12, 3) := by decide +kernel
theorem dX5_byteAt_8 : decode cX5_byteAt 8 = .ok (.aload_n 0, 1) := by decide +kernel
theorem dX5_byteAt_9 : decode cX5_byteAt 9 = .ok (.getfield 35, 3) := by decide +kernel
theorem dX5_byteAt_12 : decode cX5_byteAt 12 = .ok (.iload_n 1, 1) := by decide +kernel
theorem dX5_byteAt_13 : decode cX5_byteAt 13 = .ok (.iaload, 1) := by decide +kernel
theorem dX5_byteAt_14 : decode cX5_byteAt 14 = .ok (.goto 4, 3) := by decide +kernel
theorem dX5_byteAt_17 : decode cX5_byteAt 17 = .ok (.iconst (-1), 1) := by decide +kernel
theorem dX5_byteAt_18 : decode cX5_byteAt 18 = .ok (.ireturn, 1) := by decide +kernel
theorem dX5_isLetter_0 : decode cX5_isLetter 0 = .ok (.iload_n 0, 1) := by decide +kernel
theorem dX5_isLetter_1 : decode cX5_isLetter 1 = .ok (.i2l, 1) := by decide +kernel
theorem dX5_isLetter_2 : decode cX5_isLetter 2 = .ok (.ldc2_w 237, 3) := by decide +kernel
theorem dX5_isLetter_5 : decode cX5_isLetter 5 = .ok (.ldc2_w 239, 3) := by decide +kernel
theorem dX5_isLetter_8 : decode cX5_isLetter 8 = .ok (.invokestatic 53, 3) := by decide +kernel
theorem dX5_isLetter_11 : decode cX5_isLetter 11 = .ok (.ireturn, 1) := by decide +kernel
theorem dX5_isDigit_0 : decode cX5_isDigit 0 = .ok (.iload_n 0, 1) := by decide +kernel
theorem dX5_isDigit_1 : decode cX5_isDigit 1 = .ok (.i2l, 1) := by decide +kernel
theorem dX5_isDigit_2 : decode cX5_isDigit 2 = .ok (.ldc2_w 241, 3) := by decide +kernel
theorem dX5_isDigit_5 : decode cX5_isDigit 5 = .ok (.ldc2_w 243, 3) := by decide +kernel
theorem dX5_isDigit_8 : decode cX5_isDigit 8 = .ok (.invokestatic 53, 3) := by decide +kernel
theorem dX5_isDigit_11 : decode cX5_isDigit 11 = .ok (.ireturn, 1) := by decide +kernel
theorem dX5_token_0 : decode cX5_token 0 = .ok (.aload_n 0, 1) := by decide +kernel
theorem dX5_token_1 : decode cX5_token 1 = .ok (.aload_n 0, 1) := by decide +kernel
theorem dX5_token_2 : decode cX5_token 2 = .ok (.getfield 245, 3) := by decide +kernel
theorem dX5_token_5 : decode cX5_token 5 = .ok (.putfield 248, 3) := by decide +kernel
theorem dX5_token_8 : decode cX5_token 8 = .ok (.aload_n 0, 1) := by decide +kernel
theorem dX5_token_9 : decode cX5_token 9 = .ok (.aload_n 0, 1) := by decide +kernel
theorem dX5_token_10 : decode cX5_token 10 = .ok (.getfield 248, 3) := by decide +kernel
theorem dX5_token_13 : decode cX5_token 13 = .ok (.invokevirtual 251, 3) := by decide +kernel
theorem dX5_token_16 : decode cX5_token 16 = .ok (.bipush 32, 2) := by decide +kernel
theorem dX5_token_18 : decode cX5_token 18 = .ok (.if_icmp .ne 16, 3) := by decide +kernel
theorem dX5_token_21 : decode cX5_token 21 = .ok (.aload_n 0, 1) := by decide +kernel
theorem dX5_token_22 : decode cX5_token 22 = .ok (.dup, 1) := by decide +kernel
theorem dX5_token_23 : decode cX5_token 23 = .ok (.getfield 248, 3) := by decide +kernel
theorem dX5_token_26 : decode cX5_token 26 = .ok (.iconst 1, 1) := by decide +kernel
theorem dX5_token_27 : decode cX5_token 27 = .ok (.iadd, 1) := by decide +kernel
theorem dX5_token_28 : decode cX5_token 28 = .ok (.putfield 248, 3) := by decide +kernel
theorem dX5_token_31 : decode cX5_token 31 = .ok (.goto (-23), 3) := by decide +kernel
theorem dX5_token_34 : decode cX5_token 34 = .ok (.aload_n 0, 1) := by decide +kernel
theorem dX5_token_35 : decode cX5_token 35 = .ok (.aload_n 0, 1) := by decide +kernel
theorem dX5_token_36 : decode cX5_token 36 = .ok (.getfield 248, 3) := by decide +kernel
theorem dX5_token_39 : decode cX5_token 39 = .ok (.invokevirtual 251, 3) := by decide +kernel
theorem dX5_token_42 : decode cX5_token 42 = .ok (.invokestatic 254, 3) := by decide +kernel
theorem dX5_token_45 : decode cX5_token 45 = .ok (.istore_n 1, 1) := by decide +kernel
theorem dX5_token_46 : decode cX5_token 46 = .ok (.aload_n 0, 1) := by decide +kernel
theorem dX5_token_47 : decode cX5_token 47 = .ok (.aload_n 0, 1) := by decide +kernel
theorem dX5_token_48 : decode cX5_token 48 = .ok (.getfield 248, 3) := by decide +kernel
theorem dX5_token_51 : decode cX5_token 51 = .ok (.invokevirtual 251, 3) := by decide +kernel
theorem dX5_token_54 : decode cX5_token 54 = .ok (.invokestatic 257, 3) := by decide +kernel
theorem dX5_token_57 : decode cX5_token 57 = .ok (.istore_n 2, 1) := by decide +kernel
theorem dX5_token_58 : decode cX5_token 58 = .ok (.aload_n 0, 1) := by decide +kernel
theorem dX5_token_59 : decode cX5_token 59 = .ok (.aload_n 0, 1) := by decide +kernel
theorem dX5_token_60 : decode cX5_token 60 = .ok (.getfield 248, 3) := by decide +kernel
theorem dX5_token_63 : decode cX5_token 63 = .ok (.aload_n 0, 1) := by decide +kernel
theorem dX5_token_64 : decode cX5_token 64 = .ok (.getfield 234, 3) := by decide +kernel
theorem dX5_token_67 : decode cX5_token 67 = .ok (.if_icmp .ge 12, 3) := by decide +kernel
theorem dX5_token_70 : decode cX5_token 70 = .ok (.aload_n 0, 1) := by decide +kernel
theorem dX5_token_71 : decode cX5_token 71 = .ok (.getfield 248, 3) := by decide +kernel
theorem dX5_token_74 : decode cX5_token 74 = .ok (.iconst 1, 1) := by decide +kernel
theorem dX5_token_75 : decode cX5_token 75 = .ok (.iadd, 1) := by decide +kernel
theorem dX5_token_76 : decode cX5_token 76 = .ok (.goto 7, 3) := by decide +kernel
theorem dX5_token_79 : decode cX5_token 79 = .ok (.aload_n 0, 1) := by decide +kernel
theorem dX5_token_80 : decode cX5_token 80 = .ok (.getfield 248, 3) := by decide +kernel
theorem dX5_token_83 : decode cX5_token 83 = .ok (.putfield 245, 3) := by decide +kernel
theorem dX5_token_86 : decode cX5_token 86 = .ok (.iload_n 1, 1) := by decide +kernel
theorem dX5_token_87 : decode cX5_token 87 = .ok (.ifCond .eq 17, 3) := by decide +kernel
theorem dX5_token_90 : decode cX5_token 90 = .ok (.aload_n 0, 1) := by decide +kernel
theorem dX5_token_91 : decode cX5_token 91 = .ok (.aload_n 0, 1) := by decide +kernel
theorem dX5_token_92 : decode cX5_token 92 = .ok (.getfield 245, 3) := by decide +kernel
theorem dX5_token_95 : decode cX5_token 95 = .ok (.invokevirtual 251, 3) := by decide +kernel
theorem dX5_token_98 : decode cX5_token 98 = .ok (.invokestatic 254, 3) := by decide +kernel
theorem dX5_token_101 : decode cX5_token 101 = .ok (.ifCond .ne 21, 3) := by decide +kernel
theorem dX5_token_104 : decode cX5_token 104 = .ok (.iload_n 2, 1) := by decide +kernel
theorem dX5_token_105 : decode cX5_token 105 = .ok (.ifCond .eq 30, 3) := by decide +kernel
theorem dX5_token_108 : decode cX5_token 108 = .ok (.aload_n 0, 1) := by decide +kernel
theorem dX5_token_109 : decode cX5_token 109 = .ok (.aload_n 0, 1) := by decide +kernel
theorem dX5_token_110 : decode cX5_token 110 = .ok (.getfield 245, 3) := by decide +kernel
theorem dX5_token_113 : decode cX5_token 113 = .ok (.invokevirtual 251, 3) := by decide +kernel
theorem dX5_token_116 : decode cX5_token 116 = .ok (.invokestatic 257, 3) := by decide +kernel
theorem dX5_token_119 : decode cX5_token 119 = .ok (.ifCond .eq 16, 3) := by decide +kernel
theorem dX5_token_122 : decode cX5_token 122 = .ok (.aload_n 0, 1) := by decide +kernel
theorem dX5_token_123 : decode cX5_token 123 = .ok (.dup, 1) := by decide +kernel
theorem dX5_token_124 : decode cX5_token 124 = .ok (.getfield 245, 3) := by decide +kernel
theorem dX5_token_127 : decode cX5_token 127 = .ok (.iconst 1, 1) := by decide +kernel
theorem dX5_token_128 : decode cX5_token 128 = .ok (.iadd, 1) := by decide +kernel
theorem dX5_token_129 : decode cX5_token 129 = .ok (.putfield 245, 3) := by decide +kernel
theorem dX5_token_132 : decode cX5_token 132 = .ok (.goto (-46), 3) := by decide +kernel
theorem dX5_token_135 : decode cX5_token 135 = .ok (.return_, 1) := by decide +kernel
theorem dX5_must_0 : decode cX5_must 0 = .ok (.aload_n 0, 1) := by decide +kernel
theorem dX5_must_1 : decode cX5_must 1 = .ok (.aload_n 0, 1) := by decide +kernel
theorem dX5_must_2 : decode cX5_must 2 = .ok (.getfield 260, 3) := by decide +kernel
theorem dX5_must_5 : decode cX5_must 5 = .ok (.ifCond .ne 7, 3) := by decide +kernel
theorem dX5_must_8 : decode cX5_must 8 = .ok (.iload_n 1, 1) := by decide +kernel
theorem dX5_must_9 : decode cX5_must 9 = .ok (.ifCond .ne 7, 3) := by decide +kernel
theorem dX5_must_12 : decode cX5_must 12 = .ok (.iconst 1, 1) := by decide +kernel
theorem dX5_must_13 : decode cX5_must 13 = .ok (.goto 4, 3) := by decide +kernel
theorem dX5_must_16 : decode cX5_must 16 = .ok (.iconst 0, 1) := by decide +kernel
theorem dX5_must_17 : decode cX5_must 17 = .ok (.putfield 260, 3) := by decide +kernel
theorem dX5_must_20 : decode cX5_must 20 = .ok (.aload_n 0, 1) := by decide +kernel
theorem dX5_must_21 : decode cX5_must 21 = .ok (.getfield 260, 3) := by decide +kernel
theorem dX5_must_24 : decode cX5_must 24 = .ok (.ifCond .ne 7, 3) := by decide +kernel
theorem dX5_must_27 : decode cX5_must 27 = .ok (.aload_n 0, 1) := by decide +kernel
theorem dX5_must_28 : decode cX5_must 28 = .ok (.invokevirtual 264, 3) := by decide +kernel
theorem dX5_must_31 : decode cX5_must 31 = .ok (.return_, 1) := by decide +kernel
theorem dX5_word_0 : decode cX5_word 0 = .ok (.lconst 0, 1) := by decide +kernel
theorem dX5_word_1 : decode cX5_word 1 = .ok (.lstore_n 1, 1) := by decide +kernel
theorem dX5_word_2 : decode cX5_word 2 = .ok (.aload_n 0, 1) := by decide +kernel
theorem dX5_word_3 : decode cX5_word 3 = .ok (.getfield 248, 3) := by decide +kernel
theorem dX5_word_6 : decode cX5_word 6 = .ok (.istore_n 3, 1) := by decide +kernel
theorem dX5_word_7 : decode cX5_word 7 = .ok (.iload_n 3, 1) := by decide +kernel
theorem dX5_word_8 : decode cX5_word 8 = .ok (.aload_n 0, 1) := by decide +kernel
theorem dX5_word_9 : decode cX5_word 9 = .ok (.getfield 245, 3) := by decide +kernel
theorem dX5_word_12 : decode cX5_word 12 = .ok (.if_icmp .ge 38, 3) := by decide +kernel
theorem dX5_word_15 : decode cX5_word 15 = .ok (.lload_n 1, 1) := by decide +kernel
theorem dX5_word_16 : decode cX5_word 16 = .ok (.ldc2_w 267, 3) := by decide +kernel
theorem dX5_word_19 : decode cX5_word 19 = .ok (.lcmp, 1) := by decide +kernel
theorem dX5_word_20 : decode cX5_word 20 = .ok (.ifCond .le 7, 3) := by decide +kernel
theorem dX5_word_23 : decode cX5_word 23 = .ok (.lload_n 1, 1) := by decide +kernel
theorem dX5_word_24 : decode cX5_word 24 = .ok (.goto 19, 3) := by decide +kernel
theorem dX5_word_27 : decode cX5_word 27 = .ok (.ldc2_w 269, 3) := by decide +kernel
theorem dX5_word_30 : decode cX5_word 30 = .ok (.lload_n 1, 1) := by decide +kernel
theorem dX5_word_31 : decode cX5_word 31 = .ok (.lmul, 1) := by decide +kernel
theorem dX5_word_32 : decode cX5_word 32 = .ok (.aload_n 0, 1) := by decide +kernel
theorem dX5_word_33 : decode cX5_word 33 = .ok (.getfield 35, 3) := by decide +kernel
theorem dX5_word_36 : decode cX5_word 36 = .ok (.iload_n 3, 1) := by decide +kernel
theorem dX5_word_37 : decode cX5_word 37 = .ok (.iaload, 1) := by decide +kernel
theorem dX5_word_38 : decode cX5_word 38 = .ok (.bipush 96, 2) := by decide +kernel
theorem dX5_word_40 : decode cX5_word 40 = .ok (.isub, 1) := by decide +kernel
theorem dX5_word_41 : decode cX5_word 41 = .ok (.i2l, 1) := by decide +kernel
theorem dX5_word_42 : decode cX5_word 42 = .ok (.ladd, 1) := by decide +kernel
theorem dX5_word_43 : decode cX5_word 43 = .ok (.lstore_n 1, 1) := by decide +kernel
theorem dX5_word_44 : decode cX5_word 44 = .ok (.iinc 3 1, 3) := by decide +kernel
theorem dX5_word_47 : decode cX5_word 47 = .ok (.goto (-40), 3) := by decide +kernel
theorem dX5_word_50 : decode cX5_word 50 = .ok (.aload_n 0, 1) := by decide +kernel
theorem dX5_word_51 : decode cX5_word 51 = .ok (.getfield 260, 3) := by decide +kernel
theorem dX5_word_54 : decode cX5_word 54 = .ok (.ifCond .ne 17, 3) := by decide +kernel
theorem dX5_word_57 : decode cX5_word 57 = .ok (.aload_n 0, 1) := by decide +kernel
theorem dX5_word_58 : decode cX5_word 58 = .ok (.aload_n 0, 1) := by decide +kernel
theorem dX5_word_59 : decode cX5_word 59 = .ok (.getfield 248, 3) := by decide +kernel
theorem dX5_word_62 : decode cX5_word 62 = .ok (.invokevirtual 251, 3) := by decide +kernel
theorem dX5_word_65 : decode cX5_word 65 = .ok (.invokestatic 254, 3) := by decide +kernel
theorem dX5_word_68 : decode cX5_word 68 = .ok (.ifCond .ne 7, 3) := by decide +kernel
theorem dX5_word_71 : decode cX5_word 71 = .ok (.lconst 0, 1) := by decide +kernel
theorem dX5_word_72 : decode cX5_word 72 = .ok (.goto 4, 3) := by decide +kernel
theorem dX5_word_75 : decode cX5_word 75 = .ok (.lload_n 1, 1) := by decide +kernel
theorem dX5_word_76 : decode cX5_word 76 = .ok (.lreturn, 1) := by decide +kernel
theorem dX5_number_0 : decode cX5_number 0 = .ok (.aload_n 0, 1) := by decide +kernel
theorem dX5_number_1 : decode cX5_number 1 = .ok (.getfield 260, 3) := by decide +kernel
theorem dX5_number_4 : decode cX5_number 4 = .ok (.ifCond .eq 4, 3) := by decide +kernel
theorem dX5_number_7 : decode cX5_number 7 = .ok (.return_, 1) := by decide +kernel
theorem dX5_number_8 : decode cX5_number 8 = .ok (.aload_n 0, 1) := by decide +kernel
theorem dX5_number_9 : decode cX5_number 9 = .ok (.aload_n 0, 1) := by decide +kernel
theorem dX5_number_10 : decode cX5_number 10 = .ok (.getfield 248, 3) := by decide +kernel
theorem dX5_number_13 : decode cX5_number 13 = .ok (.invokevirtual 251, 3) := by decide +kernel
theorem dX5_number_16 : decode cX5_number 16 = .ok (.invokestatic 257, 3) := by decide +kernel
theorem dX5_number_19 : decode cX5_number 19 = .ok (.istore_n 3, 1) := by decide +kernel
theorem dX5_number_20 : decode cX5_number 20 = .ok (.iconst 0, 1) := by decide +kernel
theorem dX5_number_21 : decode cX5_number 21 = .ok (.istore 4, 2) := by decide +kernel
theorem dX5_number_23 : decode cX5_number 23 = .ok (.aload_n 0, 1) := by decide +kernel
theorem dX5_number_24 : decode cX5_number 24 = .ok (.getfield 248, 3) := by decide +kernel
theorem dX5_number_27 : decode cX5_number 27 = .ok (.istore 5, 2) := by decide +kernel
theorem dX5_number_29 : decode cX5_number 29 = .ok (.iload 5, 2) := by decide +kernel
theorem dX5_number_31 : decode cX5_number 31 = .ok (.aload_n 0, 1) := by decide +kernel
theorem dX5_number_32 : decode cX5_number 32 = .ok (.getfield 245, 3) := by decide +kernel
theorem dX5_number_35 : decode cX5_number 35 = .ok (.if_icmp .ge 44, 3) := by decide +kernel
theorem dX5_number_38 : decode cX5_number 38 = .ok (.iload_n 3, 1) := by decide +kernel
theorem dX5_number_39 : decode cX5_number 39 = .ok (.ifCond .eq 40, 3) := by decide +kernel
theorem dX5_number_42 : decode cX5_number 42 = .ok (.iload 4, 2) := by decide +kernel
theorem dX5_number_44 : decode cX5_number 44 = .ok (.sipush 9999, 3) := by decide +kernel
theorem dX5_number_47 : decode cX5_number 47 = .ok (.if_icmp .le 8, 3) := by decide +kernel
theorem dX5_number_50 : decode cX5_number 50 = .ok (.iload 4, 2) := by decide +kernel
theorem dX5_number_52 : decode cX5_number 52 = .ok (.goto 19, 3) := by decide +kernel
theorem dX5_number_55 : decode cX5_number 55 = .ok (.bipush 10, 2) := by decide +kernel
theorem dX5_number_57 : decode cX5_number 57 = .ok (.iload 4, 2) := by decide +kernel
theorem dX5_number_59 : decode cX5_number 59 = .ok (.imul, 1) := by decide +kernel
theorem dX5_number_60 : decode cX5_number 60 = .ok (.aload_n 0, 1) := by decide +kernel
theorem dX5_number_61 : decode cX5_number 61 = .ok (.getfield 35, 3) := by decide +kernel
theorem dX5_number_64 : decode cX5_number 64 = .ok (.iload 5, 2) := by decide +kernel
theorem dX5_number_66 : decode cX5_number 66 = .ok (.iaload, 1) := by decide +kernel
theorem dX5_number_67 : decode cX5_number 67 = .ok (.iadd, 1) := by decide +kernel
theorem dX5_number_68 : decode cX5_number 68 = .ok (.bipush 48, 2) := by decide +kernel
theorem dX5_number_70 : decode cX5_number 70 = .ok (.isub, 1) := by decide +kernel
theorem dX5_number_71 : decode cX5_number 71 = .ok (.istore 4, 2) := by decide +kernel
theorem dX5_number_73 : decode cX5_number 73 = .ok (.iinc 5 1, 3) := by decide +kernel
theorem dX5_number_76 : decode cX5_number 76 = .ok (.goto (-47), 3) := by decide +kernel
theorem dX5_number_79 : decode cX5_number 79 = .ok (.aload_n 0, 1) := by decide +kernel
theorem dX5_number_80 : decode cX5_number 80 = .ok (.iload 4, 2) := by decide +kernel
theorem dX5_number_82 : decode cX5_number 82 = .ok (.putfield 271, 3) := by decide +kernel
theorem dX5_number_85 : decode cX5_number 85 = .ok (.aload_n 0, 1) := by decide +kernel
theorem dX5_number_86 : decode cX5_number 86 = .ok (.iload_n 3, 1) := by decide +kernel
theorem dX5_number_87 : decode cX5_number 87 = .ok (.ifCond .eq 20, 3) := by decide +kernel
theorem dX5_number_90 : decode cX5_number 90 = .ok (.iload 4, 2) := by decide +kernel
theorem dX5_number_92 : decode cX5_number 92 = .ok (.i2l, 1) := by decide +kernel
theorem dX5_number_93 : decode cX5_number 93 = .ok (.iload_n 1, 1) := by decide +kernel
theorem dX5_number_94 : decode cX5_number 94 = .ok (.i2l, 1) := by decide +kernel
theorem dX5_number_95 : decode cX5_number 95 = .ok (.iload_n 2, 1) := by decide +kernel
theorem dX5_number_96 : decode cX5_number 96 = .ok (.i2l, 1) := by decide +kernel
theorem dX5_number_97 : decode cX5_number 97 = .ok (.invokestatic 53, 3) := by decide +kernel
theorem dX5_number_100 : decode cX5_number 100 = .ok (.ifCond .eq 7, 3) := by decide +kernel
theorem dX5_number_103 : decode cX5_number 103 = .ok (.iconst 1, 1) := by decide +kernel
theorem dX5_number_104 : decode cX5_number 104 = .ok (.goto 4, 3) := by decide +kernel
theorem dX5_number_107 : decode cX5_number 107 = .ok (.iconst 0, 1) := by decide +kernel
theorem dX5_number_108 : decode cX5_number 108 = .ok (.invokevirtual 274, 3) := by decide +kernel
theorem dX5_number_111 : decode cX5_number 111 = .ok (.return_, 1) := by decide +kernel
theorem dX5_kindHere_0 : decode cX5_kindHere 0 = .ok (.aload_n 0, 1) := by decide +kernel
theorem dX5_kindHere_1 : decode cX5_kindHere 1 = .ok (.invokevirtual 278, 3) := by decide +kernel
theorem dX5_kindHere_4 : decode cX5_kindHere 4 = .ok (.lstore_n 1, 1) := by decide +kernel
theorem dX5_kindHere_5 : decode cX5_kindHere 5 = .ok (.lload_n 1, 1) := by decide +kernel
theorem dX5_kindHere_6 : decode cX5_kindHere 6 = .ok (.ldc2_w 282, 3) := by decide +kernel
theorem dX5_kindHere_9 : decode cX5_kindHere 9 = .ok (.lcmp, 1) := by decide +kernel
theorem dX5_kindHere_10 : decode cX5_kindHere 10 = .ok (.ifCond .ne 7, 3) := by decide +kernel
theorem dX5_kindHere_13 : decode cX5_kindHere 13 = .ok (.iconst 0, 1) := by decide +kernel
theorem dX5_kindHere_14 : decode cX5_kindHere 14 = .ok (.goto 77, 3) := by decide +kernel
theorem dX5_kindHere_17 : decode cX5_kindHere 17 = .ok (.lload_n 1, 1) := by decide +kernel
theorem dX5_kindHere_18 : decode cX5_kindHere 18 = .ok (.ldc2_w 284, 3) := by decide +kernel
theorem dX5_kindHere_21 : decode cX5_kindHere 21 = .ok (.lcmp, 1) := by decide +kernel
theorem dX5_kindHere_22 : decode cX5_kindHere 22 = .ok (.ifCond .ne 7, 3) := by decide +kernel
theorem dX5_kindHere_25 : decode cX5_kindHere 25 = .ok (.iconst 1, 1) := by decide +kernel
theorem dX5_kindHere_26 : decode cX5_kindHere 26 = .ok (.goto 65, 3) := by decide +kernel
theorem dX5_kindHere_29 : decode cX5_kindHere 29 = .ok (.lload_n 1, 1) := by decide +kernel
theorem dX5_kindHere_30 : decode cX5_kindHere 30 = .ok (.ldc2_w 286, 3) := by decide +kernel
theorem dX5_kindHere_33 : decode cX5_kindHere 33 = .ok (.lcmp, 1) := by decide +kernel
theorem dX5_kindHere_34 : decode cX5_kindHere 34 = .ok (.ifCond .ne 7, 3) := by decide +kernel
theorem dX5_kindHere_37 : decode cX5_kindHere 37 = .ok (.iconst 2, 1) := by decide +kernel
theorem dX5_kindHere_38 : decode cX5_kindHere 38 = .ok (.goto 53, 3) := by decide +kernel
theorem dX5_kindHere_41 : decode cX5_kindHere 41 = .ok (.lload_n 1, 1) := by decide +kernel
theorem dX5_kindHere_42 : decode cX5_kindHere 42 = .ok (.ldc2_w 288, 3) := by decide +kernel
theorem dX5_kindHere_45 : decode cX5_kindHere 45 = .ok (.lcmp, 1) := by decide +kernel
theorem dX5_kindHere_46 : decode cX5_kindHere 46 = .ok (.ifCond .ne 7, 3) := by decide +kernel
theorem dX5_kindHere_49 : decode cX5_kindHere 49 = .ok (.iconst 3, 1) := by decide +kernel
theorem dX5_kindHere_50 : decode cX5_kindHere 50 = .ok (.goto 41, 3) := by decide +kernel
theorem dX5_kindHere_53 : decode cX5_kindHere 53 = .ok (.lload_n 1, 1) := by decide +kernel
theorem dX5_kindHere_54 : decode cX5_kindHere 54 = .ok (.ldc2_w 290, 3) := by decide +kernel
theorem dX5_kindHere_57 : decode cX5_kindHere 57 = .ok (.lcmp, 1) := by decide +kernel
theorem dX5_kindHere_58 : decode cX5_kindHere 58 = .ok (.ifCond .ne 7, 3) := by decide +kernel
theorem dX5_kindHere_61 : decode cX5_kindHere 61 = .ok (.iconst 4, 1) := by decide +kernel
theorem dX5_kindHere_62 : decode cX5_kindHere 62 = .ok (.goto 29, 3) := by decide +kernel
theorem dX5_kindHere_65 : decode cX5_kindHere 65 = .ok (.lload_n 1, 1) := by decide +kernel
theorem dX5_kindHere_66 : decode cX5_kindHere 66 = .ok (.ldc2_w 292, 3) := by decide +kernel
theorem dX5_kindHere_69 : decode cX5_kindHere 69 = .ok (.lcmp, 1) := by decide +kernel
theorem dX5_kindHere_70 : decode cX5_kindHere 70 = .ok (.ifCond .ne 7, 3) := by decide +kernel
theorem dX5_kindHere_73 : decode cX5_kindHere 73 = .ok (.iconst 5, 1) := by decide +kernel
theorem dX5_kindHere_74 : decode cX5_kindHere 74 = .ok (.goto 17, 3) := by decide +kernel
theorem dX5_kindHere_77 : decode cX5_kindHere 77 = .ok (.lload_n 1, 1) := by decide +kernel
theorem dX5_kindHere_78 : decode cX5_kindHere 78 = .ok (.ldc2_w 294, 3) := by decide +kernel
theorem dX5_kindHere_81 : decode cX5_kindHere 81 = .ok (.lcmp, 1) := by decide +kernel
theorem dX5_kindHere_82 : decode cX5_kindHere 82 = .ok (.ifCond .ne 8, 3) := by decide +kernel
theorem dX5_kindHere_85 : decode cX5_kindHere 85 = .ok (.bipush 6, 2) := by decide +kernel
theorem dX5_kindHere_87 : decode cX5_kindHere 87 = .ok (.goto 4, 3) := by decide +kernel
theorem dX5_kindHere_90 : decode cX5_kindHere 90 = .ok (.iconst (-1), 1) := by decide +kernel
theorem dX5_kindHere_91 : decode cX5_kindHere 91 = .ok (.ireturn, 1) := by decide +kernel
theorem dX5_perhaps_0 : decode cX5_perhaps 0 = .ok (.aload_n 0, 1) := by decide +kernel
theorem dX5_perhaps_1 : decode cX5_perhaps 1 = .ok (.invokevirtual 278, 3) := by decide +kernel
theorem dX5_perhaps_4 : decode cX5_perhaps 4 = .ok (.lload_n 1, 1) := by decide +kernel
theorem dX5_perhaps_5 : decode cX5_perhaps 5 = .ok (.lcmp, 1) := by decide +kernel
theorem dX5_perhaps_6 : decode cX5_perhaps 6 = .ok (.ifCond .ne 41, 3) := by decide +kernel
theorem dX5_perhaps_9 : decode cX5_perhaps 9 = .ok (.aload_n 0, 1) := by decide +kernel
theorem dX5_perhaps_10 : decode cX5_perhaps 10 = .ok (.iconst 1, 1) := by decide +kernel
theorem dX5_perhaps_11 : decode cX5_perhaps 11 = .ok (.invokevirtual 274, 3) := by decide +kernel
theorem dX5_perhaps_14 : decode cX5_perhaps 14 = .ok (.aload_n 0, 1) := by decide +kernel
theorem dX5_perhaps_15 : decode cX5_perhaps 15 = .ok (.iconst 0, 1) := by decide +kernel
theorem dX5_perhaps_16 : decode cX5_perhaps 16 = .ok (.iload 4, 2) := by decide +kernel
theorem dX5_perhaps_18 : decode cX5_perhaps 18 = .ok (.invokevirtual 296, 3) := by decide +kernel
theorem dX5_perhaps_21 : decode cX5_perhaps 21 = .ok (.aload_n 0, 1) := by decide +kernel
theorem dX5_perhaps_22 : decode cX5_perhaps 22 = .ok (.getfield 7, 3) := by decide +kernel
theorem dX5_perhaps_25 : decode cX5_perhaps 25 = .ok (.iload_n 3, 1) := by decide +kernel
theorem dX5_perhaps_26 : decode cX5_perhaps 26 = .ok (.aload_n 0, 1) := by decide +kernel
theorem dX5_perhaps_27 : decode cX5_perhaps 27 = .ok (.getfield 260, 3) := by decide +kernel
theorem dX5_perhaps_30 : decode cX5_perhaps 30 = .ok (.ifCond .eq 12, 3) := by decide +kernel
theorem dX5_perhaps_33 : decode cX5_perhaps 33 = .ok (.aload_n 0, 1) := by decide +kernel
theorem dX5_perhaps_34 : decode cX5_perhaps 34 = .ok (.getfield 7, 3) := by decide +kernel
theorem dX5_perhaps_37 : decode cX5_perhaps 37 = .ok (.iload_n 3, 1) := by decide +kernel
theorem dX5_perhaps_38 : decode cX5_perhaps 38 = .ok (.iaload, 1) := by decide +kernel
theorem dX5_perhaps_39 : decode cX5_perhaps 39 = .ok (.goto 7, 3) := by decide +kernel
theorem dX5_perhaps_42 : decode cX5_perhaps 42 = .ok (.aload_n 0, 1) := by decide +kernel
theorem dX5_perhaps_43 : decode cX5_perhaps 43 = .ok (.getfield 271, 3) := by decide +kernel
theorem dX5_perhaps_46 : decode cX5_perhaps 46 = .ok (.iastore, 1) := by decide +kernel
theorem dX5_perhaps_47 : decode cX5_perhaps 47 = .ok (.return_, 1) := by decide +kernel
theorem dX5_tenantItem_0 : decode cX5_tenantItem 0 = .ok (.aload_n 0, 1) := by decide +kernel
theorem dX5_tenantItem_1 : decode cX5_tenantItem 1 = .ok (.aload_n 0, 1) := by decide +kernel
theorem dX5_tenantItem_2 : decode cX5_tenantItem 2 = .ok (.getfield 7, 3) := by decide +kernel
theorem dX5_tenantItem_5 : decode cX5_tenantItem 5 = .ok (.iconst 1, 1) := by decide +kernel
theorem dX5_tenantItem_6 : decode cX5_tenantItem 6 = .ok (.iaload, 1) := by decide +kernel
theorem dX5_tenantItem_7 : decode cX5_tenantItem 7 = .ok (.bipush 8, 2) := by decide +kernel
theorem dX5_tenantItem_9 : decode cX5_tenantItem 9 = .ok (.if_icmp .ge 7, 3) := by decide +kernel
theorem dX5_tenantItem_12 : decode cX5_tenantItem 12 = .ok (.iconst 1, 1) := by decide +kernel
theorem dX5_tenantItem_13 : decode cX5_tenantItem 13 = .ok (.goto 4, 3) := by decide +kernel
theorem dX5_tenantItem_16 : decode cX5_tenantItem 16 = .ok (.iconst 0, 1) := by decide +kernel
theorem dX5_tenantItem_17 : decode cX5_tenantItem 17 = .ok (.invokevirtual 274, 3) := by decide +kernel
theorem dX5_tenantItem_20 : decode cX5_tenantItem 20 = .ok (.aload_n 0, 1) := by decide +kernel
theorem dX5_tenantItem_21 : decode cX5_tenantItem 21 = .ok (.getfield 260, 3) := by decide +kernel
theorem dX5_tenantItem_24 : decode cX5_tenantItem 24 = .ok (.ifCond .eq 4, 3) := by decide +kernel
theorem dX5_tenantItem_27 : decode cX5_tenantItem 27 = .ok (.return_, 1) := by decide +kernel
theorem dX5_tenantItem_28 : decode cX5_tenantItem 28 = .ok (.aload_n 0, 1) := by decide +kernel
theorem dX5_tenantItem_29 : decode cX5_tenantItem 29 = .ok (.iload_n 1, 1) := by decide +kernel
theorem dX5_tenantItem_30 : decode cX5_tenantItem 30 = .ok (.iconst 0, 1) := by decide +kernel
theorem dX5_tenantItem_31 : decode cX5_tenantItem 31 = .ok (.invokevirtual 98, 3) := by decide +kernel
theorem dX5_tenantItem_34 : decode cX5_tenantItem 34 = .ok (.istore_n 2, 1) := by decide +kernel
theorem dX5_tenantItem_35 : decode cX5_tenantItem 35 = .ok (.aload_n 0, 1) := by decide +kernel
theorem dX5_tenantItem_36 : decode cX5_tenantItem 36 = .ok (.ldc2_w 299, 3) := by decide +kernel
theorem dX5_tenantItem_39 : decode cX5_tenantItem 39 = .ok (.iload_n 2, 1) := by decide +kernel
theorem dX5_tenantItem_40 : decode cX5_tenantItem 40 = .ok (.iconst 1, 1) := by decide +kernel
theorem dX5_tenantItem_41 : decode cX5_tenantItem 41 = .ok (.invokestatic 57, 3) := by decide +kernel
theorem dX5_tenantItem_44 : decode cX5_tenantItem 44 = .ok (.bipush 11, 2) := by decide +kernel
theorem dX5_tenantItem_46 : decode cX5_tenantItem 46 = .ok (.invokevirtual 301, 3) := by decide +kernel
theorem dX5_tenantItem_49 : decode cX5_tenantItem 49 = .ok (.aload_n 0, 1) := by decide +kernel
theorem dX5_tenantItem_50 : decode cX5_tenantItem 50 = .ok (.ldc2_w 305, 3) := by decide +kernel
theorem dX5_tenantItem_53 : decode cX5_tenantItem 53 = .ok (.iload_n 2, 1) := by decide +kernel
theorem dX5_tenantItem_54 : decode cX5_tenantItem 54 = .ok (.iconst 2, 1) := by decide +kernel
theorem dX5_tenantItem_55 : decode cX5_tenantItem 55 = .ok (.invokestatic 57, 3) := by decide +kernel
theorem dX5_tenantItem_58 : decode cX5_tenantItem 58 = .ok (.sipush 9999, 3) := by decide +kernel
theorem dX5_tenantItem_61 : decode cX5_tenantItem 61 = .ok (.invokevirtual 301, 3) := by decide +kernel
theorem dX5_tenantItem_64 : decode cX5_tenantItem 64 = .ok (.aload_n 0, 1) := by decide +kernel
theorem dX5_tenantItem_65 : decode cX5_tenantItem 65 = .ok (.ldc2_w 307, 3) := by decide +kernel
theorem dX5_tenantItem_68 : decode cX5_tenantItem 68 = .ok (.iload_n 2, 1) := by decide +kernel
theorem dX5_tenantItem_69 : decode cX5_tenantItem 69 = .ok (.aload_n 0, 1) := by decide +kernel
theorem dX5_tenantItem_70 : decode cX5_tenantItem 70 = .ok (.iload_n 2, 1) := by decide +kernel
theorem dX5_tenantItem_71 : decode cX5_tenantItem 71 = .ok (.iconst 1, 1) := by decide +kernel
theorem dX5_tenantItem_72 : decode cX5_tenantItem 72 = .ok (.invokevirtual 77, 3) := by decide +kernel
theorem dX5_tenantItem_75 : decode cX5_tenantItem 75 = .ok (.invokestatic 74, 3) := by decide +kernel
theorem dX5_tenantItem_78 : decode cX5_tenantItem 78 = .ok (.bipush 99, 2) := by decide +kernel
theorem dX5_tenantItem_80 : decode cX5_tenantItem 80 = .ok (.invokevirtual 301, 3) := by decide +kernel
theorem dX5_tenantItem_83 : decode cX5_tenantItem 83 = .ok (.return_, 1) := by decide +kernel
theorem dX5_dustItem_0 : decode cX5_dustItem 0 = .ok (.aload_n 0, 1) := by decide +kernel
theorem dX5_dustItem_1 : decode cX5_dustItem 1 = .ok (.iconst 1, 1) := by decide +kernel
theorem dX5_dustItem_2 : decode cX5_dustItem 2 = .ok (.invokevirtual 274, 3) := by decide +kernel
theorem dX5_dustItem_5 : decode cX5_dustItem 5 = .ok (.aload_n 0, 1) := by decide +kernel
theorem dX5_dustItem_6 : decode cX5_dustItem 6 = .ok (.iconst 0, 1) := by decide +kernel
theorem dX5_dustItem_7 : decode cX5_dustItem 7 = .ok (.bipush 11, 2) := by decide +kernel
theorem dX5_dustItem_9 : decode cX5_dustItem 9 = .ok (.invokevirtual 296, 3) := by decide +kernel
theorem dX5_dustItem_12 : decode cX5_dustItem 12 = .ok (.aload_n 0, 1) := by decide +kernel
theorem dX5_dustItem_13 : decode cX5_dustItem 13 = .ok (.getfield 260, 3) := by decide +kernel
theorem dX5_dustItem_16 : decode cX5_dustItem 16 = .ok (.ifCond .eq 7, 3) := by decide +kernel
theorem dX5_dustItem_19 : decode cX5_dustItem 19 = .ok (.iconst 5, 1) := by decide +kernel
theorem dX5_dustItem_20 : decode cX5_dustItem 20 = .ok (.goto 9, 3) := by decide +kernel
theorem dX5_dustItem_23 : decode cX5_dustItem 23 = .ok (.iconst 5, 1) := by decide +kernel
theorem dX5_dustItem_24 : decode cX5_dustItem 24 = .ok (.aload_n 0, 1) := by decide +kernel
theorem dX5_dustItem_25 : decode cX5_dustItem 25 = .ok (.getfield 271, 3) := by decide +kernel
theorem dX5_dustItem_28 : decode cX5_dustItem 28 = .ok (.iadd, 1) := by decide +kernel
theorem dX5_dustItem_29 : decode cX5_dustItem 29 = .ok (.istore_n 1, 1) := by decide +kernel
theorem dX5_dustItem_30 : decode cX5_dustItem 30 = .ok (.aload_n 0, 1) := by decide +kernel
theorem dX5_dustItem_31 : decode cX5_dustItem 31 = .ok (.iconst 0, 1) := by decide +kernel
theorem dX5_dustItem_32 : decode cX5_dustItem 32 = .ok (.sipush 9999, 3) := by decide +kernel
theorem dX5_dustItem_35 : decode cX5_dustItem 35 = .ok (.invokevirtual 296, 3) := by decide +kernel
theorem dX5_dustItem_38 : decode cX5_dustItem 38 = .ok (.aload_n 0, 1) := by decide +kernel
theorem dX5_dustItem_39 : decode cX5_dustItem 39 = .ok (.getfield 7, 3) := by decide +kernel
theorem dX5_dustItem_42 : decode cX5_dustItem 42 = .ok (.iload_n 1, 1) := by decide +kernel
theorem dX5_dustItem_43 : decode cX5_dustItem 43 = .ok (.aload_n 0, 1) := by decide +kernel
theorem dX5_dustItem_44 : decode cX5_dustItem 44 = .ok (.getfield 260, 3) := by decide +kernel
theorem dX5_dustItem_47 : decode cX5_dustItem 47 = .ok (.ifCond .eq 12, 3) := by decide +kernel
theorem dX5_dustItem_50 : decode cX5_dustItem 50 = .ok (.aload_n 0, 1) := by decide +kernel
theorem dX5_dustItem_51 : decode cX5_dustItem 51 = .ok (.getfield 7, 3) := by decide +kernel
theorem dX5_dustItem_54 : decode cX5_dustItem 54 = .ok (.iload_n 1, 1) := by decide +kernel
theorem dX5_dustItem_55 : decode cX5_dustItem 55 = .ok (.iaload, 1) := by decide +kernel
theorem dX5_dustItem_56 : decode cX5_dustItem 56 = .ok (.goto 7, 3) := by decide +kernel
theorem dX5_dustItem_59 : decode cX5_dustItem 59 = .ok (.aload_n 0, 1) := by decide +kernel
theorem dX5_dustItem_60 : decode cX5_dustItem 60 = .ok (.getfield 271, 3) := by decide +kernel
theorem dX5_dustItem_63 : decode cX5_dustItem 63 = .ok (.iastore, 1) := by decide +kernel
theorem dX5_dustItem_64 : decode cX5_dustItem 64 = .ok (.return_, 1) := by decide +kernel
theorem dX5_draughtItem_0 : decode cX5_draughtItem 0 = .ok (.aload_n 0, 1) := by decide +kernel
theorem dX5_draughtItem_1 : decode cX5_draughtItem 1 = .ok (.iconst 1, 1) := by decide +kernel
theorem dX5_draughtItem_2 : decode cX5_draughtItem 2 = .ok (.invokevirtual 274, 3) := by decide +kernel
theorem dX5_draughtItem_5 : decode cX5_draughtItem 5 = .ok (.aload_n 0, 1) := by decide +kernel
theorem dX5_draughtItem_6 : decode cX5_draughtItem 6 = .ok (.getfield 260, 3) := by decide +kernel
theorem dX5_draughtItem_9 : decode cX5_draughtItem 9 = .ok (.ifCond .ne 20, 3) := by decide +kernel
theorem dX5_draughtItem_12 : decode cX5_draughtItem 12 = .ok (.aload_n 0, 1) := by decide +kernel
theorem dX5_draughtItem_13 : decode cX5_draughtItem 13 = .ok (.aload_n 0, 1) := by decide +kernel
theorem dX5_draughtItem_14 : decode cX5_draughtItem 14 = .ok (.getfield 248, 3) := by decide +kernel
theorem dX5_draughtItem_17 : decode cX5_draughtItem 17 = .ok (.invokevirtual 251, 3) := by decide +kernel
theorem dX5_draughtItem_20 : decode cX5_draughtItem 20 = .ok (.bipush 45, 2) := by decide +kernel
theorem dX5_draughtItem_22 : decode cX5_draughtItem 22 = .ok (.if_icmp .ne 7, 3) := by decide +kernel
theorem dX5_draughtItem_25 : decode cX5_draughtItem 25 = .ok (.iconst 1, 1) := by decide +kernel
theorem dX5_draughtItem_26 : decode cX5_draughtItem 26 = .ok (.goto 4, 3) := by decide +kernel
theorem dX5_draughtItem_29 : decode cX5_draughtItem 29 = .ok (.iconst 0, 1) := by decide +kernel
theorem dX5_draughtItem_30 : decode cX5_draughtItem 30 = .ok (.istore_n 1, 1) := by decide +kernel
theorem dX5_draughtItem_31 : decode cX5_draughtItem 31 = .ok (.iload_n 1, 1) := by decide +kernel
theorem dX5_draughtItem_32 : decode cX5_draughtItem 32 = .ok (.ifCond .eq 8, 3) := by decide +kernel
theorem dX5_draughtItem_35 : decode cX5_draughtItem 35 = .ok (.aload_n 0, 1) := by decide +kernel
theorem dX5_draughtItem_36 : decode cX5_draughtItem 36 = .ok (.iconst 1, 1) := by decide +kernel
theorem dX5_draughtItem_37 : decode cX5_draughtItem 37 = .ok (.invokevirtual 274, 3) := by decide +kernel
theorem dX5_draughtItem_40 : decode cX5_draughtItem 40 = .ok (.aload_n 0, 1) := by decide +kernel
theorem dX5_draughtItem_41 : decode cX5_draughtItem 41 = .ok (.iconst 0, 1) := by decide +kernel
theorem dX5_draughtItem_42 : decode cX5_draughtItem 42 = .ok (.iconst 3, 1) := by decide +kernel
theorem dX5_draughtItem_43 : decode cX5_draughtItem 43 = .ok (.invokevirtual 296, 3) := by decide +kernel
theorem dX5_draughtItem_46 : decode cX5_draughtItem 46 = .ok (.aload_n 0, 1) := by decide +kernel
theorem dX5_draughtItem_47 : decode cX5_draughtItem 47 = .ok (.getfield 7, 3) := by decide +kernel
theorem dX5_draughtItem_50 : decode cX5_draughtItem 50 = .ok (.iconst 3, 1) := by decide +kernel
theorem dX5_draughtItem_51 : decode cX5_draughtItem 51 = .ok (.aload_n 0, 1) := by decide +kernel
theorem dX5_draughtItem_52 : decode cX5_draughtItem 52 = .ok (.getfield 260, 3) := by decide +kernel
theorem dX5_draughtItem_55 : decode cX5_draughtItem 55 = .ok (.ifCond .eq 12, 3) := by decide +kernel
theorem dX5_draughtItem_58 : decode cX5_draughtItem 58 = .ok (.aload_n 0, 1) := by decide +kernel
theorem dX5_draughtItem_59 : decode cX5_draughtItem 59 = .ok (.getfield 7, 3) := by decide +kernel
theorem dX5_draughtItem_62 : decode cX5_draughtItem 62 = .ok (.iconst 3, 1) := by decide +kernel
theorem dX5_draughtItem_63 : decode cX5_draughtItem 63 = .ok (.iaload, 1) := by decide +kernel
theorem dX5_draughtItem_64 : decode cX5_draughtItem 64 = .ok (.goto 19, 3) := by decide +kernel
theorem dX5_draughtItem_67 : decode cX5_draughtItem 67 = .ok (.iload_n 1, 1) := by decide +kernel
theorem dX5_draughtItem_68 : decode cX5_draughtItem 68 = .ok (.ifCond .eq 11, 3) := by decide +kernel
theorem dX5_draughtItem_71 : decode cX5_draughtItem 71 = .ok (.aload_n 0, 1) := by decide +kernel
theorem dX5_draughtItem_72 : decode cX5_draughtItem 72 = .ok (.getfield 271, 3) := by decide +kernel
theorem dX5_draughtItem_75 : decode cX5_draughtItem 75 = .ok (.ineg, 1) := by decide +kernel
theorem dX5_draughtItem_76 : decode cX5_draughtItem 76 = .ok (.goto 7, 3) := by decide +kernel
theorem dX5_draughtItem_79 : decode cX5_draughtItem 79 = .ok (.aload_n 0, 1) := by decide +kernel
theorem dX5_draughtItem_80 : decode cX5_draughtItem 80 = .ok (.getfield 271, 3) := by decide +kernel
theorem dX5_draughtItem_83 : decode cX5_draughtItem 83 = .ok (.iastore, 1) := by decide +kernel
theorem dX5_draughtItem_84 : decode cX5_draughtItem 84 = .ok (.return_, 1) := by decide +kernel
theorem dX5_item_0 : decode cX5_item 0 = .ok (.aload_n 0, 1) := by decide +kernel
theorem dX5_item_1 : decode cX5_item 1 = .ok (.invokevirtual 309, 3) := by decide +kernel
theorem dX5_item_4 : decode cX5_item 4 = .ok (.istore_n 1, 1) := by decide +kernel
theorem dX5_item_5 : decode cX5_item 5 = .ok (.aload_n 0, 1) := by decide +kernel
theorem dX5_item_6 : decode cX5_item 6 = .ok (.invokevirtual 278, 3) := by decide +kernel
theorem dX5_item_9 : decode cX5_item 9 = .ok (.lstore_n 2, 1) := by decide +kernel
theorem dX5_item_10 : decode cX5_item 10 = .ok (.iload_n 1, 1) := by decide +kernel
theorem dX5_item_11 : decode cX5_item 11 = .ok (.ifCond .lt 11, 3) := by decide +kernel
theorem dX5_item_14 : decode cX5_item 14 = .ok (.aload_n 0, 1) := by decide +kernel
theorem dX5_item_15 : decode cX5_item 15 = .ok (.iload_n 1, 1) := by decide +kernel
theorem dX5_item_16 : decode cX5_item 16 = .ok (.invokevirtual 312, 3) := by decide +kernel
theorem dX5_item_19 : decode cX5_item 19 = .ok (.goto 83, 3) := by decide +kernel
theorem dX5_item_22 : decode cX5_item 22 = .ok (.lload_n 2, 1) := by decide +kernel
theorem dX5_item_23 : decode cX5_item 23 = .ok (.ldc2_w 315, 3) := by decide +kernel
theorem dX5_item_26 : decode cX5_item 26 = .ok (.lcmp, 1) := by decide +kernel
theorem dX5_item_27 : decode cX5_item 27 = .ok (.ifCond .ne 10, 3) := by decide +kernel
theorem dX5_item_30 : decode cX5_item 30 = .ok (.aload_n 0, 1) := by decide +kernel
theorem dX5_item_31 : decode cX5_item 31 = .ok (.invokevirtual 317, 3) := by decide +kernel
theorem dX5_item_34 : decode cX5_item 34 = .ok (.goto 68, 3) := by decide +kernel
theorem dX5_item_37 : decode cX5_item 37 = .ok (.lload_n 2, 1) := by decide +kernel
theorem dX5_item_38 : decode cX5_item 38 = .ok (.ldc2_w 320, 3) := by decide +kernel
theorem dX5_item_41 : decode cX5_item 41 = .ok (.lcmp, 1) := by decide +kernel
theorem dX5_item_42 : decode cX5_item 42 = .ok (.ifCond .ne 10, 3) := by decide +kernel
theorem dX5_item_45 : decode cX5_item 45 = .ok (.aload_n 0, 1) := by decide +kernel
theorem dX5_item_46 : decode cX5_item 46 = .ok (.invokevirtual 322, 3) := by decide +kernel
theorem dX5_item_49 : decode cX5_item 49 = .ok (.goto 53, 3) := by decide +kernel
theorem dX5_item_52 : decode cX5_item 52 = .ok (.aload_n 0, 1) := by decide +kernel
theorem dX5_item_53 : decode cX5_item 53 = .ok (.lload_n 2, 1) := by decide +kernel
theorem dX5_item_54 : decode cX5_item 54 = .ok (.ldc2_w 325, 3) := by decide +kernel
theorem dX5_item_57 : decode cX5_item 57 = .ok (.lcmp, 1) := by decide +kernel
theorem dX5_item_58 : decode cX5_item 58 = .ok (.ifCond .ne 7, 3) := by decide +kernel
theorem dX5_item_61 : decode cX5_item 61 = .ok (.iconst 1, 1) := by decide +kernel
theorem dX5_item_62 : decode cX5_item 62 = .ok (.goto 4, 3) := by decide +kernel
theorem dX5_item_65 : decode cX5_item 65 = .ok (.iconst 0, 1) := by decide +kernel
theorem dX5_item_66 : decode cX5_item 66 = .ok (.invokevirtual 274, 3) := by decide +kernel
theorem dX5_item_69 : decode cX5_item 69 = .ok (.aload_n 0, 1) := by decide +kernel
theorem dX5_item_70 : decode cX5_item 70 = .ok (.iconst 0, 1) := by decide +kernel
theorem dX5_item_71 : decode cX5_item 71 = .ok (.bipush 99, 2) := by decide +kernel
theorem dX5_item_73 : decode cX5_item 73 = .ok (.invokevirtual 296, 3) := by decide +kernel
theorem dX5_item_76 : decode cX5_item 76 = .ok (.aload_n 0, 1) := by decide +kernel
theorem dX5_item_77 : decode cX5_item 77 = .ok (.getfield 7, 3) := by decide +kernel
theorem dX5_item_80 : decode cX5_item 80 = .ok (.iconst 2, 1) := by decide +kernel
theorem dX5_item_81 : decode cX5_item 81 = .ok (.aload_n 0, 1) := by decide +kernel
theorem dX5_item_82 : decode cX5_item 82 = .ok (.getfield 260, 3) := by decide +kernel
theorem dX5_item_85 : decode cX5_item 85 = .ok (.ifCond .eq 12, 3) := by decide +kernel
theorem dX5_item_88 : decode cX5_item 88 = .ok (.aload_n 0, 1) := by decide +kernel
theorem dX5_item_89 : decode cX5_item 89 = .ok (.getfield 7, 3) := by decide +kernel
theorem dX5_item_92 : decode cX5_item 92 = .ok (.iconst 2, 1) := by decide +kernel
theorem dX5_item_93 : decode cX5_item 93 = .ok (.iaload, 1) := by decide +kernel
theorem dX5_item_94 : decode cX5_item 94 = .ok (.goto 7, 3) := by decide +kernel
theorem dX5_item_97 : decode cX5_item 97 = .ok (.aload_n 0, 1) := by decide +kernel
theorem dX5_item_98 : decode cX5_item 98 = .ok (.getfield 271, 3) := by decide +kernel
theorem dX5_item_101 : decode cX5_item 101 = .ok (.iastore, 1) := by decide +kernel
theorem dX5_item_102 : decode cX5_item 102 = .ok (.return_, 1) := by decide +kernel
theorem dX5_text_0 : decode cX5_text 0 = .ok (.aload_n 0, 1) := by decide +kernel
theorem dX5_text_1 : decode cX5_text 1 = .ok (.invokevirtual 327, 3) := by decide +kernel
theorem dX5_text_4 : decode cX5_text 4 = .ok (.aload_n 0, 1) := by decide +kernel
theorem dX5_text_5 : decode cX5_text 5 = .ok (.iconst 0, 1) := by decide +kernel
theorem dX5_text_6 : decode cX5_text 6 = .ok (.putfield 260, 3) := by decide +kernel
theorem dX5_text_9 : decode cX5_text 9 = .ok (.aload_n 0, 1) := by decide +kernel
theorem dX5_text_10 : decode cX5_text 10 = .ok (.iconst 0, 1) := by decide +kernel
theorem dX5_text_11 : decode cX5_text 11 = .ok (.putfield 245, 3) := by decide +kernel
theorem dX5_text_14 : decode cX5_text 14 = .ok (.aload_n 0, 1) := by decide +kernel
theorem dX5_text_15 : decode cX5_text 15 = .ok (.invokevirtual 264, 3) := by decide +kernel
theorem dX5_text_18 : decode cX5_text 18 = .ok (.iconst 1, 1) := by decide +kernel
theorem dX5_text_19 : decode cX5_text 19 = .ok (.istore_n 1, 1) := by decide +kernel
theorem dX5_text_20 : decode cX5_text 20 = .ok (.aload_n 0, 1) := by decide +kernel
theorem dX5_text_21 : decode cX5_text 21 = .ok (.invokevirtual 330, 3) := by decide +kernel
theorem dX5_text_24 : decode cX5_text 24 = .ok (.aload_n 0, 1) := by decide +kernel
theorem dX5_text_25 : decode cX5_text 25 = .ok (.getfield 260, 3) := by decide +kernel
theorem dX5_text_28 : decode cX5_text 28 = .ok (.ifCond .ne 31, 3) := by decide +kernel
theorem dX5_text_31 : decode cX5_text 31 = .ok (.aload_n 0, 1) := by decide +kernel
theorem dX5_text_32 : decode cX5_text 32 = .ok (.aload_n 0, 1) := by decide +kernel
theorem dX5_text_33 : decode cX5_text 33 = .ok (.getfield 248, 3) := by decide +kernel
theorem dX5_text_36 : decode cX5_text 36 = .ok (.invokevirtual 251, 3) := by decide +kernel
theorem dX5_text_39 : decode cX5_text 39 = .ok (.bipush 59, 2) := by decide +kernel
theorem dX5_text_41 : decode cX5_text 41 = .ok (.if_icmp .ne 18, 3) := by decide +kernel
theorem dX5_text_44 : decode cX5_text 44 = .ok (.aload_n 0, 1) := by decide +kernel
theorem dX5_text_45 : decode cX5_text 45 = .ok (.iconst 1, 1) := by decide +kernel
theorem dX5_text_46 : decode cX5_text 46 = .ok (.invokevirtual 274, 3) := by decide +kernel
theorem dX5_text_49 : decode cX5_text 49 = .ok (.aload_n 0, 1) := by decide +kernel
theorem dX5_text_50 : decode cX5_text 50 = .ok (.invokevirtual 330, 3) := by decide +kernel
theorem dX5_text_53 : decode cX5_text 53 = .ok (.iinc 1 1, 3) := by decide +kernel
theorem dX5_text_56 : decode cX5_text 56 = .ok (.goto (-32), 3) := by decide +kernel
theorem dX5_text_59 : decode cX5_text 59 = .ok (.aload_n 0, 1) := by decide +kernel
theorem dX5_text_60 : decode cX5_text 60 = .ok (.aload_n 0, 1) := by decide +kernel
theorem dX5_text_61 : decode cX5_text 61 = .ok (.getfield 260, 3) := by decide +kernel
theorem dX5_text_64 : decode cX5_text 64 = .ok (.ifCond .ne 14, 3) := by decide +kernel
theorem dX5_text_67 : decode cX5_text 67 = .ok (.aload_n 0, 1) := by decide +kernel
theorem dX5_text_68 : decode cX5_text 68 = .ok (.getfield 248, 3) := by decide +kernel
theorem dX5_text_71 : decode cX5_text 71 = .ok (.aload_n 0, 1) := by decide +kernel
theorem dX5_text_72 : decode cX5_text 72 = .ok (.getfield 234, 3) := by decide +kernel
theorem dX5_text_75 : decode cX5_text 75 = .ok (.if_icmp .ge 7, 3) := by decide +kernel
theorem dX5_text_78 : decode cX5_text 78 = .ok (.iconst 1, 1) := by decide +kernel
theorem dX5_text_79 : decode cX5_text 79 = .ok (.goto 4, 3) := by decide +kernel
theorem dX5_text_82 : decode cX5_text 82 = .ok (.iconst 0, 1) := by decide +kernel
theorem dX5_text_83 : decode cX5_text 83 = .ok (.putfield 260, 3) := by decide +kernel
theorem dX5_text_86 : decode cX5_text 86 = .ok (.aload_n 0, 1) := by decide +kernel
theorem dX5_text_87 : decode cX5_text 87 = .ok (.getfield 260, 3) := by decide +kernel
theorem dX5_text_90 : decode cX5_text 90 = .ok (.ifCond .eq 7, 3) := by decide +kernel
theorem dX5_text_93 : decode cX5_text 93 = .ok (.aload_n 0, 1) := by decide +kernel
theorem dX5_text_94 : decode cX5_text 94 = .ok (.invokevirtual 333, 3) := by decide +kernel
theorem dX5_text_97 : decode cX5_text 97 = .ok (.aload_n 0, 1) := by decide +kernel
theorem dX5_text_98 : decode cX5_text 98 = .ok (.iconst 0, 1) := by decide +kernel
theorem dX5_text_99 : decode cX5_text 99 = .ok (.putfield 234, 3) := by decide +kernel
theorem dX5_text_102 : decode cX5_text 102 = .ok (.aload_n 0, 1) := by decide +kernel
theorem dX5_text_103 : decode cX5_text 103 = .ok (.getfield 260, 3) := by decide +kernel
theorem dX5_text_106 : decode cX5_text 106 = .ok (.ifCond .eq 12, 3) := by decide +kernel
theorem dX5_text_109 : decode cX5_text 109 = .ok (.iconst (-1), 1) := by decide +kernel
theorem dX5_text_110 : decode cX5_text 110 = .ok (.aload_n 0, 1) := by decide +kernel
theorem dX5_text_111 : decode cX5_text 111 = .ok (.getfield 248, 3) := by decide +kernel
theorem dX5_text_114 : decode cX5_text 114 = .ok (.isub, 1) := by decide +kernel
theorem dX5_text_115 : decode cX5_text 115 = .ok (.goto 4, 3) := by decide +kernel
theorem dX5_text_118 : decode cX5_text 118 = .ok (.iload_n 1, 1) := by decide +kernel
theorem dX5_text_119 : decode cX5_text 119 = .ok (.ireturn, 1) := by decide +kernel
theorem dX5_isSpot_0 : decode cX5_isSpot 0 = .ok (.iload_n 0, 1) := by decide +kernel
theorem dX5_isSpot_1 : decode cX5_isSpot 1 = .ok (.i2l, 1) := by decide +kernel
theorem dX5_isSpot_2 : decode cX5_isSpot 2 = .ok (.lconst 0, 1) := by decide +kernel
theorem dX5_isSpot_3 : decode cX5_isSpot 3 = .ok (.ldc2_w 336, 3) := by decide +kernel
theorem dX5_isSpot_6 : decode cX5_isSpot 6 = .ok (.invokestatic 53, 3) := by decide +kernel
theorem dX5_isSpot_9 : decode cX5_isSpot 9 = .ok (.ireturn, 1) := by decide +kernel
theorem dX5_hold_0 : decode cX5_hold 0 = .ok (.iload_n 1, 1) := by decide +kernel
theorem dX5_hold_1 : decode cX5_hold 1 = .ok (.invokestatic 338, 3) := by decide +kernel
theorem dX5_hold_4 : decode cX5_hold 4 = .ok (.ifCond .eq 16, 3) := by decide +kernel
theorem dX5_hold_7 : decode cX5_hold 7 = .ok (.iload_n 2, 1) := by decide +kernel
theorem dX5_hold_8 : decode cX5_hold 8 = .ok (.iconst (-1), 1) := by decide +kernel
theorem dX5_hold_9 : decode cX5_hold 9 = .ok (.if_icmp .eq 18, 3) := by decide +kernel
theorem dX5_hold_12 : decode cX5_hold 12 = .ok (.aload_n 0, 1) := by decide +kernel
theorem dX5_hold_13 : decode cX5_hold 13 = .ok (.iload_n 2, 1) := by decide +kernel
theorem dX5_hold_14 : decode cX5_hold 14 = .ok (.invokevirtual 101, 3) := by decide +kernel
theorem dX5_hold_17 : decode cX5_hold 17 = .ok (.ifCond .ne 10, 3) := by decide +kernel
theorem dX5_hold_20 : decode cX5_hold 20 = .ok (.aload_n 0, 1) := by decide +kernel
theorem dX5_hold_21 : decode cX5_hold 21 = .ok (.ldc 50, 2) := by decide +kernel
theorem dX5_hold_23 : decode cX5_hold 23 = .ok (.invokevirtual 70, 3) := by decide +kernel
theorem dX5_hold_26 : decode cX5_hold 26 = .ok (.ireturn, 1) := by decide +kernel
theorem dX5_hold_27 : decode cX5_hold 27 = .ok (.aload_n 0, 1) := by decide +kernel
theorem dX5_hold_28 : decode cX5_hold 28 = .ok (.getfield 7, 3) := by decide +kernel
theorem dX5_hold_31 : decode cX5_hold 31 = .ok (.sipush 137, 3) := by decide +kernel
theorem dX5_hold_34 : decode cX5_hold 34 = .ok (.iload_n 1, 1) := by decide +kernel
theorem dX5_hold_35 : decode cX5_hold 35 = .ok (.iadd, 1) := by decide +kernel
theorem dX5_hold_36 : decode cX5_hold 36 = .ok (.iload_n 2, 1) := by decide +kernel
theorem dX5_hold_37 : decode cX5_hold 37 = .ok (.iastore, 1) := by decide +kernel
theorem dX5_hold_38 : decode cX5_hold 38 = .ok (.iconst 1, 1) := by decide +kernel
theorem dX5_hold_39 : decode cX5_hold 39 = .ok (.ireturn, 1) := by decide +kernel
theorem dX5_above_0 : decode cX5_above 0 = .ok (.iload_n 0, 1) := by decide +kernel
theorem dX5_above_1 : decode cX5_above 1 = .ok (.bipush 6, 2) := by decide +kernel
theorem dX5_above_3 : decode cX5_above 3 = .ok (.if_icmp .ne 7, 3) := by decide +kernel
theorem dX5_above_6 : decode cX5_above 6 = .ok (.iconst 1, 1) := by decide +kernel
theorem dX5_above_7 : decode cX5_above 7 = .ok (.goto 22, 3) := by decide +kernel
theorem dX5_above_10 : decode cX5_above 10 = .ok (.iload_n 0, 1) := by decide +kernel
theorem dX5_above_11 : decode cX5_above 11 = .ok (.iconst 4, 1) := by decide +kernel
theorem dX5_above_12 : decode cX5_above 12 = .ok (.if_icmp .ne 7, 3) := by decide +kernel
theorem dX5_above_15 : decode cX5_above 15 = .ok (.iconst 3, 1) := by decide +kernel
theorem dX5_above_16 : decode cX5_above 16 = .ok (.goto 13, 3) := by decide +kernel
theorem dX5_above_19 : decode cX5_above 19 = .ok (.iload_n 0, 1) := by decide +kernel
theorem dX5_above_20 : decode cX5_above 20 = .ok (.iconst 3, 1) := by decide +kernel
theorem dX5_above_21 : decode cX5_above 21 = .ok (.if_icmp .ne 7, 3) := by decide +kernel
theorem dX5_above_24 : decode cX5_above 24 = .ok (.iconst 2, 1) := by decide +kernel
theorem dX5_above_25 : decode cX5_above 25 = .ok (.goto 4, 3) := by decide +kernel
theorem dX5_above_28 : decode cX5_above 28 = .ok (.iconst 0, 1) := by decide +kernel
theorem dX5_above_29 : decode cX5_above 29 = .ok (.ireturn, 1) := by decide +kernel
theorem dX5_as_0 : decode cX5_as 0 = .ok (.iload_n 1, 1) := by decide +kernel
theorem dX5_as_1 : decode cX5_as 1 = .ok (.invokestatic 338, 3) := by decide +kernel
theorem dX5_as_4 : decode cX5_as 4 = .ok (.ifCond .eq 10, 3) := by decide +kernel
theorem dX5_as_7 : decode cX5_as 7 = .ok (.iload_n 2, 1) := by decide +kernel
theorem dX5_as_8 : decode cX5_as 8 = .ok (.invokestatic 94, 3) := by decide +kernel
theorem dX5_as_11 : decode cX5_as 11 = .ok (.ifCond .ne 10, 3) := by decide +kernel
theorem dX5_as_14 : decode cX5_as 14 = .ok (.aload_n 0, 1) := by decide +kernel
theorem dX5_as_15 : decode cX5_as 15 = .ok (.ldc 50, 2) := by decide +kernel
theorem dX5_as_17 : decode cX5_as 17 = .ok (.invokevirtual 70, 3) := by decide +kernel
theorem dX5_as_20 : decode cX5_as 20 = .ok (.ireturn, 1) := by decide +kernel
theorem dX5_as_21 : decode cX5_as 21 = .ok (.aload_n 0, 1) := by decide +kernel
theorem dX5_as_22 : decode cX5_as 22 = .ok (.getfield 7, 3) := by decide +kernel
theorem dX5_as_25 : decode cX5_as 25 = .ok (.sipush 137, 3) := by decide +kernel
theorem dX5_as_28 : decode cX5_as 28 = .ok (.iload_n 1, 1) := by decide +kernel
theorem dX5_as_29 : decode cX5_as 29 = .ok (.iadd, 1) := by decide +kernel
theorem dX5_as_30 : decode cX5_as 30 = .ok (.iaload, 1) := by decide +kernel
theorem dX5_as_31 : decode cX5_as 31 = .ok (.istore_n 3, 1) := by decide +kernel
theorem dX5_as_32 : decode cX5_as 32 = .ok (.iload_n 3, 1) := by decide +kernel
theorem dX5_as_33 : decode cX5_as 33 = .ok (.ifCond .ge 11, 3) := by decide +kernel
theorem dX5_as_36 : decode cX5_as 36 = .ok (.aload_n 0, 1) := by decide +kernel
theorem dX5_as_37 : decode cX5_as 37 = .ok (.ldc_w 341, 3) := by decide +kernel
theorem dX5_as_40 : decode cX5_as 40 = .ok (.invokevirtual 70, 3) := by decide +kernel
theorem dX5_as_43 : decode cX5_as 43 = .ok (.ireturn, 1) := by decide +kernel
theorem dX5_as_44 : decode cX5_as 44 = .ok (.aload_n 0, 1) := by decide +kernel
theorem dX5_as_45 : decode cX5_as 45 = .ok (.iload_n 3, 1) := by decide +kernel
theorem dX5_as_46 : decode cX5_as 46 = .ok (.iconst 0, 1) := by decide +kernel
theorem dX5_as_47 : decode cX5_as 47 = .ok (.invokevirtual 77, 3) := by decide +kernel
theorem dX5_as_50 : decode cX5_as 50 = .ok (.istore 4, 2) := by decide +kernel
theorem dX5_as_52 : decode cX5_as 52 = .ok (.iload 4, 2) := by decide +kernel
theorem dX5_as_54 : decode cX5_as 54 = .ok (.iload_n 2, 1) := by decide +kernel
theorem dX5_as_55 : decode cX5_as 55 = .ok (.if_icmp .eq 18, 3) := by decide +kernel
theorem dX5_as_58 : decode cX5_as 58 = .ok (.iload 4, 2) := by decide +kernel
theorem dX5_as_60 : decode cX5_as 60 = .ok (.ifCond .eq 13, 3) := by decide +kernel
theorem dX5_as_63 : decode cX5_as 63 = .ok (.iload 4, 2) := by decide +kernel
theorem dX5_as_65 : decode cX5_as 65 = .ok (.invokestatic 342, 3) := by decide +kernel
theorem dX5_as_68 : decode cX5_as 68 = .ok (.istore 4, 2) := by decide +kernel
theorem dX5_as_70 : decode cX5_as 70 = .ok (.goto (-18), 3) := by decide +kernel
theorem dX5_as_73 : decode cX5_as 73 = .ok (.iload 4, 2) := by decide +kernel
theorem dX5_as_75 : decode cX5_as 75 = .ok (.iload_n 2, 1) := by decide +kernel
theorem dX5_as_76 : decode cX5_as 76 = .ok (.if_icmp .ne 7, 3) := by decide +kernel
theorem dX5_as_79 : decode cX5_as 79 = .ok (.iload_n 3, 1) := by decide +kernel
theorem dX5_as_80 : decode cX5_as 80 = .ok (.goto 10, 3) := by decide +kernel
theorem dX5_as_83 : decode cX5_as 83 = .ok (.aload_n 0, 1) := by decide +kernel
theorem dX5_as_84 : decode cX5_as 84 = .ok (.ldc_w 345, 3) := by decide +kernel
theorem dX5_as_87 : decode cX5_as 87 = .ok (.invokevirtual 70, 3) := by decide +kernel
theorem dX5_as_90 : decode cX5_as 90 = .ok (.ireturn, 1) := by decide +kernel
theorem dX5_isOne_0 : decode cX5_isOne 0 = .ok (.iload_n 0, 1) := by decide +kernel
theorem dX5_isOne_1 : decode cX5_isOne 1 = .ok (.i2l, 1) := by decide +kernel
theorem dX5_isOne_2 : decode cX5_isOne 2 = .ok (.lconst 0, 1) := by decide +kernel
theorem dX5_isOne_3 : decode cX5_isOne 3 = .ok (.ldc2_w 80, 3) := by decide +kernel
theorem dX5_isOne_6 : decode cX5_isOne 6 = .ok (.invokestatic 53, 3) := by decide +kernel
theorem dX5_isOne_9 : decode cX5_isOne 9 = .ok (.ireturn, 1) := by decide +kernel
theorem dX5_sheet_0 : decode cX5_sheet 0 = .ok (.iload_n 1, 1) := by decide +kernel
theorem dX5_sheet_1 : decode cX5_sheet 1 = .ok (.invokestatic 346, 3) := by decide +kernel
theorem dX5_sheet_4 : decode cX5_sheet 4 = .ok (.ifCond .eq 25, 3) := by decide +kernel
theorem dX5_sheet_7 : decode cX5_sheet 7 = .ok (.iload_n 2, 1) := by decide +kernel
theorem dX5_sheet_8 : decode cX5_sheet 8 = .ok (.ifCond .eq 28, 3) := by decide +kernel
theorem dX5_sheet_11 : decode cX5_sheet 11 = .ok (.iload_n 2, 1) := by decide +kernel
theorem dX5_sheet_12 : decode cX5_sheet 12 = .ok (.bipush 8, 2) := by decide +kernel
theorem dX5_sheet_14 : decode cX5_sheet 14 = .ok (.if_icmp .eq 22, 3) := by decide +kernel
theorem dX5_sheet_17 : decode cX5_sheet 17 = .ok (.iload_n 2, 1) := by decide +kernel
theorem dX5_sheet_18 : decode cX5_sheet 18 = .ok (.bipush 16, 2) := by decide +kernel
theorem dX5_sheet_20 : decode cX5_sheet 20 = .ok (.if_icmp .eq 16, 3) := by decide +kernel
theorem dX5_sheet_23 : decode cX5_sheet 23 = .ok (.iload_n 2, 1) := by decide +kernel
theorem dX5_sheet_24 : decode cX5_sheet 24 = .ok (.bipush 32, 2) := by decide +kernel
theorem dX5_sheet_26 : decode cX5_sheet 26 = .ok (.if_icmp .eq 10, 3) := by decide +kernel
theorem dX5_sheet_29 : decode cX5_sheet 29 = .ok (.aload_n 0, 1) := by decide +kernel
theorem dX5_sheet_30 : decode cX5_sheet 30 = .ok (.ldc 50, 2) := by decide +kernel
theorem dX5_sheet_32 : decode cX5_sheet 32 = .ok (.invokevirtual 70, 3) := by decide +kernel
theorem dX5_sheet_35 : decode cX5_sheet 35 = .ok (.ireturn, 1) := by decide +kernel
theorem dX5_sheet_36 : decode cX5_sheet 36 = .ok (.iload_n 3, 1) := by decide +kernel
theorem dX5_sheet_37 : decode cX5_sheet 37 = .ok (.ifCond .ge 11, 3) := by decide +kernel
theorem dX5_sheet_40 : decode cX5_sheet 40 = .ok (.aload_n 0, 1) := by decide +kernel
theorem dX5_sheet_41 : decode cX5_sheet 41 = .ok (.ldc_w 349, 3) := by decide +kernel
theorem dX5_sheet_44 : decode cX5_sheet 44 = .ok (.invokevirtual 70, 3) := by decide +kernel
theorem dX5_sheet_47 : decode cX5_sheet 47 = .ok (.ireturn, 1) := by decide +kernel
theorem dX5_sheet_48 : decode cX5_sheet 48 = .ok (.iload_n 3, 1) := by decide +kernel
theorem dX5_sheet_49 : decode cX5_sheet 49 = .ok (.bipush 40, 2) := by decide +kernel
theorem dX5_sheet_51 : decode cX5_sheet 51 = .ok (.if_icmp .le 10, 3) := by decide +kernel
theorem dX5_sheet_54 : decode cX5_sheet 54 = .ok (.aload_n 0, 1) := by decide +kernel
theorem dX5_sheet_55 : decode cX5_sheet 55 = .ok (.ldc 50, 2) := by decide +kernel
theorem dX5_sheet_57 : decode cX5_sheet 57 = .ok (.invokevirtual 70, 3) := by decide +kernel
theorem dX5_sheet_60 : decode cX5_sheet 60 = .ok (.ireturn, 1) := by decide +kernel
theorem dX5_sheet_61 : decode cX5_sheet 61 = .ok (.aload_n 0, 1) := by decide +kernel
theorem dX5_sheet_62 : decode cX5_sheet 62 = .ok (.getfield 38, 3) := by decide +kernel
theorem dX5_sheet_65 : decode cX5_sheet 65 = .ok (.iload_n 1, 1) := by decide +kernel
theorem dX5_sheet_66 : decode cX5_sheet 66 = .ok (.iload_n 2, 1) := by decide +kernel
theorem dX5_sheet_67 : decode cX5_sheet 67 = .ok (.iastore, 1) := by decide +kernel
theorem dX5_sheet_68 : decode cX5_sheet 68 = .ok (.aload_n 0, 1) := by decide +kernel
theorem dX5_sheet_69 : decode cX5_sheet 69 = .ok (.getfield 41, 3) := by decide +kernel
theorem dX5_sheet_72 : decode cX5_sheet 72 = .ok (.iload_n 1, 1) := by decide +kernel
theorem dX5_sheet_73 : decode cX5_sheet 73 = .ok (.iload_n 2, 1) := by decide +kernel
theorem dX5_sheet_74 : decode cX5_sheet 74 = .ok (.ifCond .ne 7, 3) := by decide +kernel
theorem dX5_sheet_77 : decode cX5_sheet 77 = .ok (.iconst 0, 1) := by decide +kernel
theorem dX5_sheet_78 : decode cX5_sheet 78 = .ok (.goto 4, 3) := by decide +kernel
theorem dX5_sheet_81 : decode cX5_sheet 81 = .ok (.iload_n 3, 1) := by decide +kernel
theorem dX5_sheet_82 : decode cX5_sheet 82 = .ok (.iastore, 1) := by decide +kernel
theorem dX5_sheet_83 : decode cX5_sheet 83 = .ok (.iconst 0, 1) := by decide +kernel
theorem dX5_sheet_84 : decode cX5_sheet 84 = .ok (.istore 4, 2) := by decide +kernel
theorem dX5_sheet_86 : decode cX5_sheet 86 = .ok (.iload 4, 2) := by decide +kernel
theorem dX5_sheet_88 : decode cX5_sheet 88 = .ok (.bipush 40, 2) := by decide +kernel
theorem dX5_sheet_90 : decode cX5_sheet 90 = .ok (.if_icmp .ge 22, 3) := by decide +kernel
theorem dX5_sheet_93 : decode cX5_sheet 93 = .ok (.aload_n 0, 1) := by decide +kernel
theorem dX5_sheet_94 : decode cX5_sheet 94 = .ok (.getfield 44, 3) := by decide +kernel
theorem dX5_sheet_97 : decode cX5_sheet 97 = .ok (.bipush 40, 2) := by decide +kernel
theorem dX5_sheet_99 : decode cX5_sheet 99 = .ok (.iload_n 1, 1) := by decide +kernel
theorem dX5_sheet_100 : decode cX5_sheet 100 = .ok (.imul, 1) := by decide +kernel
theorem dX5_sheet_101 : decode cX5_sheet 101 = .ok (.iload 4, 2) := by decide +kernel
theorem dX5_sheet_103 : decode cX5_sheet 103 = .ok (.iadd, 1) := by decide +kernel
theorem dX5_sheet_104 : decode cX5_sheet 104 = .ok (.iconst 0, 1) := by decide +kernel
theorem dX5_sheet_105 : decode cX5_sheet 105 = .ok (.iastore, 1) := by decide +kernel
theorem dX5_sheet_106 : decode cX5_sheet 106 = .ok (.iinc 4 1, 3) := by decide +kernel
theorem dX5_sheet_109 : decode cX5_sheet 109 = .ok (.goto (-23), 3) := by decide +kernel
theorem dX5_sheet_112 : decode cX5_sheet 112 = .ok (.aload_n 0, 1) := by decide +kernel
theorem dX5_sheet_113 : decode cX5_sheet 113 = .ok (.getfield 41, 3) := by decide +kernel
theorem dX5_sheet_116 : decode cX5_sheet 116 = .ok (.iload_n 1, 1) := by decide +kernel
theorem dX5_sheet_117 : decode cX5_sheet 117 = .ok (.iaload, 1) := by decide +kernel
theorem dX5_sheet_118 : decode cX5_sheet 118 = .ok (.ireturn, 1) := by decide +kernel
theorem dX5_narrowed_0 : decode cX5_narrowed 0 = .ok (.iload_n 0, 1) := by decide +kernel
theorem dX5_narrowed_1 : decode cX5_narrowed 1 = .ok (.bipush 8, 2) := by decide +kernel
theorem dX5_narrowed_3 : decode cX5_narrowed 3 = .ok (.if_icmp .ne 8, 3) := by decide +kernel
theorem dX5_narrowed_6 : decode cX5_narrowed 6 = .ok (.iload_n 1, 1) := by decide +kernel
theorem dX5_narrowed_7 : decode cX5_narrowed 7 = .ok (.i2b, 1) := by decide +kernel
theorem dX5_narrowed_8 : decode cX5_narrowed 8 = .ok (.goto 15, 3) := by decide +kernel
theorem dX5_narrowed_11 : decode cX5_narrowed 11 = .ok (.iload_n 0, 1) := by decide +kernel
theorem dX5_narrowed_12 : decode cX5_narrowed 12 = .ok (.bipush 16, 2) := by decide +kernel
theorem dX5_narrowed_14 : decode cX5_narrowed 14 = .ok (.if_icmp .ne 8, 3) := by decide +kernel
theorem dX5_narrowed_17 : decode cX5_narrowed 17 = .ok (.iload_n 1, 1) := by decide +kernel
theorem dX5_narrowed_18 : decode cX5_narrowed 18 = .ok (.i2s, 1) := by decide +kernel
theorem dX5_narrowed_19 : decode cX5_narrowed 19 = .ok (.goto 4, 3) := by decide +kernel
theorem dX5_narrowed_22 : decode cX5_narrowed 22 = .ok (.iload_n 1, 1) := by decide +kernel
theorem dX5_narrowed_23 : decode cX5_narrowed 23 = .ok (.ireturn, 1) := by decide +kernel
theorem dX5_wrong_0 : decode cX5_wrong 0 = .ok (.iload_n 1, 1) := by decide +kernel
theorem dX5_wrong_1 : decode cX5_wrong 1 = .ok (.invokestatic 346, 3) := by decide +kernel
theorem dX5_wrong_4 : decode cX5_wrong 4 = .ok (.ifCond .ne 8, 3) := by decide +kernel
theorem dX5_wrong_7 : decode cX5_wrong 7 = .ok (.ldc 50, 2) := by decide +kernel
theorem dX5_wrong_9 : decode cX5_wrong 9 = .ok (.goto 19, 3) := by decide +kernel
theorem dX5_wrong_12 : decode cX5_wrong 12 = .ok (.aload_n 0, 1) := by decide +kernel
theorem dX5_wrong_13 : decode cX5_wrong 13 = .ok (.getfield 38, 3) := by decide +kernel
theorem dX5_wrong_16 : decode cX5_wrong 16 = .ok (.iload_n 1, 1) := by decide +kernel
theorem dX5_wrong_17 : decode cX5_wrong 17 = .ok (.iaload, 1) := by decide +kernel
theorem dX5_wrong_18 : decode cX5_wrong 18 = .ok (.ifCond .ne 9, 3) := by decide +kernel
theorem dX5_wrong_21 : decode cX5_wrong 21 = .ok (.ldc_w 341, 3) := by decide +kernel
theorem dX5_wrong_24 : decode cX5_wrong 24 = .ok (.goto 4, 3) := by decide +kernel
theorem dX5_wrong_27 : decode cX5_wrong 27 = .ok (.iconst 0, 1) := by decide +kernel
theorem dX5_wrong_28 : decode cX5_wrong 28 = .ok (.ireturn, 1) := by decide +kernel
theorem dX5_write_0 : decode cX5_write 0 = .ok (.aload_n 0, 1) := by decide +kernel
theorem dX5_write_1 : decode cX5_write 1 = .ok (.iload_n 1, 1) := by decide +kernel
theorem dX5_write_2 : decode cX5_write 2 = .ok (.invokevirtual 216, 3) := by decide +kernel
theorem dX5_write_5 : decode cX5_write 5 = .ok (.istore 4, 2) := by decide +kernel
theorem dX5_write_7 : decode cX5_write 7 = .ok (.iload 4, 2) := by decide +kernel
theorem dX5_write_9 : decode cX5_write 9 = .ok (.ifCond .eq 10, 3) := by decide +kernel
theorem dX5_write_12 : decode cX5_write 12 = .ok (.aload_n 0, 1) := by decide +kernel
theorem dX5_write_13 : decode cX5_write 13 = .ok (.iload 4, 2) := by decide +kernel
theorem dX5_write_15 : decode cX5_write 15 = .ok (.invokevirtual 70, 3) := by decide +kernel
theorem dX5_write_18 : decode cX5_write 18 = .ok (.ireturn, 1) := by decide +kernel
theorem dX5_write_19 : decode cX5_write 19 = .ok (.iload_n 2, 1) := by decide +kernel
theorem dX5_write_20 : decode cX5_write 20 = .ok (.i2l, 1) := by decide +kernel
theorem dX5_write_21 : decode cX5_write 21 = .ok (.lconst 0, 1) := by decide +kernel
theorem dX5_write_22 : decode cX5_write 22 = .ok (.aload_n 0, 1) := by decide +kernel
theorem dX5_write_23 : decode cX5_write 23 = .ok (.getfield 41, 3) := by decide +kernel
theorem dX5_write_26 : decode cX5_write 26 = .ok (.iload_n 1, 1) := by decide +kernel
theorem dX5_write_27 : decode cX5_write 27 = .ok (.iaload, 1) := by decide +kernel
theorem dX5_write_28 : decode cX5_write 28 = .ok (.iconst 1, 1) := by decide +kernel
theorem dX5_write_29 : decode cX5_write 29 = .ok (.isub, 1) := by decide +kernel
theorem dX5_write_30 : decode cX5_write 30 = .ok (.i2l, 1) := by decide +kernel
theorem dX5_write_31 : decode cX5_write 31 = .ok (.invokestatic 53, 3) := by decide +kernel
theorem dX5_write_34 : decode cX5_write 34 = .ok (.ifCond .ne 10, 3) := by decide +kernel
theorem dX5_write_37 : decode cX5_write 37 = .ok (.aload_n 0, 1) := by decide +kernel
theorem dX5_write_38 : decode cX5_write 38 = .ok (.ldc 50, 2) := by decide +kernel
theorem dX5_write_40 : decode cX5_write 40 = .ok (.invokevirtual 70, 3) := by decide +kernel
theorem dX5_write_43 : decode cX5_write 43 = .ok (.ireturn, 1) := by decide +kernel
theorem dX5_write_44 : decode cX5_write 44 = .ok (.aload_n 0, 1) := by decide +kernel
theorem dX5_write_45 : decode cX5_write 45 = .ok (.getfield 44, 3) := by decide +kernel
theorem dX5_write_48 : decode cX5_write 48 = .ok (.bipush 40, 2) := by decide +kernel
theorem dX5_write_50 : decode cX5_write 50 = .ok (.iload_n 1, 1) := by decide +kernel
theorem dX5_write_51 : decode cX5_write 51 = .ok (.imul, 1) := by decide +kernel
theorem dX5_write_52 : decode cX5_write 52 = .ok (.iload_n 2, 1) := by decide +kernel
theorem dX5_write_53 : decode cX5_write 53 = .ok (.iadd, 1) := by decide +kernel
theorem dX5_write_54 : decode cX5_write 54 = .ok (.aload_n 0, 1) := by decide +kernel
theorem dX5_write_55 : decode cX5_write 55 = .ok (.getfield 38, 3) := by decide +kernel
theorem dX5_write_58 : decode cX5_write 58 = .ok (.iload_n 1, 1) := by decide +kernel
theorem dX5_write_59 : decode cX5_write 59 = .ok (.iaload, 1) := by decide +kernel
theorem dX5_write_60 : decode cX5_write 60 = .ok (.iload_n 3, 1) := by decide +kernel
theorem dX5_write_61 : decode cX5_write 61 = .ok (.invokestatic 350, 3) := by decide +kernel
theorem dX5_write_64 : decode cX5_write 64 = .ok (.iastore, 1) := by decide +kernel
theorem dX5_write_65 : decode cX5_write 65 = .ok (.iconst 1, 1) := by decide +kernel
theorem dX5_write_66 : decode cX5_write 66 = .ok (.ireturn, 1) := by decide +kernel
theorem dX5_copy_0 : decode cX5_copy 0 = .ok (.iload_n 1, 1) := by decide +kernel
theorem dX5_copy_1 : decode cX5_copy 1 = .ok (.invokestatic 346, 3) := by decide +kernel
theorem dX5_copy_4 : decode cX5_copy 4 = .ok (.ifCond .eq 10, 3) := by decide +kernel
theorem dX5_copy_7 : decode cX5_copy 7 = .ok (.iload_n 3, 1) := by decide +kernel
theorem dX5_copy_8 : decode cX5_copy 8 = .ok (.invokestatic 346, 3) := by decide +kernel
theorem dX5_copy_11 : decode cX5_copy 11 = .ok (.ifCond .ne 10, 3) := by decide +kernel
theorem dX5_copy_14 : decode cX5_copy 14 = .ok (.aload_n 0, 1) := by decide +kernel
theorem dX5_copy_15 : decode cX5_copy 15 = .ok (.ldc 50, 2) := by decide +kernel
theorem dX5_copy_17 : decode cX5_copy 17 = .ok (.invokevirtual 70, 3) := by decide +kernel
theorem dX5_copy_20 : decode cX5_copy 20 = .ok (.ireturn, 1) := by decide +kernel
theorem dX5_copy_21 : decode cX5_copy 21 = .ok (.aload_n 0, 1) := by decide +kernel
theorem dX5_copy_22 : decode cX5_copy 22 = .ok (.getfield 38, 3) := by decide +kernel
theorem dX5_copy_25 : decode cX5_copy 25 = .ok (.iload_n 1, 1) := by decide +kernel
theorem dX5_copy_26 : decode cX5_copy 26 = .ok (.iaload, 1) := by decide +kernel
theorem dX5_copy_27 : decode cX5_copy 27 = .ok (.ifCond .eq 12, 3) := by decide +kernel
theorem dX5_copy_30 : decode cX5_copy 30 = .ok (.aload_n 0, 1) := by decide +kernel
theorem dX5_copy_31 : decode cX5_copy 31 = .ok (.getfield 38, 3) := by decide +kernel
theorem dX5_copy_34 : decode cX5_copy 34 = .ok (.iload_n 3, 1) := by decide +kernel
theorem dX5_copy_35 : decode cX5_copy 35 = .ok (.iaload, 1) := by decide +kernel
theorem dX5_copy_36 : decode cX5_copy 36 = .ok (.ifCond .ne 11, 3) := by decide +kernel
theorem dX5_copy_39 : decode cX5_copy 39 = .ok (.aload_n 0, 1) := by decide +kernel
theorem dX5_copy_40 : decode cX5_copy 40 = .ok (.ldc_w 341, 3) := by decide +kernel
theorem dX5_copy_43 : decode cX5_copy 43 = .ok (.invokevirtual 70, 3) := by decide +kernel
theorem dX5_copy_46 : decode cX5_copy 46 = .ok (.ireturn, 1) := by decide +kernel
theorem dX5_copy_47 : decode cX5_copy 47 = .ok (.aload_n 0, 1) := by decide +kernel
theorem dX5_copy_48 : decode cX5_copy 48 = .ok (.getfield 38, 3) := by decide +kernel
theorem dX5_copy_51 : decode cX5_copy 51 = .ok (.iload_n 1, 1) := by decide +kernel
theorem dX5_copy_52 : decode cX5_copy 52 = .ok (.iaload, 1) := by decide +kernel
theorem dX5_copy_53 : decode cX5_copy 53 = .ok (.aload_n 0, 1) := by decide +kernel
theorem dX5_copy_54 : decode cX5_copy 54 = .ok (.getfield 38, 3) := by decide +kernel
theorem dX5_copy_57 : decode cX5_copy 57 = .ok (.iload_n 3, 1) := by decide +kernel
theorem dX5_copy_58 : decode cX5_copy 58 = .ok (.iaload, 1) := by decide +kernel
theorem dX5_copy_59 : decode cX5_copy 59 = .ok (.if_icmp .eq 11, 3) := by decide +kernel
theorem dX5_copy_62 : decode cX5_copy 62 = .ok (.aload_n 0, 1) := by decide +kernel
theorem dX5_copy_63 : decode cX5_copy 63 = .ok (.ldc_w 345, 3) := by decide +kernel
theorem dX5_copy_66 : decode cX5_copy 66 = .ok (.invokevirtual 70, 3) := by decide +kernel
theorem dX5_copy_69 : decode cX5_copy 69 = .ok (.ireturn, 1) := by decide +kernel
theorem dX5_copy_70 : decode cX5_copy 70 = .ok (.iload_n 2, 1) := by decide +kernel
theorem dX5_copy_71 : decode cX5_copy 71 = .ok (.ifCond .lt 40, 3) := by decide +kernel
theorem dX5_copy_74 : decode cX5_copy 74 = .ok (.iload 4, 2) := by decide +kernel
theorem dX5_copy_76 : decode cX5_copy 76 = .ok (.ifCond .lt 35, 3) := by decide +kernel
theorem dX5_copy_79 : decode cX5_copy 79 = .ok (.iload 5, 2) := by decide +kernel
theorem dX5_copy_81 : decode cX5_copy 81 = .ok (.ifCond .lt 30, 3) := by decide +kernel
theorem dX5_copy_84 : decode cX5_copy 84 = .ok (.iload 5, 2) := by decide +kernel
theorem dX5_copy_86 : decode cX5_copy 86 = .ok (.aload_n 0, 1) := by decide +kernel
theorem dX5_copy_87 : decode cX5_copy 87 = .ok (.getfield 41, 3) := by decide +kernel
theorem dX5_copy_90 : decode cX5_copy 90 = .ok (.iload_n 1, 1) := by decide +kernel
theorem dX5_copy_91 : decode cX5_copy 91 = .ok (.iaload, 1) := by decide +kernel
theorem dX5_copy_92 : decode cX5_copy 92 = .ok (.iload_n 2, 1) := by decide +kernel
theorem dX5_copy_93 : decode cX5_copy 93 = .ok (.isub, 1) := by decide +kernel
theorem dX5_copy_94 : decode cX5_copy 94 = .ok (.if_icmp .gt 17, 3) := by decide +kernel
theorem dX5_copy_97 : decode cX5_copy 97 = .ok (.iload 5, 2) := by decide +kernel
theorem dX5_copy_99 : decode cX5_copy 99 = .ok (.aload_n 0, 1) := by decide +kernel
theorem dX5_copy_100 : decode cX5_copy 100 = .ok (.getfield 41, 3) := by decide +kernel
theorem dX5_copy_103 : decode cX5_copy 103 = .ok (.iload_n 3, 1) := by decide +kernel
theorem dX5_copy_104 : decode cX5_copy 104 = .ok (.iaload, 1) := by decide +kernel
theorem dX5_copy_105 : decode cX5_copy 105 = .ok (.iload 4, 2) := by decide +kernel
theorem dX5_copy_107 : decode cX5_copy 107 = .ok (.isub, 1) := by decide +kernel
theorem dX5_copy_108 : decode cX5_copy 108 = .ok (.if_icmp .le 10, 3) := by decide +kernel
theorem dX5_copy_111 : decode cX5_copy 111 = .ok (.aload_n 0, 1) := by decide +kernel
theorem dX5_copy_112 : decode cX5_copy 112 = .ok (.ldc 50, 2) := by decide +kernel
theorem dX5_copy_114 : decode cX5_copy 114 = .ok (.invokevirtual 70, 3) := by decide +kernel
theorem dX5_copy_117 : decode cX5_copy 117 = .ok (.ireturn, 1) := by decide +kernel
theorem dX5_copy_118 : decode cX5_copy 118 = .ok (.iconst 0, 1) := by decide +kernel
theorem dX5_copy_119 : decode cX5_copy 119 = .ok (.istore 6, 2) := by decide +kernel
theorem dX5_copy_121 : decode cX5_copy 121 = .ok (.iload 6, 2) := by decide +kernel
theorem dX5_copy_123 : decode cX5_copy 123 = .ok (.iload 5, 2) := by decide +kernel
theorem dX5_copy_125 : decode cX5_copy 125 = .ok (.if_icmp .ge 30, 3) := by decide +kernel
theorem dX5_copy_128 : decode cX5_copy 128 = .ok (.aload_n 0, 1) := by decide +kernel
theorem dX5_copy_129 : decode cX5_copy 129 = .ok (.getfield 47, 3) := by decide +kernel
theorem dX5_copy_132 : decode cX5_copy 132 = .ok (.iload 6, 2) := by decide +kernel
theorem dX5_copy_134 : decode cX5_copy 134 = .ok (.aload_n 0, 1) := by decide +kernel
theorem dX5_copy_135 : decode cX5_copy 135 = .ok (.getfield 44, 3) := by decide +kernel
theorem dX5_copy_138 : decode cX5_copy 138 = .ok (.bipush 40, 2) := by decide +kernel
theorem dX5_copy_140 : decode cX5_copy 140 = .ok (.iload_n 1, 1) := by decide +kernel
theorem dX5_copy_141 : decode cX5_copy 141 = .ok (.imul, 1) := by decide +kernel
theorem dX5_copy_142 : decode cX5_copy 142 = .ok (.iload_n 2, 1) := by decide +kernel
theorem dX5_copy_143 : decode cX5_copy 143 = .ok (.iadd, 1) := by decide +kernel
theorem dX5_copy_144 : decode cX5_copy 144 = .ok (.iload 6, 2) := by decide +kernel
theorem dX5_copy_146 : decode cX5_copy 146 = .ok (.iadd, 1) := by decide +kernel
theorem dX5_copy_147 : decode cX5_copy 147 = .ok (.iaload, 1) := by decide +kernel
theorem dX5_copy_148 : decode cX5_copy 148 = .ok (.iastore, 1) := by decide +kernel
theorem dX5_copy_149 : decode cX5_copy 149 = .ok (.iinc 6 1, 3) := by decide +kernel
theorem dX5_copy_152 : decode cX5_copy 152 = .ok (.goto (-31), 3) := by decide +kernel
theorem dX5_copy_155 : decode cX5_copy 155 = .ok (.iconst 0, 1) := by decide +kernel
theorem dX5_copy_156 : decode cX5_copy 156 = .ok (.istore 6, 2) := by decide +kernel
theorem dX5_copy_158 : decode cX5_copy 158 = .ok (.iload 6, 2) := by decide +kernel
theorem dX5_copy_160 : decode cX5_copy 160 = .ok (.iload 5, 2) := by decide +kernel
theorem dX5_copy_162 : decode cX5_copy 162 = .ok (.if_icmp .ge 31, 3) := by decide +kernel
theorem dX5_copy_165 : decode cX5_copy 165 = .ok (.aload_n 0, 1) := by decide +kernel
theorem dX5_copy_166 : decode cX5_copy 166 = .ok (.getfield 44, 3) := by decide +kernel
theorem dX5_copy_169 : decode cX5_copy 169 = .ok (.bipush 40, 2) := by decide +kernel
theorem dX5_copy_171 : decode cX5_copy 171 = .ok (.iload_n 3, 1) := by decide +kernel
theorem dX5_copy_172 : decode cX5_copy 172 = .ok (.imul, 1) := by decide +kernel
theorem dX5_copy_173 : decode cX5_copy 173 = .ok (.iload 4, 2) := by decide +kernel
theorem dX5_copy_175 : decode cX5_copy 175 = .ok (.iadd, 1) := by decide +kernel
theorem dX5_copy_176 : decode cX5_copy 176 = .ok (.iload 6, 2) := by decide +kernel
theorem dX5_copy_178 : decode cX5_copy 178 = .ok (.iadd, 1) := by decide +kernel
theorem dX5_copy_179 : decode cX5_copy 179 = .ok (.aload_n 0, 1) := by decide +kernel
theorem dX5_copy_180 : decode cX5_copy 180 = .ok (.getfield 47, 3) := by decide +kernel
theorem dX5_copy_183 : decode cX5_copy 183 = .ok (.iload 6, 2) := by decide +kernel
theorem dX5_copy_185 : decode cX5_copy 185 = .ok (.iaload, 1) := by decide +kernel
theorem dX5_copy_186 : decode cX5_copy 186 = .ok (.iastore, 1) := by decide +kernel
theorem dX5_copy_187 : decode cX5_copy 187 = .ok (.iinc 6 1, 3) := by decide +kernel
theorem dX5_copy_190 : decode cX5_copy 190 = .ok (.goto (-32), 3) := by decide +kernel
theorem dX5_copy_193 : decode cX5_copy 193 = .ok (.iload 5, 2) := by decide +kernel
theorem dX5_copy_195 : decode cX5_copy 195 = .ok (.ireturn, 1) := by decide +kernel
theorem dX5_load_0 : decode cX5_load 0 = .ok (.aload_n 0, 1) := by decide +kernel
theorem dX5_load_1 : decode cX5_load 1 = .ok (.iload_n 1, 1) := by decide +kernel
theorem dX5_load_2 : decode cX5_load 2 = .ok (.invokevirtual 216, 3) := by decide +kernel
theorem dX5_load_5 : decode cX5_load 5 = .ok (.istore_n 2, 1) := by decide +kernel
theorem dX5_load_6 : decode cX5_load 6 = .ok (.iload_n 2, 1) := by decide +kernel
theorem dX5_load_7 : decode cX5_load 7 = .ok (.ifCond .eq 9, 3) := by decide +kernel
theorem dX5_load_10 : decode cX5_load 10 = .ok (.aload_n 0, 1) := by decide +kernel
theorem dX5_load_11 : decode cX5_load 11 = .ok (.iload_n 2, 1) := by decide +kernel
theorem dX5_load_12 : decode cX5_load 12 = .ok (.invokevirtual 70, 3) := by decide +kernel
theorem dX5_load_15 : decode cX5_load 15 = .ok (.ireturn, 1) := by decide +kernel
theorem dX5_load_16 : decode cX5_load 16 = .ok (.iconst 0, 1) := by decide +kernel
theorem dX5_load_17 : decode cX5_load 17 = .ok (.istore_n 3, 1) := by decide +kernel
theorem dX5_load_18 : decode cX5_load 18 = .ok (.iload_n 3, 1) := by decide +kernel
theorem dX5_load_19 : decode cX5_load 19 = .ok (.aload_n 0, 1) := by decide +kernel
theorem dX5_load_20 : decode cX5_load 20 = .ok (.getfield 41, 3) := by decide +kernel
theorem dX5_load_23 : decode cX5_load 23 = .ok (.iload_n 1, 1) := by decide +kernel
theorem dX5_load_24 : decode cX5_load 24 = .ok (.iaload, 1) := by decide +kernel
theorem dX5_load_25 : decode cX5_load 25 = .ok (.if_icmp .ge 56, 3) := by decide +kernel
theorem dX5_load_28 : decode cX5_load 28 = .ok (.iload_n 3, 1) := by decide +kernel
theorem dX5_load_29 : decode cX5_load 29 = .ok (.bipush 12, 2) := by decide +kernel
theorem dX5_load_31 : decode cX5_load 31 = .ok (.if_icmp .ge 50, 3) := by decide +kernel
theorem dX5_load_34 : decode cX5_load 34 = .ok (.aload_n 0, 1) := by decide +kernel
theorem dX5_load_35 : decode cX5_load 35 = .ok (.getfield 44, 3) := by decide +kernel
theorem dX5_load_38 : decode cX5_load 38 = .ok (.bipush 40, 2) := by decide +kernel
theorem dX5_load_40 : decode cX5_load 40 = .ok (.iload_n 1, 1) := by decide +kernel
theorem dX5_load_41 : decode cX5_load 41 = .ok (.imul, 1) := by decide +kernel
theorem dX5_load_42 : decode cX5_load 42 = .ok (.iload_n 3, 1) := by decide +kernel
theorem dX5_load_43 : decode cX5_load 43 = .ok (.iadd, 1) := by decide +kernel
theorem dX5_load_44 : decode cX5_load 44 = .ok (.iaload, 1) := by decide +kernel
theorem dX5_load_45 : decode cX5_load 45 = .ok (.i2l, 1) := by decide +kernel
theorem dX5_load_46 : decode cX5_load 46 = .ok (.lconst 0, 1) := by decide +kernel
theorem dX5_load_47 : decode cX5_load 47 = .ok (.ldc2_w 65, 3) := by decide +kernel
theorem dX5_load_50 : decode cX5_load 50 = .ok (.invokestatic 53, 3) := by decide +kernel
theorem dX5_load_53 : decode cX5_load 53 = .ok (.ifCond .eq 28, 3) := by decide +kernel
theorem dX5_load_56 : decode cX5_load 56 = .ok (.aload_n 0, 1) := by decide +kernel
theorem dX5_load_57 : decode cX5_load 57 = .ok (.getfield 7, 3) := by decide +kernel
theorem dX5_load_60 : decode cX5_load 60 = .ok (.iconst 5, 1) := by decide +kernel
theorem dX5_load_61 : decode cX5_load 61 = .ok (.iload_n 3, 1) := by decide +kernel
theorem dX5_load_62 : decode cX5_load 62 = .ok (.iadd, 1) := by decide +kernel
theorem dX5_load_63 : decode cX5_load 63 = .ok (.aload_n 0, 1) := by decide +kernel
theorem dX5_load_64 : decode cX5_load 64 = .ok (.getfield 44, 3) := by decide +kernel
theorem dX5_load_67 : decode cX5_load 67 = .ok (.bipush 40, 2) := by decide +kernel
theorem dX5_load_69 : decode cX5_load 69 = .ok (.iload_n 1, 1) := by decide +kernel
theorem dX5_load_70 : decode cX5_load 70 = .ok (.imul, 1) := by decide +kernel
theorem dX5_load_71 : decode cX5_load 71 = .ok (.iload_n 3, 1) := by decide +kernel
theorem dX5_load_72 : decode cX5_load 72 = .ok (.iadd, 1) := by decide +kernel
theorem dX5_load_73 : decode cX5_load 73 = .ok (.iaload, 1) := by decide +kernel
theorem dX5_load_74 : decode cX5_load 74 = .ok (.iastore, 1) := by decide +kernel
theorem dX5_load_75 : decode cX5_load 75 = .ok (.iinc 3 1, 3) := by decide +kernel
theorem dX5_load_78 : decode cX5_load 78 = .ok (.goto (-60), 3) := by decide +kernel
theorem dX5_load_81 : decode cX5_load 81 = .ok (.iload_n 3, 1) := by decide +kernel
theorem dX5_load_82 : decode cX5_load 82 = .ok (.ireturn, 1) := by decide +kernel
theorem dX5_judge_0 : decode cX5_judge 0 = .ok (.aload_n 0, 1) := by decide +kernel
theorem dX5_judge_1 : decode cX5_judge 1 = .ok (.iload_n 1, 1) := by decide +kernel
theorem dX5_judge_2 : decode cX5_judge 2 = .ok (.invokevirtual 216, 3) := by decide +kernel
theorem dX5_judge_5 : decode cX5_judge 5 = .ok (.istore_n 2, 1) := by decide +kernel
theorem dX5_judge_6 : decode cX5_judge 6 = .ok (.iload_n 2, 1) := by decide +kernel
theorem dX5_judge_7 : decode cX5_judge 7 = .ok (.ifCond .eq 9, 3) := by decide +kernel
theorem dX5_judge_10 : decode cX5_judge 10 = .ok (.aload_n 0, 1) := by decide +kernel
theorem dX5_judge_11 : decode cX5_judge 11 = .ok (.iload_n 2, 1) := by decide +kernel
theorem dX5_judge_12 : decode cX5_judge 12 = .ok (.invokevirtual 70, 3) := by decide +kernel
theorem dX5_judge_15 : decode cX5_judge 15 = .ok (.ireturn, 1) := by decide +kernel
theorem dX5_judge_16 : decode cX5_judge 16 = .ok (.iconst 0, 1) := by decide +kernel
theorem dX5_judge_17 : decode cX5_judge 17 = .ok (.istore_n 3, 1) := by decide +kernel
theorem dX5_judge_18 : decode cX5_judge 18 = .ok (.iload_n 3, 1) := by decide +kernel
theorem dX5_judge_19 : decode cX5_judge 19 = .ok (.aload_n 0, 1) := by decide +kernel
theorem dX5_judge_20 : decode cX5_judge 20 = .ok (.getfield 41, 3) := by decide +kernel
theorem dX5_judge_23 : decode cX5_judge 23 = .ok (.iload_n 1, 1) := by decide +kernel
theorem dX5_judge_24 : decode cX5_judge 24 = .ok (.iaload, 1) := by decide +kernel
theorem dX5_judge_25 : decode cX5_judge 25 = .ok (.if_icmp .ge 38, 3) := by decide +kernel
theorem dX5_judge_28 : decode cX5_judge 28 = .ok (.iload_n 3, 1) := by decide +kernel
theorem dX5_judge_29 : decode cX5_judge 29 = .ok (.bipush 12, 2) := by decide +kernel
theorem dX5_judge_31 : decode cX5_judge 31 = .ok (.if_icmp .ge 22, 3) := by decide +kernel
theorem dX5_judge_34 : decode cX5_judge 34 = .ok (.aload_n 0, 1) := by decide +kernel
theorem dX5_judge_35 : decode cX5_judge 35 = .ok (.getfield 44, 3) := by decide +kernel
theorem dX5_judge_38 : decode cX5_judge 38 = .ok (.bipush 40, 2) := by decide +kernel
theorem dX5_judge_40 : decode cX5_judge 40 = .ok (.iload_n 1, 1) := by decide +kernel
theorem dX5_judge_41 : decode cX5_judge 41 = .ok (.imul, 1) := by decide +kernel
theorem dX5_judge_42 : decode cX5_judge 42 = .ok (.iload_n 3, 1) := by decide +kernel
theorem dX5_judge_43 : decode cX5_judge 43 = .ok (.iadd, 1) := by decide +kernel
theorem dX5_judge_44 : decode cX5_judge 44 = .ok (.iaload, 1) := by decide +kernel
theorem dX5_judge_45 : decode cX5_judge 45 = .ok (.aload_n 0, 1) := by decide +kernel
theorem dX5_judge_46 : decode cX5_judge 46 = .ok (.iload_n 3, 1) := by decide +kernel
theorem dX5_judge_47 : decode cX5_judge 47 = .ok (.invokevirtual 82, 3) := by decide +kernel
theorem dX5_judge_50 : decode cX5_judge 50 = .ok (.if_icmp .eq 7, 3) := by decide +kernel
theorem dX5_judge_53 : decode cX5_judge 53 = .ok (.iconst 1, 1) := by decide +kernel
theorem dX5_judge_54 : decode cX5_judge 54 = .ok (.iload_n 3, 1) := by decide +kernel
theorem dX5_judge_55 : decode cX5_judge 55 = .ok (.iadd, 1) := by decide +kernel
theorem dX5_judge_56 : decode cX5_judge 56 = .ok (.ireturn, 1) := by decide +kernel
theorem dX5_judge_57 : decode cX5_judge 57 = .ok (.iinc 3 1, 3) := by decide +kernel
theorem dX5_judge_60 : decode cX5_judge 60 = .ok (.goto (-42), 3) := by decide +kernel
theorem dX5_judge_63 : decode cX5_judge 63 = .ok (.iconst 0, 1) := by decide +kernel
theorem dX5_judge_64 : decode cX5_judge 64 = .ok (.ireturn, 1) := by decide +kernel
theorem dX5_image_0 : decode cX5_image 0 = .ok (.iconst 0, 1) := by decide +kernel
theorem dX5_image_1 : decode cX5_image 1 = .ok (.istore_n 1, 1) := by decide +kernel
theorem dX5_image_2 : decode cX5_image 2 = .ok (.iload_n 1, 1) := by decide +kernel
theorem dX5_image_3 : decode cX5_image 3 = .ok (.sipush 147, 3) := by decide +kernel
theorem dX5_image_6 : decode cX5_image 6 = .ok (.if_icmp .ge 21, 3) := by decide +kernel
theorem dX5_image_9 : decode cX5_image 9 = .ok (.aload_n 0, 1) := by decide +kernel
theorem dX5_image_10 : decode cX5_image 10 = .ok (.getfield 13, 3) := by decide +kernel
theorem dX5_image_13 : decode cX5_image 13 = .ok (.iload_n 1, 1) := by decide +kernel
theorem dX5_image_14 : decode cX5_image 14 = .ok (.aload_n 0, 1) := by decide +kernel
theorem dX5_image_15 : decode cX5_image 15 = .ok (.getfield 7, 3) := by decide +kernel
theorem dX5_image_18 : decode cX5_image 18 = .ok (.iload_n 1, 1) := by decide +kernel
theorem dX5_image_19 : decode cX5_image 19 = .ok (.iaload, 1) := by decide +kernel
theorem dX5_image_20 : decode cX5_image 20 = .ok (.iastore, 1) := by decide +kernel
theorem dX5_image_21 : decode cX5_image 21 = .ok (.iinc 1 1, 3) := by decide +kernel
theorem dX5_image_24 : decode cX5_image 24 = .ok (.goto (-22), 3) := by decide +kernel
theorem dX5_image_27 : decode cX5_image 27 = .ok (.aload_n 0, 1) := by decide +kernel
theorem dX5_image_28 : decode cX5_image 28 = .ok (.iconst 1, 1) := by decide +kernel
theorem dX5_image_29 : decode cX5_image 29 = .ok (.putfield 353, 3) := by decide +kernel
theorem dX5_image_32 : decode cX5_image 32 = .ok (.iconst 1, 1) := by decide +kernel
theorem dX5_image_33 : decode cX5_image 33 = .ok (.ireturn, 1) := by decide +kernel
theorem dX5_undo_0 : decode cX5_undo 0 = .ok (.aload_n 0, 1) := by decide +kernel
theorem dX5_undo_1 : decode cX5_undo 1 = .ok (.getfield 353, 3) := by decide +kernel
theorem dX5_undo_4 : decode cX5_undo 4 = .ok (.ifCond .ne 10, 3) := by decide +kernel
theorem dX5_undo_7 : decode cX5_undo 7 = .ok (.aload_n 0, 1) := by decide +kernel
theorem dX5_undo_8 : decode cX5_undo 8 = .ok (.ldc 186, 2) := by decide +kernel
theorem dX5_undo_10 : decode cX5_undo 10 = .ok (.invokevirtual 70, 3) := by decide +kernel
theorem dX5_undo_13 : decode cX5_undo 13 = .ok (.ireturn, 1) := by decide +kernel
theorem dX5_undo_14 : decode cX5_undo 14 = .ok (.iconst 0, 1) := by decide +kernel
theorem dX5_undo_15 : decode cX5_undo 15 = .ok (.istore_n 1, 1) := by decide +kernel
theorem dX5_undo_16 : decode cX5_undo 16 = .ok (.iload_n 1, 1) := by decide +kernel
theorem dX5_undo_17 : decode cX5_undo 17 = .ok (.sipush 147, 3) := by decide +kernel
theorem dX5_undo_20 : decode cX5_undo 20 = .ok (.if_icmp .ge 21, 3) := by decide +kernel
theorem dX5_undo_23 : decode cX5_undo 23 = .ok (.aload_n 0, 1) := by decide +kernel
theorem dX5_undo_24 : decode cX5_undo 24 = .ok (.getfield 7, 3) := by decide +kernel
theorem dX5_undo_27 : decode cX5_undo 27 = .ok (.iload_n 1, 1) := by decide +kernel
theorem dX5_undo_28 : decode cX5_undo 28 = .ok (.aload_n 0, 1) := by decide +kernel
theorem dX5_undo_29 : decode cX5_undo 29 = .ok (.getfield 13, 3) := by decide +kernel
theorem dX5_undo_32 : decode cX5_undo 32 = .ok (.iload_n 1, 1) := by decide +kernel
theorem dX5_undo_33 : decode cX5_undo 33 = .ok (.iaload, 1) := by decide +kernel
theorem dX5_undo_34 : decode cX5_undo 34 = .ok (.iastore, 1) := by decide +kernel
theorem dX5_undo_35 : decode cX5_undo 35 = .ok (.iinc 1 1, 3) := by decide +kernel
theorem dX5_undo_38 : decode cX5_undo 38 = .ok (.goto (-22), 3) := by decide +kernel
theorem dX5_undo_41 : decode cX5_undo 41 = .ok (.aload_n 0, 1) := by decide +kernel
theorem dX5_undo_42 : decode cX5_undo 42 = .ok (.getfield 7, 3) := by decide +kernel
theorem dX5_undo_45 : decode cX5_undo 45 = .ok (.iconst 0, 1) := by decide +kernel
theorem dX5_undo_46 : decode cX5_undo 46 = .ok (.iaload, 1) := by decide +kernel
theorem dX5_undo_47 : decode cX5_undo 47 = .ok (.ireturn, 1) := by decide +kernel
theorem dX5_tear_0 : decode cX5_tear 0 = .ok (.aload_n 0, 1) := by decide +kernel
theorem dX5_tear_1 : decode cX5_tear 1 = .ok (.getfield 353, 3) := by decide +kernel
theorem dX5_tear_4 : decode cX5_tear 4 = .ok (.ifCond .eq 7, 3) := by decide +kernel
theorem dX5_tear_7 : decode cX5_tear 7 = .ok (.iconst 1, 1) := by decide +kernel
theorem dX5_tear_8 : decode cX5_tear 8 = .ok (.goto 4, 3) := by decide +kernel
theorem dX5_tear_11 : decode cX5_tear 11 = .ok (.iconst 0, 1) := by decide +kernel
theorem dX5_tear_12 : decode cX5_tear 12 = .ok (.istore_n 1, 1) := by decide +kernel
theorem dX5_tear_13 : decode cX5_tear 13 = .ok (.aload_n 0, 1) := by decide +kernel
theorem dX5_tear_14 : decode cX5_tear 14 = .ok (.iconst 0, 1) := by decide +kernel
theorem dX5_tear_15 : decode cX5_tear 15 = .ok (.putfield 353, 3) := by decide +kernel
theorem dX5_tear_18 : decode cX5_tear 18 = .ok (.iload_n 1, 1) := by decide +kernel
theorem dX5_tear_19 : decode cX5_tear 19 = .ok (.ireturn, 1) := by decide +kernel
theorem dX5_heldSpots_0 : decode cX5_heldSpots 0 = .ok (.iconst 0, 1) := by decide +kernel
theorem dX5_heldSpots_1 : decode cX5_heldSpots 1 = .ok (.istore_n 1, 1) := by decide +kernel
theorem dX5_heldSpots_2 : decode cX5_heldSpots 2 = .ok (.iconst 0, 1) := by decide +kernel
theorem dX5_heldSpots_3 : decode cX5_heldSpots 3 = .ok (.istore_n 2, 1) := by decide +kernel
theorem dX5_heldSpots_4 : decode cX5_heldSpots 4 = .ok (.iload_n 2, 1) := by decide +kernel
theorem dX5_heldSpots_5 : decode cX5_heldSpots 5 = .ok (.bipush 10, 2) := by decide +kernel
theorem dX5_heldSpots_7 : decode cX5_heldSpots 7 = .ok (.if_icmp .ge 30, 3) := by decide +kernel
theorem dX5_heldSpots_10 : decode cX5_heldSpots 10 = .ok (.iload_n 1, 1) := by decide +kernel
theorem dX5_heldSpots_11 : decode cX5_heldSpots 11 = .ok (.aload_n 0, 1) := by decide +kernel
theorem dX5_heldSpots_12 : decode cX5_heldSpots 12 = .ok (.getfield 7, 3) := by decide +kernel
theorem dX5_heldSpots_15 : decode cX5_heldSpots 15 = .ok (.sipush 137, 3) := by decide +kernel
theorem dX5_heldSpots_18 : decode cX5_heldSpots 18 = .ok (.iload_n 2, 1) := by decide +kernel
theorem dX5_heldSpots_19 : decode cX5_heldSpots 19 = .ok (.iadd, 1) := by decide +kernel
theorem dX5_heldSpots_20 : decode cX5_heldSpots 20 = .ok (.iaload, 1) := by decide +kernel
theorem dX5_heldSpots_21 : decode cX5_heldSpots 21 = .ok (.ifCond .lt 7, 3) := by decide +kernel
theorem dX5_heldSpots_24 : decode cX5_heldSpots 24 = .ok (.iconst 1, 1) := by decide +kernel
theorem dX5_heldSpots_25 : decode cX5_heldSpots 25 = .ok (.goto 4, 3) := by decide +kernel
theorem dX5_heldSpots_28 : decode cX5_heldSpots 28 = .ok (.iconst 0, 1) := by decide +kernel
theorem dX5_heldSpots_29 : decode cX5_heldSpots 29 = .ok (.iadd, 1) := by decide +kernel
theorem dX5_heldSpots_30 : decode cX5_heldSpots 30 = .ok (.istore_n 1, 1) := by decide +kernel
theorem dX5_heldSpots_31 : decode cX5_heldSpots 31 = .ok (.iinc 2 1, 3) := by decide +kernel
theorem dX5_heldSpots_34 : decode cX5_heldSpots 34 = .ok (.goto (-30), 3) := by decide +kernel
theorem dX5_heldSpots_37 : decode cX5_heldSpots 37 = .ok (.iload_n 1, 1) := by decide +kernel
theorem dX5_heldSpots_38 : decode cX5_heldSpots 38 = .ok (.ireturn, 1) := by decide +kernel
theorem dX5_count_0 : decode cX5_count 0 = .ok (.iload_n 1, 1) := by decide +kernel
theorem dX5_count_1 : decode cX5_count 1 = .ok (.tableswitch 96 0 7 #[47, 54, 61, 69, 74, 79, 84, 91], 47) := by decide +kernel
theorem dX5_count_48 : decode cX5_count 48 = .ok (.aload_n 0, 1) := by decide +kernel
theorem dX5_count_49 : decode cX5_count 49 = .ok (.getfield 7, 3) := by decide +kernel
theorem dX5_count_52 : decode cX5_count 52 = .ok (.iconst 0, 1) := by decide +kernel
theorem dX5_count_53 : decode cX5_count 53 = .ok (.iaload, 1) := by decide +kernel
theorem dX5_count_54 : decode cX5_count 54 = .ok (.ireturn, 1) := by decide +kernel
theorem dX5_count_55 : decode cX5_count 55 = .ok (.aload_n 0, 1) := by decide +kernel
theorem dX5_count_56 : decode cX5_count 56 = .ok (.getfield 7, 3) := by decide +kernel
theorem dX5_count_59 : decode cX5_count 59 = .ok (.iconst 1, 1) := by decide +kernel
theorem dX5_count_60 : decode cX5_count 60 = .ok (.iaload, 1) := by decide +kernel
theorem dX5_count_61 : decode cX5_count 61 = .ok (.ireturn, 1) := by decide +kernel
theorem dX5_count_62 : decode cX5_count 62 = .ok (.aload_n 0, 1) := by decide +kernel
theorem dX5_count_63 : decode cX5_count 63 = .ok (.invokevirtual 163, 3) := by decide +kernel
theorem dX5_count_66 : decode cX5_count 66 = .ok (.invokestatic 206, 3) := by decide +kernel
theorem dX5_count_69 : decode cX5_count 69 = .ok (.ireturn, 1) := by decide +kernel
theorem dX5_count_70 : decode cX5_count 70 = .ok (.aload_n 0, 1) := by decide +kernel
theorem dX5_count_71 : decode cX5_count 71 = .ok (.invokevirtual 156, 3) := by decide +kernel
theorem dX5_count_74 : decode cX5_count 74 = .ok (.ireturn, 1) := by decide +kernel
theorem dX5_count_75 : decode cX5_count 75 = .ok (.aload_n 0, 1) := by decide +kernel
theorem dX5_count_76 : decode cX5_count 76 = .ok (.invokevirtual 160, 3) := by decide +kernel
theorem dX5_count_79 : decode cX5_count 79 = .ok (.ireturn, 1) := by decide +kernel
theorem dX5_count_80 : decode cX5_count 80 = .ok (.aload_n 0, 1) := by decide +kernel
theorem dX5_count_81 : decode cX5_count 81 = .ok (.getfield 234, 3) := by decide +kernel
theorem dX5_count_84 : decode cX5_count 84 = .ok (.ireturn, 1) := by decide +kernel
theorem dX5_count_85 : decode cX5_count 85 = .ok (.aload_n 0, 1) := by decide +kernel
theorem dX5_count_86 : decode cX5_count 86 = .ok (.getfield 7, 3) := by decide +kernel
theorem dX5_count_89 : decode cX5_count 89 = .ok (.iconst 4, 1) := by decide +kernel
theorem dX5_count_90 : decode cX5_count 90 = .ok (.iaload, 1) := by decide +kernel
theorem dX5_count_91 : decode cX5_count 91 = .ok (.ireturn, 1) := by decide +kernel
theorem dX5_count_92 : decode cX5_count 92 = .ok (.aload_n 0, 1) := by decide +kernel
theorem dX5_count_93 : decode cX5_count 93 = .ok (.invokevirtual 356, 3) := by decide +kernel
theorem dX5_count_96 : decode cX5_count 96 = .ok (.ireturn, 1) := by decide +kernel
theorem dX5_count_97 : decode cX5_count 97 = .ok (.aload_n 0, 1) := by decide +kernel
theorem dX5_count_98 : decode cX5_count 98 = .ok (.ldc 50, 2) := by decide +kernel
theorem dX5_count_100 : decode cX5_count 100 = .ok (.invokevirtual 70, 3) := by decide +kernel
theorem dX5_count_103 : decode cX5_count 103 = .ok (.ireturn, 1) := by decide +kernel
theorem dX5_status_0 : decode cX5_status 0 = .ok (.iload_n 1, 1) := by decide +kernel
theorem dX5_status_1 : decode cX5_status 1 = .ok (.i2l, 1) := by decide +kernel
theorem dX5_status_2 : decode cX5_status 2 = .ok (.ldc2_w 359, 3) := by decide +kernel
theorem dX5_status_5 : decode cX5_status 5 = .ok (.ldc2_w 92, 3) := by decide +kernel
theorem dX5_status_8 : decode cX5_status 8 = .ok (.invokestatic 53, 3) := by decide +kernel
theorem dX5_status_11 : decode cX5_status 11 = .ok (.ifCond .ne 10, 3) := by decide +kernel
theorem dX5_status_14 : decode cX5_status 14 = .ok (.aload_n 0, 1) := by decide +kernel
theorem dX5_status_15 : decode cX5_status 15 = .ok (.ldc 50, 2) := by decide +kernel
theorem dX5_status_17 : decode cX5_status 17 = .ok (.invokevirtual 70, 3) := by decide +kernel
theorem dX5_status_20 : decode cX5_status 20 = .ok (.ireturn, 1) := by decide +kernel
theorem dX5_status_21 : decode cX5_status 21 = .ok (.iconst 0, 1) := by decide +kernel
theorem dX5_status_22 : decode cX5_status 22 = .ok (.istore_n 2, 1) := by decide +kernel
theorem dX5_status_23 : decode cX5_status 23 = .ok (.iconst 0, 1) := by decide +kernel
theorem dX5_status_24 : decode cX5_status 24 = .ok (.istore_n 3, 1) := by decide +kernel
theorem dX5_status_25 : decode cX5_status 25 = .ok (.iload_n 3, 1) := by decide +kernel
theorem dX5_status_26 : decode cX5_status 26 = .ok (.bipush 7, 2) := by decide +kernel
theorem dX5_status_28 : decode cX5_status 28 = .ok (.if_icmp .ge 31, 3) := by decide +kernel
theorem dX5_status_31 : decode cX5_status 31 = .ok (.iload_n 2, 1) := by decide +kernel
theorem dX5_status_32 : decode cX5_status 32 = .ok (.iload_n 1, 1) := by decide +kernel
theorem dX5_status_33 : decode cX5_status 33 = .ok (.ifCond .lt 8, 3) := by decide +kernel
theorem dX5_status_36 : decode cX5_status 36 = .ok (.iload_n 3, 1) := by decide +kernel
theorem dX5_status_37 : decode cX5_status 37 = .ok (.iload_n 1, 1) := by decide +kernel
theorem dX5_status_38 : decode cX5_status 38 = .ok (.if_icmp .ne 12, 3) := by decide +kernel
theorem dX5_status_41 : decode cX5_status 41 = .ok (.aload_n 0, 1) := by decide +kernel
theorem dX5_status_42 : decode cX5_status 42 = .ok (.getfield 22, 3) := by decide +kernel
theorem dX5_status_45 : decode cX5_status 45 = .ok (.iload_n 3, 1) := by decide +kernel
theorem dX5_status_46 : decode cX5_status 46 = .ok (.iaload, 1) := by decide +kernel
theorem dX5_status_47 : decode cX5_status 47 = .ok (.goto 4, 3) := by decide +kernel
theorem dX5_status_50 : decode cX5_status 50 = .ok (.iconst 0, 1) := by decide +kernel
theorem dX5_status_51 : decode cX5_status 51 = .ok (.iadd, 1) := by decide +kernel
theorem dX5_status_52 : decode cX5_status 52 = .ok (.istore_n 2, 1) := by decide +kernel
theorem dX5_status_53 : decode cX5_status 53 = .ok (.iinc 3 1, 3) := by decide +kernel
theorem dX5_status_56 : decode cX5_status 56 = .ok (.goto (-31), 3) := by decide +kernel
theorem dX5_status_59 : decode cX5_status 59 = .ok (.iload_n 2, 1) := by decide +kernel
theorem dX5_status_60 : decode cX5_status 60 = .ok (.ireturn, 1) := by decide +kernel
