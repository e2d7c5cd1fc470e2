theorem dX11_init_0 : decode cX11_init 0 = .ok (.aload_n 0, 1) := by decide +kernel
theorem dX11_init_1 : decode cX11_init 1 = .ok (.invokespecial 1, 3) := by decide +kernel
theorem dX11_init_4 : decode cX11_init 4 = .ok (.aload_n 0, 1) := by decide +kernel
theorem dX11_init_5 : decode cX11_init 5 = .ok (.bipush 51, 2) := by decide +kernel
theorem dX11_init_7 : decode cX11_init 7 = .ok (.newarray .int, 2) := by decide +kernel
theorem dX11_init_9 : decode cX11_init 9 = .ok (.putfield 7, 3) := by decide +kernel
theorem dX11_init_12 : decode cX11_init 12 = .ok (.aload_n 0, 1) := by decide +kernel
theorem dX11_init_13 : decode cX11_init 13 = .ok (.bipush 51, 2) := by decide +kernel
theorem dX11_init_15 : decode cX11_init 15 = .ok (.newarray .int, 2) := by decide +kernel
theorem dX11_init_17 : decode cX11_init 17 = .ok (.putfield 13, 3) := by decide +kernel
theorem dX11_init_20 : decode cX11_init 20 = .ok (.aload_n 0, 1) := by decide +kernel
theorem dX11_init_21 : decode cX11_init 21 = .ok (.bipush 51, 2) := by decide +kernel
theorem dX11_init_23 : decode cX11_init 23 = .ok (.newarray .int, 2) := by decide +kernel
theorem dX11_init_25 : decode cX11_init 25 = .ok (.putfield 16, 3) := by decide +kernel
theorem dX11_init_28 : decode cX11_init 28 = .ok (.aload_n 0, 1) := by decide +kernel
theorem dX11_init_29 : decode cX11_init 29 = .ok (.bipush 51, 2) := by decide +kernel
theorem dX11_init_31 : decode cX11_init 31 = .ok (.newarray .int, 2) := by decide +kernel
theorem dX11_init_33 : decode cX11_init 33 = .ok (.putfield 19, 3) := by decide +kernel
theorem dX11_init_36 : decode cX11_init 36 = .ok (.aload_n 0, 1) := by decide +kernel
theorem dX11_init_37 : decode cX11_init 37 = .ok (.bipush 7, 2) := by decide +kernel
theorem dX11_init_39 : decode cX11_init 39 = .ok (.newarray .int, 2) := by decide +kernel
theorem dX11_init_41 : decode cX11_init 41 = .ok (.putfield 22, 3) := by decide +kernel
theorem dX11_init_44 : decode cX11_init 44 = .ok (.aload_n 0, 1) := by decide +kernel
theorem dX11_init_45 : decode cX11_init 45 = .ok (.bipush 8, 2) := by decide +kernel
theorem dX11_init_47 : decode cX11_init 47 = .ok (.newarray .int, 2) := by decide +kernel
theorem dX11_init_49 : decode cX11_init 49 = .ok (.putfield 25, 3) := by decide +kernel
theorem dX11_init_52 : decode cX11_init 52 = .ok (.aload_n 0, 1) := by decide +kernel
theorem dX11_init_53 : decode cX11_init 53 = .ok (.bipush 120, 2) := by decide +kernel
theorem dX11_init_55 : decode cX11_init 55 = .ok (.newarray .int, 2) := by decide +kernel
theorem dX11_init_57 : decode cX11_init 57 = .ok (.putfield 28, 3) := by decide +kernel
theorem dX11_init_60 : decode cX11_init 60 = .ok (.aload_n 0, 1) := by decide +kernel
theorem dX11_init_61 : decode cX11_init 61 = .ok (.iconst 4, 1) := by decide +kernel
theorem dX11_init_62 : decode cX11_init 62 = .ok (.newarray .int, 2) := by decide +kernel
theorem dX11_init_64 : decode cX11_init 64 = .ok (.putfield 31, 3) := by decide +kernel
theorem dX11_init_67 : decode cX11_init 67 = .ok (.aload_n 0, 1) := by decide +kernel
theorem dX11_init_68 : decode cX11_init 68 = .ok (.iconst 4, 1) := by decide +kernel
theorem dX11_init_69 : decode cX11_init 69 = .ok (.newarray .int, 2) := by decide +kernel
theorem dX11_init_71 : decode cX11_init 71 = .ok (.putfield 34, 3) := by decide +kernel
theorem dX11_init_74 : decode cX11_init 74 = .ok (.aload_n 0, 1) := by decide +kernel
theorem dX11_init_75 : decode cX11_init 75 = .ok (.sipush 160, 3) := by decide +kernel
theorem dX11_init_78 : decode cX11_init 78 = .ok (.newarray .long, 2) := by decide +kernel
theorem dX11_init_80 : decode cX11_init 80 = .ok (.putfield 37, 3) := by decide +kernel
theorem dX11_init_83 : decode cX11_init 83 = .ok (.aload_n 0, 1) := by decide +kernel
theorem dX11_init_84 : decode cX11_init 84 = .ok (.bipush 40, 2) := by decide +kernel
theorem dX11_init_86 : decode cX11_init 86 = .ok (.newarray .long, 2) := by decide +kernel
theorem dX11_init_88 : decode cX11_init 88 = .ok (.putfield 41, 3) := by decide +kernel
theorem dX11_init_91 : decode cX11_init 91 = .ok (.iconst 0, 1) := by decide +kernel
theorem dX11_init_92 : decode cX11_init 92 = .ok (.istore_n 1, 1) := by decide +kernel
theorem dX11_init_93 : decode cX11_init 93 = .ok (.iload_n 1, 1) := by decide +kernel
theorem dX11_init_94 : decode cX11_init 94 = .ok (.bipush 6, 2) := by decide +kernel
theorem dX11_init_96 : decode cX11_init 96 = .ok (.if_icmp .ge 23, 3) := by decide +kernel
theorem dX11_init_99 : decode cX11_init 99 = .ok (.aload_n 0, 1) := by decide +kernel
theorem dX11_init_100 : decode cX11_init 100 = .ok (.getfield 7, 3) := by decide +kernel
theorem dX11_init_103 : decode cX11_init 103 = .ok (.iconst 2, 1) := by decide +kernel
theorem dX11_init_104 : decode cX11_init 104 = .ok (.iload_n 1, 1) := by decide +kernel
theorem dX11_init_105 : decode cX11_init 105 = .ok (.iadd, 1) := by decide +kernel
theorem dX11_init_106 : decode cX11_init 106 = .ok (.iconst 5, 1) := by decide +kernel
theorem dX11_init_107 : decode cX11_init 107 = .ok (.iload_n 1, 1) := by decide +kernel
theorem dX11_init_108 : decode cX11_init 108 = .ok (.imul, 1) := by decide +kernel
theorem dX11_init_109 : decode cX11_init 109 = .ok (.bipush 12, 2) := by decide +kernel
theorem dX11_init_111 : decode cX11_init 111 = .ok (.irem, 1) := by decide +kernel
theorem dX11_init_112 : decode cX11_init 112 = .ok (.iastore, 1) := by decide +kernel
theorem dX11_init_113 : decode cX11_init 113 = .ok (.iinc 1 1, 3) := by decide +kernel
theorem dX11_init_116 : decode cX11_init 116 = .ok (.goto (-23), 3) := by decide +kernel
theorem dX11_init_119 : decode cX11_init 119 = .ok (.iconst 0, 1) := by decide +kernel
theorem dX11_init_120 : decode cX11_init 120 = .ok (.istore_n 1, 1) := by decide +kernel
theorem dX11_init_121 : decode cX11_init 121 = .ok (.iload_n 1, 1) := by decide +kernel
theorem dX11_init_122 : decode cX11_init 122 = .ok (.iconst 3, 1) := by decide +kernel
theorem dX11_init_123 : decode cX11_init 123 = .ok (.if_icmp .ge 25, 3) := by decide +kernel
theorem dX11_init_126 : decode cX11_init 126 = .ok (.aload_n 0, 1) := by decide +kernel
theorem dX11_init_127 : decode cX11_init 127 = .ok (.getfield 7, 3) := by decide +kernel
theorem dX11_init_130 : decode cX11_init 130 = .ok (.bipush 8, 2) := by decide +kernel
theorem dX11_init_132 : decode cX11_init 132 = .ok (.iload_n 1, 1) := by decide +kernel
theorem dX11_init_133 : decode cX11_init 133 = .ok (.iadd, 1) := by decide +kernel
theorem dX11_init_134 : decode cX11_init 134 = .ok (.bipush 10, 2) := by decide +kernel
theorem dX11_init_136 : decode cX11_init 136 = .ok (.iload_n 1, 1) := by decide +kernel
theorem dX11_init_137 : decode cX11_init 137 = .ok (.imul, 1) := by decide +kernel
theorem dX11_init_138 : decode cX11_init 138 = .ok (.bipush 10, 2) := by decide +kernel
theorem dX11_init_140 : decode cX11_init 140 = .ok (.iadd, 1) := by decide +kernel
theorem dX11_init_141 : decode cX11_init 141 = .ok (.iastore, 1) := by decide +kernel
theorem dX11_init_142 : decode cX11_init 142 = .ok (.iinc 1 1, 3) := by decide +kernel
theorem dX11_init_145 : decode cX11_init 145 = .ok (.goto (-24), 3) := by decide +kernel
theorem dX11_init_148 : decode cX11_init 148 = .ok (.return_, 1) := by decide +kernel
theorem dX11_in_0 : decode cX11_in 0 = .ok (.lload_n 0, 1) := by decide +kernel
theorem dX11_in_1 : decode cX11_in 1 = .ok (.lload_n 2, 1) := by decide +kernel
theorem dX11_in_2 : decode cX11_in 2 = .ok (.lcmp, 1) := by decide +kernel
theorem dX11_in_3 : decode cX11_in 3 = .ok (.ifCond .lt 14, 3) := by decide +kernel
theorem dX11_in_6 : decode cX11_in 6 = .ok (.lload_n 0, 1) := by decide +kernel
theorem dX11_in_7 : decode cX11_in 7 = .ok (.lload 4, 2) := by decide +kernel
theorem dX11_in_9 : decode cX11_in 9 = .ok (.lcmp, 1) := by decide +kernel
theorem dX11_in_10 : decode cX11_in 10 = .ok (.ifCond .gt 7, 3) := by decide +kernel
theorem dX11_in_13 : decode cX11_in 13 = .ok (.iconst 1, 1) := by decide +kernel
theorem dX11_in_14 : decode cX11_in 14 = .ok (.goto 4, 3) := by decide +kernel
theorem dX11_in_17 : decode cX11_in 17 = .ok (.iconst 0, 1) := by decide +kernel
theorem dX11_in_18 : decode cX11_in 18 = .ok (.ireturn, 1) := by decide +kernel
theorem dX11_finds_0 : decode cX11_finds 0 = .ok (.aload_n 0, 1) := by decide +kernel
theorem dX11_finds_1 : decode cX11_finds 1 = .ok (.getfield 22, 3) := by decide +kernel
theorem dX11_finds_4 : decode cX11_finds 4 = .ok (.ldc 44, 2) := by decide +kernel
theorem dX11_finds_6 : decode cX11_finds 6 = .ok (.iload_n 1, 1) := by decide +kernel
theorem dX11_finds_7 : decode cX11_finds 7 = .ok (.isub, 1) := by decide +kernel
theorem dX11_finds_8 : decode cX11_finds 8 = .ok (.dup2, 1) := by decide +kernel
theorem dX11_finds_9 : decode cX11_finds 9 = .ok (.iaload, 1) := by decide +kernel
theorem dX11_finds_10 : decode cX11_finds 10 = .ok (.iconst 1, 1) := by decide +kernel
theorem dX11_finds_11 : decode cX11_finds 11 = .ok (.iadd, 1) := by decide +kernel
theorem dX11_finds_12 : decode cX11_finds 12 = .ok (.iastore, 1) := by decide +kernel
theorem dX11_finds_13 : decode cX11_finds 13 = .ok (.iload_n 1, 1) := by decide +kernel
theorem dX11_finds_14 : decode cX11_finds 14 = .ok (.ireturn, 1) := by decide +kernel
theorem dX11_saves_0 : decode cX11_saves 0 = .ok (.iconst 0, 1) := by decide +kernel
theorem dX11_saves_1 : decode cX11_saves 1 = .ok (.istore_n 1, 1) := by decide +kernel
theorem dX11_saves_2 : decode cX11_saves 2 = .ok (.iload_n 1, 1) := by decide +kernel
theorem dX11_saves_3 : decode cX11_saves 3 = .ok (.bipush 51, 2) := by decide +kernel
theorem dX11_saves_5 : decode cX11_saves 5 = .ok (.if_icmp .ge 21, 3) := by decide +kernel
theorem dX11_saves_8 : decode cX11_saves 8 = .ok (.aload_n 0, 1) := by decide +kernel
theorem dX11_saves_9 : decode cX11_saves 9 = .ok (.getfield 16, 3) := by decide +kernel
theorem dX11_saves_12 : decode cX11_saves 12 = .ok (.iload_n 1, 1) := by decide +kernel
theorem dX11_saves_13 : decode cX11_saves 13 = .ok (.aload_n 0, 1) := by decide +kernel
theorem dX11_saves_14 : decode cX11_saves 14 = .ok (.getfield 7, 3) := by decide +kernel
theorem dX11_saves_17 : decode cX11_saves 17 = .ok (.iload_n 1, 1) := by decide +kernel
theorem dX11_saves_18 : decode cX11_saves 18 = .ok (.iaload, 1) := by decide +kernel
theorem dX11_saves_19 : decode cX11_saves 19 = .ok (.iastore, 1) := by decide +kernel
theorem dX11_saves_20 : decode cX11_saves 20 = .ok (.iinc 1 1, 3) := by decide +kernel
theorem dX11_saves_23 : decode cX11_saves 23 = .ok (.goto (-21), 3) := by decide +kernel
theorem dX11_saves_26 : decode cX11_saves 26 = .ok (.return_, 1) := by decide +kernel
theorem dX11_putsBack_0 : decode cX11_putsBack 0 = .ok (.iconst 0, 1) := by decide +kernel
theorem dX11_putsBack_1 : decode cX11_putsBack 1 = .ok (.istore_n 1, 1) := by decide +kernel
theorem dX11_putsBack_2 : decode cX11_putsBack 2 = .ok (.iload_n 1, 1) := by decide +kernel
theorem dX11_putsBack_3 : decode cX11_putsBack 3 = .ok (.bipush 51, 2) := by decide +kernel
theorem dX11_putsBack_5 : decode cX11_putsBack 5 = .ok (.if_icmp .ge 21, 3) := by decide +kernel
theorem dX11_putsBack_8 : decode cX11_putsBack 8 = .ok (.aload_n 0, 1) := by decide +kernel
theorem dX11_putsBack_9 : decode cX11_putsBack 9 = .ok (.getfield 7, 3) := by decide +kernel
theorem dX11_putsBack_12 : decode cX11_putsBack 12 = .ok (.iload_n 1, 1) := by decide +kernel
theorem dX11_putsBack_13 : decode cX11_putsBack 13 = .ok (.aload_n 0, 1) := by decide +kernel
theorem dX11_putsBack_14 : decode cX11_putsBack 14 = .ok (.getfield 16, 3) := by decide +kernel
theorem dX11_putsBack_17 : decode cX11_putsBack 17 = .ok (.iload_n 1, 1) := by decide +kernel
theorem dX11_putsBack_18 : decode cX11_putsBack 18 = .ok (.iaload, 1) := by decide +kernel
theorem dX11_putsBack_19 : decode cX11_putsBack 19 = .ok (.iastore, 1) := by decide +kernel
theorem dX11_putsBack_20 : decode cX11_putsBack 20 = .ok (.iinc 1 1, 3) := by decide +kernel
theorem dX11_putsBack_23 : decode cX11_putsBack 23 = .ok (.goto (-21), 3) := by decide +kernel
theorem dX11_putsBack_26 : decode cX11_putsBack 26 = .ok (.return_, 1) := by decide +kernel
theorem dX11_laysAside_0 : decode cX11_laysAside 0 = .ok (.iconst 0, 1) := by decide +kernel
theorem dX11_laysAside_1 : decode cX11_laysAside 1 = .ok (.istore_n 1, 1) := by decide +kernel
theorem dX11_laysAside_2 : decode cX11_laysAside 2 = .ok (.iload_n 1, 1) := by decide +kernel
theorem dX11_laysAside_3 : decode cX11_laysAside 3 = .ok (.bipush 51, 2) := by decide +kernel
theorem dX11_laysAside_5 : decode cX11_laysAside 5 = .ok (.if_icmp .ge 21, 3) := by decide +kernel
theorem dX11_laysAside_8 : decode cX11_laysAside 8 = .ok (.aload_n 0, 1) := by decide +kernel
theorem dX11_laysAside_9 : decode cX11_laysAside 9 = .ok (.getfield 19, 3) := by decide +kernel
theorem dX11_laysAside_12 : decode cX11_laysAside 12 = .ok (.iload_n 1, 1) := by decide +kernel
theorem dX11_laysAside_13 : decode cX11_laysAside 13 = .ok (.aload_n 0, 1) := by decide +kernel
theorem dX11_laysAside_14 : decode cX11_laysAside 14 = .ok (.getfield 7, 3) := by decide +kernel
theorem dX11_laysAside_17 : decode cX11_laysAside 17 = .ok (.iload_n 1, 1) := by decide +kernel
theorem dX11_laysAside_18 : decode cX11_laysAside 18 = .ok (.iaload, 1) := by decide +kernel
theorem dX11_laysAside_19 : decode cX11_laysAside 19 = .ok (.iastore, 1) := by decide +kernel
theorem dX11_laysAside_20 : decode cX11_laysAside 20 = .ok (.iinc 1 1, 3) := by decide +kernel
theorem dX11_laysAside_23 : decode cX11_laysAside 23 = .ok (.goto (-21), 3) := by decide +kernel
theorem dX11_laysAside_26 : decode cX11_laysAside 26 = .ok (.return_, 1) := by decide +kernel
theorem dX11_takesBack_0 : decode cX11_takesBack 0 = .ok (.iconst 0, 1) := by decide +kernel
theorem dX11_takesBack_1 : decode cX11_takesBack 1 = .ok (.istore_n 2, 1) := by decide +kernel
theorem dX11_takesBack_2 : decode cX11_takesBack 2 = .ok (.iload_n 2, 1) := by decide +kernel
theorem dX11_takesBack_3 : decode cX11_takesBack 3 = .ok (.bipush 51, 2) := by decide +kernel
theorem dX11_takesBack_5 : decode cX11_takesBack 5 = .ok (.if_icmp .ge 21, 3) := by decide +kernel
theorem dX11_takesBack_8 : decode cX11_takesBack 8 = .ok (.aload_n 0, 1) := by decide +kernel
theorem dX11_takesBack_9 : decode cX11_takesBack 9 = .ok (.getfield 7, 3) := by decide +kernel
theorem dX11_takesBack_12 : decode cX11_takesBack 12 = .ok (.iload_n 2, 1) := by decide +kernel
theorem dX11_takesBack_13 : decode cX11_takesBack 13 = .ok (.aload_n 0, 1) := by decide +kernel
theorem dX11_takesBack_14 : decode cX11_takesBack 14 = .ok (.getfield 19, 3) := by decide +kernel
theorem dX11_takesBack_17 : decode cX11_takesBack 17 = .ok (.iload_n 2, 1) := by decide +kernel
theorem dX11_takesBack_18 : decode cX11_takesBack 18 = .ok (.iaload, 1) := by decide +kernel
theorem dX11_takesBack_19 : decode cX11_takesBack 19 = .ok (.iastore, 1) := by decide +kernel
theorem dX11_takesBack_20 : decode cX11_takesBack 20 = .ok (.iinc 2 1, 3) := by decide +kernel
theorem dX11_takesBack_23 : decode cX11_takesBack 23 = .ok (.goto (-21), 3) := by decide +kernel
theorem dX11_takesBack_26 : decode cX11_takesBack 26 = .ok (.iload_n 1, 1) := by decide +kernel
theorem dX11_takesBack_27 : decode cX11_takesBack 27 = .ok (.ireturn, 1) := by decide +kernel
theorem dX11_becomes_0 : decode cX11_becomes 0 = .ok (.aload_n 0, 1) := by decide +kernel
theorem dX11_becomes_1 : decode cX11_becomes 1 = .ok (.getfield 7, 3) := by decide +kernel
theorem dX11_becomes_4 : decode cX11_becomes 4 = .ok (.iload_n 1, 1) := by decide +kernel
theorem dX11_becomes_5 : decode cX11_becomes 5 = .ok (.iaload, 1) := by decide +kernel
theorem dX11_becomes_6 : decode cX11_becomes 6 = .ok (.istore_n 3, 1) := by decide +kernel
theorem dX11_becomes_7 : decode cX11_becomes 7 = .ok (.aload_n 0, 1) := by decide +kernel
theorem dX11_becomes_8 : decode cX11_becomes 8 = .ok (.getfield 7, 3) := by decide +kernel
theorem dX11_becomes_11 : decode cX11_becomes 11 = .ok (.iload_n 1, 1) := by decide +kernel
theorem dX11_becomes_12 : decode cX11_becomes 12 = .ok (.iload_n 2, 1) := by decide +kernel
theorem dX11_becomes_13 : decode cX11_becomes 13 = .ok (.iastore, 1) := by decide +kernel
theorem dX11_becomes_14 : decode cX11_becomes 14 = .ok (.iload_n 3, 1) := by decide +kernel
theorem dX11_becomes_15 : decode cX11_becomes 15 = .ok (.ireturn, 1) := by decide +kernel
theorem dX11_spot_0 : decode cX11_spot 0 = .ok (.bipush 11, 2) := by decide +kernel
theorem dX11_spot_2 : decode cX11_spot 2 = .ok (.iconst 5, 1) := by decide +kernel
theorem dX11_spot_3 : decode cX11_spot 3 = .ok (.iload_n 0, 1) := by decide +kernel
theorem dX11_spot_4 : decode cX11_spot 4 = .ok (.imul, 1) := by decide +kernel
theorem dX11_spot_5 : decode cX11_spot 5 = .ok (.iadd, 1) := by decide +kernel
theorem dX11_spot_6 : decode cX11_spot 6 = .ok (.iload_n 1, 1) := by decide +kernel
theorem dX11_spot_7 : decode cX11_spot 7 = .ok (.iadd, 1) := by decide +kernel
theorem dX11_spot_8 : decode cX11_spot 8 = .ok (.ireturn, 1) := by decide +kernel
theorem dX11_its_0 : decode cX11_its 0 = .ok (.aload_n 0, 1) := by decide +kernel
theorem dX11_its_1 : decode cX11_its 1 = .ok (.getfield 7, 3) := by decide +kernel
theorem dX11_its_4 : decode cX11_its 4 = .ok (.iload_n 1, 1) := by decide +kernel
theorem dX11_its_5 : decode cX11_its 5 = .ok (.iload_n 2, 1) := by decide +kernel
theorem dX11_its_6 : decode cX11_its 6 = .ok (.invokestatic 45, 3) := by decide +kernel
theorem dX11_its_9 : decode cX11_its 9 = .ok (.iaload, 1) := by decide +kernel
theorem dX11_its_10 : decode cX11_its 10 = .ok (.ireturn, 1) := by decide +kernel
theorem dX11_isPerson_0 : decode cX11_isPerson 0 = .ok (.iload_n 1, 1) := by decide +kernel
theorem dX11_isPerson_1 : decode cX11_isPerson 1 = .ok (.i2l, 1) := by decide +kernel
theorem dX11_isPerson_2 : decode cX11_isPerson 2 = .ok (.lconst 0, 1) := by decide +kernel
theorem dX11_isPerson_3 : decode cX11_isPerson 3 = .ok (.aload_n 0, 1) := by decide +kernel
theorem dX11_isPerson_4 : decode cX11_isPerson 4 = .ok (.getfield 7, 3) := by decide +kernel
theorem dX11_isPerson_7 : decode cX11_isPerson 7 = .ok (.iconst 1, 1) := by decide +kernel
theorem dX11_isPerson_8 : decode cX11_isPerson 8 = .ok (.iaload, 1) := by decide +kernel
theorem dX11_isPerson_9 : decode cX11_isPerson 9 = .ok (.iconst 1, 1) := by decide +kernel
theorem dX11_isPerson_10 : decode cX11_isPerson 10 = .ok (.isub, 1) := by decide +kernel
theorem dX11_isPerson_11 : decode cX11_isPerson 11 = .ok (.i2l, 1) := by decide +kernel
theorem dX11_isPerson_12 : decode cX11_isPerson 12 = .ok (.invokestatic 49, 3) := by decide +kernel
theorem dX11_isPerson_15 : decode cX11_isPerson 15 = .ok (.ireturn, 1) := by decide +kernel
theorem dX11_isSpot_0 : decode cX11_isSpot 0 = .ok (.iload_n 0, 1) := by decide +kernel
theorem dX11_isSpot_1 : decode cX11_isSpot 1 = .ok (.i2l, 1) := by decide +kernel
theorem dX11_isSpot_2 : decode cX11_isSpot 2 = .ok (.lconst 0, 1) := by decide +kernel
theorem dX11_isSpot_3 : decode cX11_isSpot 3 = .ok (.ldc2_w 53, 3) := by decide +kernel
theorem dX11_isSpot_6 : decode cX11_isSpot 6 = .ok (.invokestatic 49, 3) := by decide +kernel
theorem dX11_isSpot_9 : decode cX11_isSpot 9 = .ok (.ireturn, 1) := by decide +kernel
theorem dX11_isQuarter_0 : decode cX11_isQuarter 0 = .ok (.iload_n 0, 1) := by decide +kernel
theorem dX11_isQuarter_1 : decode cX11_isQuarter 1 = .ok (.i2l, 1) := by decide +kernel
theorem dX11_isQuarter_2 : decode cX11_isQuarter 2 = .ok (.lconst 0, 1) := by decide +kernel
theorem dX11_isQuarter_3 : decode cX11_isQuarter 3 = .ok (.ldc2_w 55, 3) := by decide +kernel
theorem dX11_isQuarter_6 : decode cX11_isQuarter 6 = .ok (.invokestatic 49, 3) := by decide +kernel
theorem dX11_isQuarter_9 : decode cX11_isQuarter 9 = .ok (.ireturn, 1) := by decide +kernel
theorem dX11_isBell_0 : decode cX11_isBell 0 = .ok (.iload_n 0, 1) := by decide +kernel
theorem dX11_isBell_1 : decode cX11_isBell 1 = .ok (.i2l, 1) := by decide +kernel
theorem dX11_isBell_2 : decode cX11_isBell 2 = .ok (.lconst 0, 1) := by decide +kernel
theorem dX11_isBell_3 : decode cX11_isBell 3 = .ok (.ldc2_w 57, 3) := by decide +kernel
theorem dX11_isBell_6 : decode cX11_isBell 6 = .ok (.invokestatic 49, 3) := by decide +kernel
theorem dX11_isBell_9 : decode cX11_isBell 9 = .ok (.ireturn, 1) := by decide +kernel
theorem dX11_isKind_0 : decode cX11_isKind 0 = .ok (.iload_n 0, 1) := by decide +kernel
theorem dX11_isKind_1 : decode cX11_isKind 1 = .ok (.i2l, 1) := by decide +kernel
theorem dX11_isKind_2 : decode cX11_isKind 2 = .ok (.lconst 0, 1) := by decide +kernel
theorem dX11_isKind_3 : decode cX11_isKind 3 = .ok (.ldc2_w 55, 3) := by decide +kernel
theorem dX11_isKind_6 : decode cX11_isKind 6 = .ok (.invokestatic 49, 3) := by decide +kernel
theorem dX11_isKind_9 : decode cX11_isKind 9 = .ok (.ireturn, 1) := by decide +kernel
theorem dX11_together_0 : decode cX11_together 0 = .ok (.iconst 0, 1) := by decide +kernel
theorem dX11_together_1 : decode cX11_together 1 = .ok (.istore_n 2, 1) := by decide +kernel
theorem dX11_together_2 : decode cX11_together 2 = .ok (.iconst 0, 1) := by decide +kernel
theorem dX11_together_3 : decode cX11_together 3 = .ok (.istore_n 3, 1) := by decide +kernel
theorem dX11_together_4 : decode cX11_together 4 = .ok (.iload_n 3, 1) := by decide +kernel
theorem dX11_together_5 : decode cX11_together 5 = .ok (.aload_n 0, 1) := by decide +kernel
theorem dX11_together_6 : decode cX11_together 6 = .ok (.getfield 7, 3) := by decide +kernel
theorem dX11_together_9 : decode cX11_together 9 = .ok (.iconst 1, 1) := by decide +kernel
theorem dX11_together_10 : decode cX11_together 10 = .ok (.iaload, 1) := by decide +kernel
theorem dX11_together_11 : decode cX11_together 11 = .ok (.if_icmp .ge 18, 3) := by decide +kernel
theorem dX11_together_14 : decode cX11_together 14 = .ok (.iload_n 2, 1) := by decide +kernel
theorem dX11_together_15 : decode cX11_together 15 = .ok (.aload_n 0, 1) := by decide +kernel
theorem dX11_together_16 : decode cX11_together 16 = .ok (.iload_n 3, 1) := by decide +kernel
theorem dX11_together_17 : decode cX11_together 17 = .ok (.iload_n 1, 1) := by decide +kernel
theorem dX11_together_18 : decode cX11_together 18 = .ok (.invokevirtual 59, 3) := by decide +kernel
theorem dX11_together_21 : decode cX11_together 21 = .ok (.iadd, 1) := by decide +kernel
theorem dX11_together_22 : decode cX11_together 22 = .ok (.istore_n 2, 1) := by decide +kernel
theorem dX11_together_23 : decode cX11_together 23 = .ok (.iinc 3 1, 3) := by decide +kernel
theorem dX11_together_26 : decode cX11_together 26 = .ok (.goto (-22), 3) := by decide +kernel
theorem dX11_together_29 : decode cX11_together 29 = .ok (.iload_n 2, 1) := by decide +kernel
theorem dX11_together_30 : decode cX11_together 30 = .ok (.ireturn, 1) := by decide +kernel
theorem dX11_harmonyNow_0 : decode cX11_harmonyNow 0 = .ok (.aload_n 0, 1) := by decide +kernel
theorem dX11_harmonyNow_1 : decode cX11_harmonyNow 1 = .ok (.iconst 3, 1) := by decide +kernel
theorem dX11_harmonyNow_2 : decode cX11_harmonyNow 2 = .ok (.invokevirtual 62, 3) := by decide +kernel
theorem dX11_harmonyNow_5 : decode cX11_harmonyNow 5 = .ok (.aload_n 0, 1) := by decide +kernel
theorem dX11_harmonyNow_6 : decode cX11_harmonyNow 6 = .ok (.iconst 4, 1) := by decide +kernel
theorem dX11_harmonyNow_7 : decode cX11_harmonyNow 7 = .ok (.invokevirtual 62, 3) := by decide +kernel
theorem dX11_harmonyNow_10 : decode cX11_harmonyNow 10 = .ok (.isub, 1) := by decide +kernel
theorem dX11_harmonyNow_11 : decode cX11_harmonyNow 11 = .ok (.ireturn, 1) := by decide +kernel
theorem dX11_score_0 : decode cX11_score 0 = .ok (.iload_n 1, 1) := by decide +kernel
theorem dX11_score_1 : decode cX11_score 1 = .ok (.invokestatic 66, 3) := by decide +kernel
theorem dX11_score_4 : decode cX11_score 4 = .ok (.ifCond .eq 21, 3) := by decide +kernel
theorem dX11_score_7 : decode cX11_score 7 = .ok (.iload_n 2, 1) := by decide +kernel
theorem dX11_score_8 : decode cX11_score 8 = .ok (.invokestatic 70, 3) := by decide +kernel
theorem dX11_score_11 : decode cX11_score 11 = .ok (.ifCond .eq 14, 3) := by decide +kernel
theorem dX11_score_14 : decode cX11_score 14 = .ok (.aload_n 0, 1) := by decide +kernel
theorem dX11_score_15 : decode cX11_score 15 = .ok (.iconst 2, 1) := by decide +kernel
theorem dX11_score_16 : decode cX11_score 16 = .ok (.iload_n 1, 1) := by decide +kernel
theorem dX11_score_17 : decode cX11_score 17 = .ok (.iadd, 1) := by decide +kernel
theorem dX11_score_18 : decode cX11_score 18 = .ok (.iload_n 2, 1) := by decide +kernel
theorem dX11_score_19 : decode cX11_score 19 = .ok (.invokevirtual 73, 3) := by decide +kernel
theorem dX11_score_22 : decode cX11_score 22 = .ok (.goto 9, 3) := by decide +kernel
theorem dX11_score_25 : decode cX11_score 25 = .ok (.aload_n 0, 1) := by decide +kernel
theorem dX11_score_26 : decode cX11_score 26 = .ok (.ldc 44, 2) := by decide +kernel
theorem dX11_score_28 : decode cX11_score 28 = .ok (.invokevirtual 76, 3) := by decide +kernel
theorem dX11_score_31 : decode cX11_score 31 = .ok (.ireturn, 1) := by decide +kernel
theorem dX11_bell_0 : decode cX11_bell 0 = .ok (.iload_n 1, 1) := by decide +kernel
theorem dX11_bell_1 : decode cX11_bell 1 = .ok (.invokestatic 79, 3) := by decide +kernel
theorem dX11_bell_4 : decode cX11_bell 4 = .ok (.ifCond .eq 27, 3) := by decide +kernel
theorem dX11_bell_7 : decode cX11_bell 7 = .ok (.iload_n 2, 1) := by decide +kernel
theorem dX11_bell_8 : decode cX11_bell 8 = .ok (.i2l, 1) := by decide +kernel
theorem dX11_bell_9 : decode cX11_bell 9 = .ok (.lconst 0, 1) := by decide +kernel
theorem dX11_bell_10 : decode cX11_bell 10 = .ok (.ldc2_w 82, 3) := by decide +kernel
theorem dX11_bell_13 : decode cX11_bell 13 = .ok (.invokestatic 49, 3) := by decide +kernel
theorem dX11_bell_16 : decode cX11_bell 16 = .ok (.ifCond .eq 15, 3) := by decide +kernel
theorem dX11_bell_19 : decode cX11_bell 19 = .ok (.aload_n 0, 1) := by decide +kernel
theorem dX11_bell_20 : decode cX11_bell 20 = .ok (.bipush 8, 2) := by decide +kernel
theorem dX11_bell_22 : decode cX11_bell 22 = .ok (.iload_n 1, 1) := by decide +kernel
theorem dX11_bell_23 : decode cX11_bell 23 = .ok (.iadd, 1) := by decide +kernel
theorem dX11_bell_24 : decode cX11_bell 24 = .ok (.iload_n 2, 1) := by decide +kernel
theorem dX11_bell_25 : decode cX11_bell 25 = .ok (.invokevirtual 73, 3) := by decide +kernel
theorem dX11_bell_28 : decode cX11_bell 28 = .ok (.goto 9, 3) := by decide +kernel
theorem dX11_bell_31 : decode cX11_bell 31 = .ok (.aload_n 0, 1) := by decide +kernel
theorem dX11_bell_32 : decode cX11_bell 32 = .ok (.ldc 44, 2) := by decide +kernel
theorem dX11_bell_34 : decode cX11_bell 34 = .ok (.invokevirtual 76, 3) := by decide +kernel
theorem dX11_bell_37 : decode cX11_bell 37 = .ok (.ireturn, 1) := by decide +kernel
theorem dX11_quarter_0 : decode cX11_quarter 0 = .ok (.aload_n 0, 1) := by decide +kernel
theorem dX11_quarter_1 : decode cX11_quarter 1 = .ok (.getfield 7, 3) := by decide +kernel
theorem dX11_quarter_4 : decode cX11_quarter 4 = .ok (.iconst 0, 1) := by decide +kernel
theorem dX11_quarter_5 : decode cX11_quarter 5 = .ok (.iaload, 1) := by decide +kernel
theorem dX11_quarter_6 : decode cX11_quarter 6 = .ok (.bipush 8, 2) := by decide +kernel
theorem dX11_quarter_8 : decode cX11_quarter 8 = .ok (.idiv, 1) := by decide +kernel
theorem dX11_quarter_9 : decode cX11_quarter 9 = .ok (.bipush 6, 2) := by decide +kernel
theorem dX11_quarter_11 : decode cX11_quarter 11 = .ok (.irem, 1) := by decide +kernel
theorem dX11_quarter_12 : decode cX11_quarter 12 = .ok (.ireturn, 1) := by decide +kernel
theorem dX11_ringing_0 : decode cX11_ringing 0 = .ok (.iconst (-1), 1) := by decide +kernel
theorem dX11_ringing_1 : decode cX11_ringing 1 = .ok (.istore_n 1, 1) := by decide +kernel
theorem dX11_ringing_2 : decode cX11_ringing 2 = .ok (.iconst 0, 1) := by decide +kernel
theorem dX11_ringing_3 : decode cX11_ringing 3 = .ok (.istore_n 2, 1) := by decide +kernel
theorem dX11_ringing_4 : decode cX11_ringing 4 = .ok (.iload_n 2, 1) := by decide +kernel
theorem dX11_ringing_5 : decode cX11_ringing 5 = .ok (.iconst 3, 1) := by decide +kernel
theorem dX11_ringing_6 : decode cX11_ringing 6 = .ok (.if_icmp .ge 36, 3) := by decide +kernel
theorem dX11_ringing_9 : decode cX11_ringing 9 = .ok (.aload_n 0, 1) := by decide +kernel
theorem dX11_ringing_10 : decode cX11_ringing 10 = .ok (.getfield 7, 3) := by decide +kernel
theorem dX11_ringing_13 : decode cX11_ringing 13 = .ok (.iconst 0, 1) := by decide +kernel
theorem dX11_ringing_14 : decode cX11_ringing 14 = .ok (.iaload, 1) := by decide +kernel
theorem dX11_ringing_15 : decode cX11_ringing 15 = .ok (.bipush 48, 2) := by decide +kernel
theorem dX11_ringing_17 : decode cX11_ringing 17 = .ok (.irem, 1) := by decide +kernel
theorem dX11_ringing_18 : decode cX11_ringing 18 = .ok (.aload_n 0, 1) := by decide +kernel
theorem dX11_ringing_19 : decode cX11_ringing 19 = .ok (.getfield 7, 3) := by decide +kernel
theorem dX11_ringing_22 : decode cX11_ringing 22 = .ok (.bipush 8, 2) := by decide +kernel
theorem dX11_ringing_24 : decode cX11_ringing 24 = .ok (.iload_n 2, 1) := by decide +kernel
theorem dX11_ringing_25 : decode cX11_ringing 25 = .ok (.iadd, 1) := by decide +kernel
theorem dX11_ringing_26 : decode cX11_ringing 26 = .ok (.iaload, 1) := by decide +kernel
theorem dX11_ringing_27 : decode cX11_ringing 27 = .ok (.if_icmp .ne 7, 3) := by decide +kernel
theorem dX11_ringing_30 : decode cX11_ringing 30 = .ok (.iload_n 2, 1) := by decide +kernel
theorem dX11_ringing_31 : decode cX11_ringing 31 = .ok (.goto 4, 3) := by decide +kernel
theorem dX11_ringing_34 : decode cX11_ringing 34 = .ok (.iload_n 1, 1) := by decide +kernel
theorem dX11_ringing_35 : decode cX11_ringing 35 = .ok (.istore_n 1, 1) := by decide +kernel
theorem dX11_ringing_36 : decode cX11_ringing 36 = .ok (.iinc 2 1, 3) := by decide +kernel
theorem dX11_ringing_39 : decode cX11_ringing 39 = .ok (.goto (-35), 3) := by decide +kernel
theorem dX11_ringing_42 : decode cX11_ringing 42 = .ok (.iload_n 1, 1) := by decide +kernel
theorem dX11_ringing_43 : decode cX11_ringing 43 = .ok (.ireturn, 1) := by decide +kernel
theorem dX11_dueOnes_0 : decode cX11_dueOnes 0 = .ok (.iconst 0, 1) := by decide +kernel
theorem dX11_dueOnes_1 : decode cX11_dueOnes 1 = .ok (.istore_n 1, 1) := by decide +kernel
theorem dX11_dueOnes_2 : decode cX11_dueOnes 2 = .ok (.iconst 0, 1) := by decide +kernel
theorem dX11_dueOnes_3 : decode cX11_dueOnes 3 = .ok (.istore_n 2, 1) := by decide +kernel
theorem dX11_dueOnes_4 : decode cX11_dueOnes 4 = .ok (.iload_n 2, 1) := by decide +kernel
theorem dX11_dueOnes_5 : decode cX11_dueOnes 5 = .ok (.aload_n 0, 1) := by decide +kernel
theorem dX11_dueOnes_6 : decode cX11_dueOnes 6 = .ok (.getfield 7, 3) := by decide +kernel
theorem dX11_dueOnes_9 : decode cX11_dueOnes 9 = .ok (.iconst 1, 1) := by decide +kernel
theorem dX11_dueOnes_10 : decode cX11_dueOnes 10 = .ok (.iaload, 1) := by decide +kernel
theorem dX11_dueOnes_11 : decode cX11_dueOnes 11 = .ok (.if_icmp .ge 33, 3) := by decide +kernel
theorem dX11_dueOnes_14 : decode cX11_dueOnes 14 = .ok (.iload_n 1, 1) := by decide +kernel
theorem dX11_dueOnes_15 : decode cX11_dueOnes 15 = .ok (.aload_n 0, 1) := by decide +kernel
theorem dX11_dueOnes_16 : decode cX11_dueOnes 16 = .ok (.iload_n 2, 1) := by decide +kernel
theorem dX11_dueOnes_17 : decode cX11_dueOnes 17 = .ok (.iconst 1, 1) := by decide +kernel
theorem dX11_dueOnes_18 : decode cX11_dueOnes 18 = .ok (.invokevirtual 59, 3) := by decide +kernel
theorem dX11_dueOnes_21 : decode cX11_dueOnes 21 = .ok (.aload_n 0, 1) := by decide +kernel
theorem dX11_dueOnes_22 : decode cX11_dueOnes 22 = .ok (.iload_n 2, 1) := by decide +kernel
theorem dX11_dueOnes_23 : decode cX11_dueOnes 23 = .ok (.invokevirtual 84, 3) := by decide +kernel
theorem dX11_dueOnes_26 : decode cX11_dueOnes 26 = .ok (.if_icmp .ne 9, 3) := by decide +kernel
theorem dX11_dueOnes_29 : decode cX11_dueOnes 29 = .ok (.iconst 1, 1) := by decide +kernel
theorem dX11_dueOnes_30 : decode cX11_dueOnes 30 = .ok (.iload_n 2, 1) := by decide +kernel
theorem dX11_dueOnes_31 : decode cX11_dueOnes 31 = .ok (.ishl, 1) := by decide +kernel
theorem dX11_dueOnes_32 : decode cX11_dueOnes 32 = .ok (.goto 4, 3) := by decide +kernel
theorem dX11_dueOnes_35 : decode cX11_dueOnes 35 = .ok (.iconst 0, 1) := by decide +kernel
theorem dX11_dueOnes_36 : decode cX11_dueOnes 36 = .ok (.ior, 1) := by decide +kernel
theorem dX11_dueOnes_37 : decode cX11_dueOnes 37 = .ok (.istore_n 1, 1) := by decide +kernel
theorem dX11_dueOnes_38 : decode cX11_dueOnes 38 = .ok (.iinc 2 1, 3) := by decide +kernel
theorem dX11_dueOnes_41 : decode cX11_dueOnes 41 = .ok (.goto (-37), 3) := by decide +kernel
theorem dX11_dueOnes_44 : decode cX11_dueOnes 44 = .ok (.iload_n 1, 1) := by decide +kernel
theorem dX11_dueOnes_45 : decode cX11_dueOnes 45 = .ok (.ireturn, 1) := by decide +kernel
theorem dX11_now_0 : decode cX11_now 0 = .ok (.iload_n 1, 1) := by decide +kernel
theorem dX11_now_1 : decode cX11_now 1 = .ok (.tableswitch 81 0 5 #[39, 46, 51, 63, 68, 73], 39) := by decide +kernel
theorem dX11_now_40 : decode cX11_now 40 = .ok (.aload_n 0, 1) := by decide +kernel
theorem dX11_now_41 : decode cX11_now 41 = .ok (.getfield 7, 3) := by decide +kernel
theorem dX11_now_44 : decode cX11_now 44 = .ok (.iconst 0, 1) := by decide +kernel
theorem dX11_now_45 : decode cX11_now 45 = .ok (.iaload, 1) := by decide +kernel
theorem dX11_now_46 : decode cX11_now 46 = .ok (.ireturn, 1) := by decide +kernel
theorem dX11_now_47 : decode cX11_now 47 = .ok (.aload_n 0, 1) := by decide +kernel
theorem dX11_now_48 : decode cX11_now 48 = .ok (.invokevirtual 87, 3) := by decide +kernel
theorem dX11_now_51 : decode cX11_now 51 = .ok (.ireturn, 1) := by decide +kernel
theorem dX11_now_52 : decode cX11_now 52 = .ok (.aload_n 0, 1) := by decide +kernel
theorem dX11_now_53 : decode cX11_now 53 = .ok (.getfield 7, 3) := by decide +kernel
theorem dX11_now_56 : decode cX11_now 56 = .ok (.iconst 2, 1) := by decide +kernel
theorem dX11_now_57 : decode cX11_now 57 = .ok (.aload_n 0, 1) := by decide +kernel
theorem dX11_now_58 : decode cX11_now 58 = .ok (.invokevirtual 87, 3) := by decide +kernel
theorem dX11_now_61 : decode cX11_now 61 = .ok (.iadd, 1) := by decide +kernel
theorem dX11_now_62 : decode cX11_now 62 = .ok (.iaload, 1) := by decide +kernel
theorem dX11_now_63 : decode cX11_now 63 = .ok (.ireturn, 1) := by decide +kernel
theorem dX11_now_64 : decode cX11_now 64 = .ok (.aload_n 0, 1) := by decide +kernel
theorem dX11_now_65 : decode cX11_now 65 = .ok (.invokevirtual 91, 3) := by decide +kernel
theorem dX11_now_68 : decode cX11_now 68 = .ok (.ireturn, 1) := by decide +kernel
theorem dX11_now_69 : decode cX11_now 69 = .ok (.aload_n 0, 1) := by decide +kernel
theorem dX11_now_70 : decode cX11_now 70 = .ok (.invokevirtual 94, 3) := by decide +kernel
theorem dX11_now_73 : decode cX11_now 73 = .ok (.ireturn, 1) := by decide +kernel
theorem dX11_now_74 : decode cX11_now 74 = .ok (.ldc 97, 2) := by decide +kernel
theorem dX11_now_76 : decode cX11_now 76 = .ok (.aload_n 0, 1) := by decide +kernel
theorem dX11_now_77 : decode cX11_now 77 = .ok (.invokevirtual 98, 3) := by decide +kernel
theorem dX11_now_80 : decode cX11_now 80 = .ok (.iadd, 1) := by decide +kernel
theorem dX11_now_81 : decode cX11_now 81 = .ok (.ireturn, 1) := by decide +kernel
theorem dX11_now_82 : decode cX11_now 82 = .ok (.aload_n 0, 1) := by decide +kernel
theorem dX11_now_83 : decode cX11_now 83 = .ok (.ldc 44, 2) := by decide +kernel
theorem dX11_now_85 : decode cX11_now 85 = .ok (.invokevirtual 76, 3) := by decide +kernel
theorem dX11_now_88 : decode cX11_now 88 = .ok (.ireturn, 1) := by decide +kernel
theorem dX11_whoAt_0 : decode cX11_whoAt 0 = .ok (.iconst 0, 1) := by decide +kernel
theorem dX11_whoAt_1 : decode cX11_whoAt 1 = .ok (.istore_n 2, 1) := by decide +kernel
theorem dX11_whoAt_2 : decode cX11_whoAt 2 = .ok (.iconst 0, 1) := by decide +kernel
theorem dX11_whoAt_3 : decode cX11_whoAt 3 = .ok (.istore_n 3, 1) := by decide +kernel
theorem dX11_whoAt_4 : decode cX11_whoAt 4 = .ok (.iload_n 3, 1) := by decide +kernel
theorem dX11_whoAt_5 : decode cX11_whoAt 5 = .ok (.aload_n 0, 1) := by decide +kernel
theorem dX11_whoAt_6 : decode cX11_whoAt 6 = .ok (.getfield 7, 3) := by decide +kernel
theorem dX11_whoAt_9 : decode cX11_whoAt 9 = .ok (.iconst 1, 1) := by decide +kernel
theorem dX11_whoAt_10 : decode cX11_whoAt 10 = .ok (.iaload, 1) := by decide +kernel
theorem dX11_whoAt_11 : decode cX11_whoAt 11 = .ok (.if_icmp .ge 29, 3) := by decide +kernel
theorem dX11_whoAt_14 : decode cX11_whoAt 14 = .ok (.iload_n 2, 1) := by decide +kernel
theorem dX11_whoAt_15 : decode cX11_whoAt 15 = .ok (.aload_n 0, 1) := by decide +kernel
theorem dX11_whoAt_16 : decode cX11_whoAt 16 = .ok (.iload_n 3, 1) := by decide +kernel
theorem dX11_whoAt_17 : decode cX11_whoAt 17 = .ok (.iconst 1, 1) := by decide +kernel
theorem dX11_whoAt_18 : decode cX11_whoAt 18 = .ok (.invokevirtual 59, 3) := by decide +kernel
theorem dX11_whoAt_21 : decode cX11_whoAt 21 = .ok (.iload_n 1, 1) := by decide +kernel
theorem dX11_whoAt_22 : decode cX11_whoAt 22 = .ok (.if_icmp .ne 9, 3) := by decide +kernel
theorem dX11_whoAt_25 : decode cX11_whoAt 25 = .ok (.iconst 1, 1) := by decide +kernel
theorem dX11_whoAt_26 : decode cX11_whoAt 26 = .ok (.iload_n 3, 1) := by decide +kernel
theorem dX11_whoAt_27 : decode cX11_whoAt 27 = .ok (.ishl, 1) := by decide +kernel
theorem dX11_whoAt_28 : decode cX11_whoAt 28 = .ok (.goto 4, 3) := by decide +kernel
theorem dX11_whoAt_31 : decode cX11_whoAt 31 = .ok (.iconst 0, 1) := by decide +kernel
theorem dX11_whoAt_32 : decode cX11_whoAt 32 = .ok (.ior, 1) := by decide +kernel
theorem dX11_whoAt_33 : decode cX11_whoAt 33 = .ok (.istore_n 2, 1) := by decide +kernel
theorem dX11_whoAt_34 : decode cX11_whoAt 34 = .ok (.iinc 3 1, 3) := by decide +kernel
theorem dX11_whoAt_37 : decode cX11_whoAt 37 = .ok (.goto (-33), 3) := by decide +kernel
theorem dX11_whoAt_40 : decode cX11_whoAt 40 = .ok (.iload_n 2, 1) := by decide +kernel
theorem dX11_whoAt_41 : decode cX11_whoAt 41 = .ok (.ireturn, 1) := by decide +kernel
theorem dX11_who_0 : decode cX11_who 0 = .ok (.iload_n 1, 1) := by decide +kernel
theorem dX11_who_1 : decode cX11_who 1 = .ok (.invokestatic 70, 3) := by decide +kernel
theorem dX11_who_4 : decode cX11_who 4 = .ok (.ifCond .eq 11, 3) := by decide +kernel
theorem dX11_who_7 : decode cX11_who 7 = .ok (.aload_n 0, 1) := by decide +kernel
theorem dX11_who_8 : decode cX11_who 8 = .ok (.iload_n 1, 1) := by decide +kernel
theorem dX11_who_9 : decode cX11_who 9 = .ok (.invokevirtual 101, 3) := by decide +kernel
theorem dX11_who_12 : decode cX11_who 12 = .ok (.goto 9, 3) := by decide +kernel
theorem dX11_who_15 : decode cX11_who 15 = .ok (.aload_n 0, 1) := by decide +kernel
theorem dX11_who_16 : decode cX11_who 16 = .ok (.ldc 44, 2) := by decide +kernel
theorem dX11_who_18 : decode cX11_who 18 = .ok (.invokevirtual 76, 3) := by decide +kernel
theorem dX11_who_21 : decode cX11_who 21 = .ok (.ireturn, 1) := by decide +kernel
theorem dX11_isHearing_0 : decode cX11_isHearing 0 = .ok (.aload_n 0, 1) := by decide +kernel
theorem dX11_isHearing_1 : decode cX11_isHearing 1 = .ok (.invokevirtual 91, 3) := by decide +kernel
theorem dX11_isHearing_4 : decode cX11_isHearing 4 = .ok (.istore_n 2, 1) := by decide +kernel
theorem dX11_isHearing_5 : decode cX11_isHearing 5 = .ok (.aload_n 0, 1) := by decide +kernel
theorem dX11_isHearing_6 : decode cX11_isHearing 6 = .ok (.iload_n 1, 1) := by decide +kernel
theorem dX11_isHearing_7 : decode cX11_isHearing 7 = .ok (.iconst 3, 1) := by decide +kernel
theorem dX11_isHearing_8 : decode cX11_isHearing 8 = .ok (.invokevirtual 59, 3) := by decide +kernel
theorem dX11_isHearing_11 : decode cX11_isHearing 11 = .ok (.bipush 10, 2) := by decide +kernel
theorem dX11_isHearing_13 : decode cX11_isHearing 13 = .ok (.if_icmp .ge 7, 3) := by decide +kernel
theorem dX11_isHearing_16 : decode cX11_isHearing 16 = .ok (.iconst 1, 1) := by decide +kernel
theorem dX11_isHearing_17 : decode cX11_isHearing 17 = .ok (.goto 4, 3) := by decide +kernel
theorem dX11_isHearing_20 : decode cX11_isHearing 20 = .ok (.iconst 0, 1) := by decide +kernel
theorem dX11_isHearing_21 : decode cX11_isHearing 21 = .ok (.istore_n 3, 1) := by decide +kernel
theorem dX11_isHearing_22 : decode cX11_isHearing 22 = .ok (.iload_n 2, 1) := by decide +kernel
theorem dX11_isHearing_23 : decode cX11_isHearing 23 = .ok (.iconst (-1), 1) := by decide +kernel
theorem dX11_isHearing_24 : decode cX11_isHearing 24 = .ok (.if_icmp .ne 5, 3) := by decide +kernel
theorem dX11_isHearing_27 : decode cX11_isHearing 27 = .ok (.iconst 0, 1) := by decide +kernel
theorem dX11_isHearing_28 : decode cX11_isHearing 28 = .ok (.ireturn, 1) := by decide +kernel
theorem dX11_isHearing_29 : decode cX11_isHearing 29 = .ok (.aload_n 0, 1) := by decide +kernel
theorem dX11_isHearing_30 : decode cX11_isHearing 30 = .ok (.iload_n 1, 1) := by decide +kernel
theorem dX11_isHearing_31 : decode cX11_isHearing 31 = .ok (.iconst 0, 1) := by decide +kernel
theorem dX11_isHearing_32 : decode cX11_isHearing 32 = .ok (.invokevirtual 59, 3) := by decide +kernel
theorem dX11_isHearing_35 : decode cX11_isHearing 35 = .ok (.tableswitch 48 2 5 #[29, 31, 31, 33], 29) := by decide +kernel
theorem dX11_isHearing_64 : decode cX11_isHearing 64 = .ok (.iconst 1, 1) := by decide +kernel
theorem dX11_isHearing_65 : decode cX11_isHearing 65 = .ok (.ireturn, 1) := by decide +kernel
theorem dX11_isHearing_66 : decode cX11_isHearing 66 = .ok (.iconst 0, 1) := by decide +kernel
theorem dX11_isHearing_67 : decode cX11_isHearing 67 = .ok (.ireturn, 1) := by decide +kernel
theorem dX11_isHearing_68 : decode cX11_isHearing 68 = .ok (.iload_n 3, 1) := by decide +kernel
theorem dX11_isHearing_69 : decode cX11_isHearing 69 = .ok (.ifCond .eq 12, 3) := by decide +kernel
theorem dX11_isHearing_72 : decode cX11_isHearing 72 = .ok (.iload_n 2, 1) := by decide +kernel
theorem dX11_isHearing_73 : decode cX11_isHearing 73 = .ok (.iconst 2, 1) := by decide +kernel
theorem dX11_isHearing_74 : decode cX11_isHearing 74 = .ok (.if_icmp .eq 7, 3) := by decide +kernel
theorem dX11_isHearing_77 : decode cX11_isHearing 77 = .ok (.iconst 1, 1) := by decide +kernel
theorem dX11_isHearing_78 : decode cX11_isHearing 78 = .ok (.goto 4, 3) := by decide +kernel
theorem dX11_isHearing_81 : decode cX11_isHearing 81 = .ok (.iconst 0, 1) := by decide +kernel
theorem dX11_isHearing_82 : decode cX11_isHearing 82 = .ok (.ireturn, 1) := by decide +kernel
theorem dX11_isHearing_83 : decode cX11_isHearing 83 = .ok (.iload_n 3, 1) := by decide +kernel
theorem dX11_isHearing_84 : decode cX11_isHearing 84 = .ok (.ireturn, 1) := by decide +kernel
theorem dX11_writtenFor_0 : decode cX11_writtenFor 0 = .ok (.aload_n 0, 1) := by decide +kernel
theorem dX11_writtenFor_1 : decode cX11_writtenFor 1 = .ok (.invokevirtual 87, 3) := by decide +kernel
theorem dX11_writtenFor_4 : decode cX11_writtenFor 4 = .ok (.istore_n 2, 1) := by decide +kernel
theorem dX11_writtenFor_5 : decode cX11_writtenFor 5 = .ok (.aload_n 0, 1) := by decide +kernel
theorem dX11_writtenFor_6 : decode cX11_writtenFor 6 = .ok (.getfield 7, 3) := by decide +kernel
theorem dX11_writtenFor_9 : decode cX11_writtenFor 9 = .ok (.iconst 2, 1) := by decide +kernel
theorem dX11_writtenFor_10 : decode cX11_writtenFor 10 = .ok (.iload_n 2, 1) := by decide +kernel
theorem dX11_writtenFor_11 : decode cX11_writtenFor 11 = .ok (.iadd, 1) := by decide +kernel
theorem dX11_writtenFor_12 : decode cX11_writtenFor 12 = .ok (.iaload, 1) := by decide +kernel
theorem dX11_writtenFor_13 : decode cX11_writtenFor 13 = .ok (.istore_n 3, 1) := by decide +kernel
theorem dX11_writtenFor_14 : decode cX11_writtenFor 14 = .ok (.bipush 11, 2) := by decide +kernel
theorem dX11_writtenFor_16 : decode cX11_writtenFor 16 = .ok (.iload_n 3, 1) := by decide +kernel
theorem dX11_writtenFor_17 : decode cX11_writtenFor 17 = .ok (.isub, 1) := by decide +kernel
theorem dX11_writtenFor_18 : decode cX11_writtenFor 18 = .ok (.istore 4, 2) := by decide +kernel
theorem dX11_writtenFor_20 : decode cX11_writtenFor 20 = .ok (.iload_n 2, 1) := by decide +kernel
theorem dX11_writtenFor_21 : decode cX11_writtenFor 21 = .ok (.iconst 2, 1) := by decide +kernel
theorem dX11_writtenFor_22 : decode cX11_writtenFor 22 = .ok (.irem, 1) := by decide +kernel
theorem dX11_writtenFor_23 : decode cX11_writtenFor 23 = .ok (.iconst 1, 1) := by decide +kernel
theorem dX11_writtenFor_24 : decode cX11_writtenFor 24 = .ok (.if_icmp .ne 8, 3) := by decide +kernel
theorem dX11_writtenFor_27 : decode cX11_writtenFor 27 = .ok (.bipush 11, 2) := by decide +kernel
theorem dX11_writtenFor_29 : decode cX11_writtenFor 29 = .ok (.goto 4, 3) := by decide +kernel
theorem dX11_writtenFor_32 : decode cX11_writtenFor 32 = .ok (.iload_n 3, 1) := by decide +kernel
theorem dX11_writtenFor_33 : decode cX11_writtenFor 33 = .ok (.istore 5, 2) := by decide +kernel
theorem dX11_writtenFor_35 : decode cX11_writtenFor 35 = .ok (.aload_n 0, 1) := by decide +kernel
theorem dX11_writtenFor_36 : decode cX11_writtenFor 36 = .ok (.iload_n 1, 1) := by decide +kernel
theorem dX11_writtenFor_37 : decode cX11_writtenFor 37 = .ok (.iconst 0, 1) := by decide +kernel
theorem dX11_writtenFor_38 : decode cX11_writtenFor 38 = .ok (.invokevirtual 59, 3) := by decide +kernel
theorem dX11_writtenFor_41 : decode cX11_writtenFor 41 = .ok (.tableswitch 88 1 5 #[35, 38, 41, 53, 74], 35) := by decide +kernel
theorem dX11_writtenFor_76 : decode cX11_writtenFor 76 = .ok (.iload 4, 2) := by decide +kernel
theorem dX11_writtenFor_78 : decode cX11_writtenFor 78 = .ok (.ireturn, 1) := by decide +kernel
theorem dX11_writtenFor_79 : decode cX11_writtenFor 79 = .ok (.iload 5, 2) := by decide +kernel
theorem dX11_writtenFor_81 : decode cX11_writtenFor 81 = .ok (.ireturn, 1) := by decide +kernel
theorem dX11_writtenFor_82 : decode cX11_writtenFor 82 = .ok (.aload_n 0, 1) := by decide +kernel
theorem dX11_writtenFor_83 : decode cX11_writtenFor 83 = .ok (.iload_n 1, 1) := by decide +kernel
theorem dX11_writtenFor_84 : decode cX11_writtenFor 84 = .ok (.iconst 1, 1) := by decide +kernel
theorem dX11_writtenFor_85 : decode cX11_writtenFor 85 = .ok (.invokevirtual 59, 3) := by decide +kernel
theorem dX11_writtenFor_88 : decode cX11_writtenFor 88 = .ok (.iconst 1, 1) := by decide +kernel
theorem dX11_writtenFor_89 : decode cX11_writtenFor 89 = .ok (.iadd, 1) := by decide +kernel
theorem dX11_writtenFor_90 : decode cX11_writtenFor 90 = .ok (.bipush 12, 2) := by decide +kernel
theorem dX11_writtenFor_92 : decode cX11_writtenFor 92 = .ok (.irem, 1) := by decide +kernel
theorem dX11_writtenFor_93 : decode cX11_writtenFor 93 = .ok (.ireturn, 1) := by decide +kernel
theorem dX11_writtenFor_94 : decode cX11_writtenFor 94 = .ok (.aload_n 0, 1) := by decide +kernel
theorem dX11_writtenFor_95 : decode cX11_writtenFor 95 = .ok (.getfield 7, 3) := by decide +kernel
theorem dX11_writtenFor_98 : decode cX11_writtenFor 98 = .ok (.iconst 0, 1) := by decide +kernel
theorem dX11_writtenFor_99 : decode cX11_writtenFor 99 = .ok (.iaload, 1) := by decide +kernel
theorem dX11_writtenFor_100 : decode cX11_writtenFor 100 = .ok (.bipush 8, 2) := by decide +kernel
theorem dX11_writtenFor_102 : decode cX11_writtenFor 102 = .ok (.irem, 1) := by decide +kernel
theorem dX11_writtenFor_103 : decode cX11_writtenFor 103 = .ok (.bipush 7, 2) := by decide +kernel
theorem dX11_writtenFor_105 : decode cX11_writtenFor 105 = .ok (.if_icmp .ne 7, 3) := by decide +kernel
theorem dX11_writtenFor_108 : decode cX11_writtenFor 108 = .ok (.iconst 5, 1) := by decide +kernel
theorem dX11_writtenFor_109 : decode cX11_writtenFor 109 = .ok (.goto 5, 3) := by decide +kernel
theorem dX11_writtenFor_112 : decode cX11_writtenFor 112 = .ok (.iload 5, 2) := by decide +kernel
theorem dX11_writtenFor_114 : decode cX11_writtenFor 114 = .ok (.ireturn, 1) := by decide +kernel
theorem dX11_writtenFor_115 : decode cX11_writtenFor 115 = .ok (.iload 4, 2) := by decide +kernel
theorem dX11_writtenFor_117 : decode cX11_writtenFor 117 = .ok (.ifCond .le 10, 3) := by decide +kernel
theorem dX11_writtenFor_120 : decode cX11_writtenFor 120 = .ok (.iload 4, 2) := by decide +kernel
theorem dX11_writtenFor_122 : decode cX11_writtenFor 122 = .ok (.iconst 1, 1) := by decide +kernel
theorem dX11_writtenFor_123 : decode cX11_writtenFor 123 = .ok (.isub, 1) := by decide +kernel
theorem dX11_writtenFor_124 : decode cX11_writtenFor 124 = .ok (.goto 4, 3) := by decide +kernel
theorem dX11_writtenFor_127 : decode cX11_writtenFor 127 = .ok (.iconst 0, 1) := by decide +kernel
theorem dX11_writtenFor_128 : decode cX11_writtenFor 128 = .ok (.ireturn, 1) := by decide +kernel
theorem dX11_writtenFor_129 : decode cX11_writtenFor 129 = .ok (.iload_n 3, 1) := by decide +kernel
theorem dX11_writtenFor_130 : decode cX11_writtenFor 130 = .ok (.ireturn, 1) := by decide +kernel
theorem dX11_dueOf_0 : decode cX11_dueOf 0 = .ok (.aload_n 0, 1) := by decide +kernel
theorem dX11_dueOf_1 : decode cX11_dueOf 1 = .ok (.iload_n 1, 1) := by decide +kernel
theorem dX11_dueOf_2 : decode cX11_dueOf 2 = .ok (.invokevirtual 104, 3) := by decide +kernel
theorem dX11_dueOf_5 : decode cX11_dueOf 5 = .ok (.ifCond .eq 7, 3) := by decide +kernel
theorem dX11_dueOf_8 : decode cX11_dueOf 8 = .ok (.iconst 0, 1) := by decide +kernel
theorem dX11_dueOf_9 : decode cX11_dueOf 9 = .ok (.goto 8, 3) := by decide +kernel
theorem dX11_dueOf_12 : decode cX11_dueOf 12 = .ok (.aload_n 0, 1) := by decide +kernel
theorem dX11_dueOf_13 : decode cX11_dueOf 13 = .ok (.iload_n 1, 1) := by decide +kernel
theorem dX11_dueOf_14 : decode cX11_dueOf 14 = .ok (.invokevirtual 107, 3) := by decide +kernel
theorem dX11_dueOf_17 : decode cX11_dueOf 17 = .ok (.ireturn, 1) := by decide +kernel
theorem dX11_signOf_0 : decode cX11_signOf 0 = .ok (.iload_n 0, 1) := by decide +kernel
theorem dX11_signOf_1 : decode cX11_signOf 1 = .ok (.ifCond .le 7, 3) := by decide +kernel
theorem dX11_signOf_4 : decode cX11_signOf 4 = .ok (.iconst 1, 1) := by decide +kernel
theorem dX11_signOf_5 : decode cX11_signOf 5 = .ok (.goto 12, 3) := by decide +kernel
theorem dX11_signOf_8 : decode cX11_signOf 8 = .ok (.iload_n 0, 1) := by decide +kernel
theorem dX11_signOf_9 : decode cX11_signOf 9 = .ok (.ifCond .ge 7, 3) := by decide +kernel
theorem dX11_signOf_12 : decode cX11_signOf 12 = .ok (.iconst (-1), 1) := by decide +kernel
theorem dX11_signOf_13 : decode cX11_signOf 13 = .ok (.goto 4, 3) := by decide +kernel
theorem dX11_signOf_16 : decode cX11_signOf 16 = .ok (.iconst 0, 1) := by decide +kernel
theorem dX11_signOf_17 : decode cX11_signOf 17 = .ok (.ireturn, 1) := by decide +kernel
theorem dX11_isBarred_0 : decode cX11_isBarred 0 = .ok (.aload_n 0, 1) := by decide +kernel
theorem dX11_isBarred_1 : decode cX11_isBarred 1 = .ok (.iload_n 1, 1) := by decide +kernel
theorem dX11_isBarred_2 : decode cX11_isBarred 2 = .ok (.iconst 1, 1) := by decide +kernel
theorem dX11_isBarred_3 : decode cX11_isBarred 3 = .ok (.invokevirtual 59, 3) := by decide +kernel
theorem dX11_isBarred_6 : decode cX11_isBarred 6 = .ok (.istore_n 2, 1) := by decide +kernel
theorem dX11_isBarred_7 : decode cX11_isBarred 7 = .ok (.iload_n 2, 1) := by decide +kernel
theorem dX11_isBarred_8 : decode cX11_isBarred 8 = .ok (.aload_n 0, 1) := by decide +kernel
theorem dX11_isBarred_9 : decode cX11_isBarred 9 = .ok (.iload_n 1, 1) := by decide +kernel
theorem dX11_isBarred_10 : decode cX11_isBarred 10 = .ok (.invokevirtual 84, 3) := by decide +kernel
theorem dX11_isBarred_13 : decode cX11_isBarred 13 = .ok (.iload_n 2, 1) := by decide +kernel
theorem dX11_isBarred_14 : decode cX11_isBarred 14 = .ok (.isub, 1) := by decide +kernel
theorem dX11_isBarred_15 : decode cX11_isBarred 15 = .ok (.invokestatic 110, 3) := by decide +kernel
theorem dX11_isBarred_18 : decode cX11_isBarred 18 = .ok (.iadd, 1) := by decide +kernel
theorem dX11_isBarred_19 : decode cX11_isBarred 19 = .ok (.istore_n 3, 1) := by decide +kernel
theorem dX11_isBarred_20 : decode cX11_isBarred 20 = .ok (.iload_n 3, 1) := by decide +kernel
theorem dX11_isBarred_21 : decode cX11_isBarred 21 = .ok (.iload_n 2, 1) := by decide +kernel
theorem dX11_isBarred_22 : decode cX11_isBarred 22 = .ok (.if_icmp .eq 15, 3) := by decide +kernel
theorem dX11_isBarred_25 : decode cX11_isBarred 25 = .ok (.aload_n 0, 1) := by decide +kernel
theorem dX11_isBarred_26 : decode cX11_isBarred 26 = .ok (.iload_n 3, 1) := by decide +kernel
theorem dX11_isBarred_27 : decode cX11_isBarred 27 = .ok (.invokevirtual 101, 3) := by decide +kernel
theorem dX11_isBarred_30 : decode cX11_isBarred 30 = .ok (.ifCond .eq 7, 3) := by decide +kernel
theorem dX11_isBarred_33 : decode cX11_isBarred 33 = .ok (.iconst 1, 1) := by decide +kernel
theorem dX11_isBarred_34 : decode cX11_isBarred 34 = .ok (.goto 4, 3) := by decide +kernel
theorem dX11_isBarred_37 : decode cX11_isBarred 37 = .ok (.iconst 0, 1) := by decide +kernel
theorem dX11_isBarred_38 : decode cX11_isBarred 38 = .ok (.ireturn, 1) := by decide +kernel
theorem dX11_walksOf_0 : decode cX11_walksOf 0 = .ok (.aload_n 0, 1) := by decide +kernel
theorem dX11_walksOf_1 : decode cX11_walksOf 1 = .ok (.iload_n 1, 1) := by decide +kernel
theorem dX11_walksOf_2 : decode cX11_walksOf 2 = .ok (.iconst 2, 1) := by decide +kernel
theorem dX11_walksOf_3 : decode cX11_walksOf 3 = .ok (.invokevirtual 59, 3) := by decide +kernel
theorem dX11_walksOf_6 : decode cX11_walksOf 6 = .ok (.istore_n 2, 1) := by decide +kernel
theorem dX11_walksOf_7 : decode cX11_walksOf 7 = .ok (.aload_n 0, 1) := by decide +kernel
theorem dX11_walksOf_8 : decode cX11_walksOf 8 = .ok (.iload_n 1, 1) := by decide +kernel
theorem dX11_walksOf_9 : decode cX11_walksOf 9 = .ok (.iconst 0, 1) := by decide +kernel
theorem dX11_walksOf_10 : decode cX11_walksOf 10 = .ok (.invokevirtual 59, 3) := by decide +kernel
theorem dX11_walksOf_13 : decode cX11_walksOf 13 = .ok (.tableswitch 59 1 5 #[35, 49, 51, 55, 35], 35) := by decide +kernel
theorem dX11_walksOf_48 : decode cX11_walksOf 48 = .ok (.aload_n 0, 1) := by decide +kernel
theorem dX11_walksOf_49 : decode cX11_walksOf 49 = .ok (.iload_n 1, 1) := by decide +kernel
theorem dX11_walksOf_50 : decode cX11_walksOf 50 = .ok (.invokevirtual 113, 3) := by decide +kernel
theorem dX11_walksOf_53 : decode cX11_walksOf 53 = .ok (.ifCond .eq 7, 3) := by decide +kernel
theorem dX11_walksOf_56 : decode cX11_walksOf 56 = .ok (.iconst 0, 1) := by decide +kernel
theorem dX11_walksOf_57 : decode cX11_walksOf 57 = .ok (.goto 4, 3) := by decide +kernel
theorem dX11_walksOf_60 : decode cX11_walksOf 60 = .ok (.iload_n 2, 1) := by decide +kernel
theorem dX11_walksOf_61 : decode cX11_walksOf 61 = .ok (.ireturn, 1) := by decide +kernel
theorem dX11_walksOf_62 : decode cX11_walksOf 62 = .ok (.iconst 1, 1) := by decide +kernel
theorem dX11_walksOf_63 : decode cX11_walksOf 63 = .ok (.ireturn, 1) := by decide +kernel
theorem dX11_walksOf_64 : decode cX11_walksOf 64 = .ok (.iconst 2, 1) := by decide +kernel
theorem dX11_walksOf_65 : decode cX11_walksOf 65 = .ok (.iload_n 2, 1) := by decide +kernel
theorem dX11_walksOf_66 : decode cX11_walksOf 66 = .ok (.imul, 1) := by decide +kernel
theorem dX11_walksOf_67 : decode cX11_walksOf 67 = .ok (.ireturn, 1) := by decide +kernel
theorem dX11_walksOf_68 : decode cX11_walksOf 68 = .ok (.iconst 1, 1) := by decide +kernel
theorem dX11_walksOf_69 : decode cX11_walksOf 69 = .ok (.iload_n 2, 1) := by decide +kernel
theorem dX11_walksOf_70 : decode cX11_walksOf 70 = .ok (.iadd, 1) := by decide +kernel
theorem dX11_walksOf_71 : decode cX11_walksOf 71 = .ok (.ireturn, 1) := by decide +kernel
theorem dX11_walksOf_72 : decode cX11_walksOf 72 = .ok (.iload_n 2, 1) := by decide +kernel
theorem dX11_walksOf_73 : decode cX11_walksOf 73 = .ok (.ireturn, 1) := by decide +kernel
theorem dX11_spoilsOf_0 : decode cX11_spoilsOf 0 = .ok (.aload_n 0, 1) := by decide +kernel
theorem dX11_spoilsOf_1 : decode cX11_spoilsOf 1 = .ok (.iload_n 1, 1) := by decide +kernel
theorem dX11_spoilsOf_2 : decode cX11_spoilsOf 2 = .ok (.iconst 0, 1) := by decide +kernel
theorem dX11_spoilsOf_3 : decode cX11_spoilsOf 3 = .ok (.invokevirtual 59, 3) := by decide +kernel
theorem dX11_spoilsOf_6 : decode cX11_spoilsOf 6 = .ok (.tableswitch 44 1 5 #[34, 36, 38, 40, 42], 34) := by decide +kernel
theorem dX11_spoilsOf_40 : decode cX11_spoilsOf 40 = .ok (.iconst 2, 1) := by decide +kernel
theorem dX11_spoilsOf_41 : decode cX11_spoilsOf 41 = .ok (.ireturn, 1) := by decide +kernel
theorem dX11_spoilsOf_42 : decode cX11_spoilsOf 42 = .ok (.iconst 0, 1) := by decide +kernel
theorem dX11_spoilsOf_43 : decode cX11_spoilsOf 43 = .ok (.ireturn, 1) := by decide +kernel
theorem dX11_spoilsOf_44 : decode cX11_spoilsOf 44 = .ok (.iconst 5, 1) := by decide +kernel
theorem dX11_spoilsOf_45 : decode cX11_spoilsOf 45 = .ok (.ireturn, 1) := by decide +kernel
theorem dX11_spoilsOf_46 : decode cX11_spoilsOf 46 = .ok (.iconst 3, 1) := by decide +kernel
theorem dX11_spoilsOf_47 : decode cX11_spoilsOf 47 = .ok (.ireturn, 1) := by decide +kernel
theorem dX11_spoilsOf_48 : decode cX11_spoilsOf 48 = .ok (.iconst 4, 1) := by decide +kernel
theorem dX11_spoilsOf_49 : decode cX11_spoilsOf 49 = .ok (.ireturn, 1) := by decide +kernel
theorem dX11_spoilsOf_50 : decode cX11_spoilsOf 50 = .ok (.iconst 1, 1) := by decide +kernel
theorem dX11_spoilsOf_51 : decode cX11_spoilsOf 51 = .ok (.ireturn, 1) := by decide +kernel
theorem dX11_adds_0 : decode cX11_adds 0 = .ok (.aload_n 0, 1) := by decide +kernel
theorem dX11_adds_1 : decode cX11_adds 1 = .ok (.getfield 7, 3) := by decide +kernel
theorem dX11_adds_4 : decode cX11_adds 4 = .ok (.iconst 1, 1) := by decide +kernel
theorem dX11_adds_5 : decode cX11_adds 5 = .ok (.iaload, 1) := by decide +kernel
theorem dX11_adds_6 : decode cX11_adds 6 = .ok (.istore_n 3, 1) := by decide +kernel
theorem dX11_adds_7 : decode cX11_adds 7 = .ok (.aload_n 0, 1) := by decide +kernel
theorem dX11_adds_8 : decode cX11_adds 8 = .ok (.getfield 7, 3) := by decide +kernel
theorem dX11_adds_11 : decode cX11_adds 11 = .ok (.iconst 1, 1) := by decide +kernel
theorem dX11_adds_12 : decode cX11_adds 12 = .ok (.dup2, 1) := by decide +kernel
theorem dX11_adds_13 : decode cX11_adds 13 = .ok (.iaload, 1) := by decide +kernel
theorem dX11_adds_14 : decode cX11_adds 14 = .ok (.iconst 1, 1) := by decide +kernel
theorem dX11_adds_15 : decode cX11_adds 15 = .ok (.iadd, 1) := by decide +kernel
theorem dX11_adds_16 : decode cX11_adds 16 = .ok (.iastore, 1) := by decide +kernel
theorem dX11_adds_17 : decode cX11_adds 17 = .ok (.aload_n 0, 1) := by decide +kernel
theorem dX11_adds_18 : decode cX11_adds 18 = .ok (.getfield 7, 3) := by decide +kernel
theorem dX11_adds_21 : decode cX11_adds 21 = .ok (.iload_n 3, 1) := by decide +kernel
theorem dX11_adds_22 : decode cX11_adds 22 = .ok (.iconst 0, 1) := by decide +kernel
theorem dX11_adds_23 : decode cX11_adds 23 = .ok (.invokestatic 45, 3) := by decide +kernel
theorem dX11_adds_26 : decode cX11_adds 26 = .ok (.iload_n 1, 1) := by decide +kernel
theorem dX11_adds_27 : decode cX11_adds 27 = .ok (.iastore, 1) := by decide +kernel
theorem dX11_adds_28 : decode cX11_adds 28 = .ok (.aload_n 0, 1) := by decide +kernel
theorem dX11_adds_29 : decode cX11_adds 29 = .ok (.getfield 7, 3) := by decide +kernel
theorem dX11_adds_32 : decode cX11_adds 32 = .ok (.iload_n 3, 1) := by decide +kernel
theorem dX11_adds_33 : decode cX11_adds 33 = .ok (.iconst 1, 1) := by decide +kernel
theorem dX11_adds_34 : decode cX11_adds 34 = .ok (.invokestatic 45, 3) := by decide +kernel
theorem dX11_adds_37 : decode cX11_adds 37 = .ok (.iload_n 2, 1) := by decide +kernel
theorem dX11_adds_38 : decode cX11_adds 38 = .ok (.iastore, 1) := by decide +kernel
theorem dX11_adds_39 : decode cX11_adds 39 = .ok (.aload_n 0, 1) := by decide +kernel
theorem dX11_adds_40 : decode cX11_adds 40 = .ok (.getfield 7, 3) := by decide +kernel
theorem dX11_adds_43 : decode cX11_adds 43 = .ok (.iload_n 3, 1) := by decide +kernel
theorem dX11_adds_44 : decode cX11_adds 44 = .ok (.iconst 2, 1) := by decide +kernel
theorem dX11_adds_45 : decode cX11_adds 45 = .ok (.invokestatic 45, 3) := by decide +kernel
theorem dX11_adds_48 : decode cX11_adds 48 = .ok (.iconst 1, 1) := by decide +kernel
theorem dX11_adds_49 : decode cX11_adds 49 = .ok (.iastore, 1) := by decide +kernel
theorem dX11_adds_50 : decode cX11_adds 50 = .ok (.aload_n 0, 1) := by decide +kernel
theorem dX11_adds_51 : decode cX11_adds 51 = .ok (.getfield 7, 3) := by decide +kernel
theorem dX11_adds_54 : decode cX11_adds 54 = .ok (.iload_n 3, 1) := by decide +kernel
theorem dX11_adds_55 : decode cX11_adds 55 = .ok (.iconst 3, 1) := by decide +kernel
theorem dX11_adds_56 : decode cX11_adds 56 = .ok (.invokestatic 45, 3) := by decide +kernel
theorem dX11_adds_59 : decode cX11_adds 59 = .ok (.iconst 0, 1) := by decide +kernel
theorem dX11_adds_60 : decode cX11_adds 60 = .ok (.iastore, 1) := by decide +kernel
theorem dX11_adds_61 : decode cX11_adds 61 = .ok (.aload_n 0, 1) := by decide +kernel
theorem dX11_adds_62 : decode cX11_adds 62 = .ok (.getfield 7, 3) := by decide +kernel
theorem dX11_adds_65 : decode cX11_adds 65 = .ok (.iload_n 3, 1) := by decide +kernel
theorem dX11_adds_66 : decode cX11_adds 66 = .ok (.iconst 4, 1) := by decide +kernel
theorem dX11_adds_67 : decode cX11_adds 67 = .ok (.invokestatic 45, 3) := by decide +kernel
theorem dX11_adds_70 : decode cX11_adds 70 = .ok (.iconst 0, 1) := by decide +kernel
theorem dX11_adds_71 : decode cX11_adds 71 = .ok (.iastore, 1) := by decide +kernel
theorem dX11_adds_72 : decode cX11_adds 72 = .ok (.iload_n 3, 1) := by decide +kernel
theorem dX11_adds_73 : decode cX11_adds 73 = .ok (.ireturn, 1) := by decide +kernel
theorem dX11_person_0 : decode cX11_person 0 = .ok (.iload_n 1, 1) := by decide +kernel
theorem dX11_person_1 : decode cX11_person 1 = .ok (.invokestatic 116, 3) := by decide +kernel
theorem dX11_person_4 : decode cX11_person 4 = .ok (.ifCond .eq 10, 3) := by decide +kernel
theorem dX11_person_7 : decode cX11_person 7 = .ok (.iload_n 2, 1) := by decide +kernel
theorem dX11_person_8 : decode cX11_person 8 = .ok (.invokestatic 70, 3) := by decide +kernel
theorem dX11_person_11 : decode cX11_person 11 = .ok (.ifCond .ne 10, 3) := by decide +kernel
theorem dX11_person_14 : decode cX11_person 14 = .ok (.aload_n 0, 1) := by decide +kernel
theorem dX11_person_15 : decode cX11_person 15 = .ok (.ldc 44, 2) := by decide +kernel
theorem dX11_person_17 : decode cX11_person 17 = .ok (.invokevirtual 76, 3) := by decide +kernel
theorem dX11_person_20 : decode cX11_person 20 = .ok (.ireturn, 1) := by decide +kernel
theorem dX11_person_21 : decode cX11_person 21 = .ok (.aload_n 0, 1) := by decide +kernel
theorem dX11_person_22 : decode cX11_person 22 = .ok (.getfield 7, 3) := by decide +kernel
theorem dX11_person_25 : decode cX11_person 25 = .ok (.iconst 1, 1) := by decide +kernel
theorem dX11_person_26 : decode cX11_person 26 = .ok (.iaload, 1) := by decide +kernel
theorem dX11_person_27 : decode cX11_person 27 = .ok (.bipush 8, 2) := by decide +kernel
theorem dX11_person_29 : decode cX11_person 29 = .ok (.if_icmp .ne 12, 3) := by decide +kernel
theorem dX11_person_32 : decode cX11_person 32 = .ok (.aload_n 0, 1) := by decide +kernel
theorem dX11_person_33 : decode cX11_person 33 = .ok (.ldc 119, 2) := by decide +kernel
theorem dX11_person_35 : decode cX11_person 35 = .ok (.invokevirtual 76, 3) := by decide +kernel
theorem dX11_person_38 : decode cX11_person 38 = .ok (.goto 9, 3) := by decide +kernel
theorem dX11_person_41 : decode cX11_person 41 = .ok (.aload_n 0, 1) := by decide +kernel
theorem dX11_person_42 : decode cX11_person 42 = .ok (.iload_n 1, 1) := by decide +kernel
theorem dX11_person_43 : decode cX11_person 43 = .ok (.iload_n 2, 1) := by decide +kernel
theorem dX11_person_44 : decode cX11_person 44 = .ok (.invokevirtual 120, 3) := by decide +kernel
theorem dX11_person_47 : decode cX11_person 47 = .ok (.ireturn, 1) := by decide +kernel
theorem dX11_of_0 : decode cX11_of 0 = .ok (.aload_n 0, 1) := by decide +kernel
theorem dX11_of_1 : decode cX11_of 1 = .ok (.iload_n 1, 1) := by decide +kernel
theorem dX11_of_2 : decode cX11_of 2 = .ok (.invokevirtual 123, 3) := by decide +kernel
theorem dX11_of_5 : decode cX11_of 5 = .ok (.ifCond .eq 15, 3) := by decide +kernel
theorem dX11_of_8 : decode cX11_of 8 = .ok (.iload_n 2, 1) := by decide +kernel
theorem dX11_of_9 : decode cX11_of 9 = .ok (.i2l, 1) := by decide +kernel
theorem dX11_of_10 : decode cX11_of 10 = .ok (.lconst 0, 1) := by decide +kernel
theorem dX11_of_11 : decode cX11_of 11 = .ok (.ldc2_w 126, 3) := by decide +kernel
theorem dX11_of_14 : decode cX11_of 14 = .ok (.invokestatic 49, 3) := by decide +kernel
theorem dX11_of_17 : decode cX11_of 17 = .ok (.ifCond .ne 10, 3) := by decide +kernel
theorem dX11_of_20 : decode cX11_of 20 = .ok (.aload_n 0, 1) := by decide +kernel
theorem dX11_of_21 : decode cX11_of 21 = .ok (.ldc 44, 2) := by decide +kernel
theorem dX11_of_23 : decode cX11_of 23 = .ok (.invokevirtual 76, 3) := by decide +kernel
theorem dX11_of_26 : decode cX11_of 26 = .ok (.ireturn, 1) := by decide +kernel
theorem dX11_of_27 : decode cX11_of 27 = .ok (.iload_n 2, 1) := by decide +kernel
theorem dX11_of_28 : decode cX11_of 28 = .ok (.iconst 4, 1) := by decide +kernel
theorem dX11_of_29 : decode cX11_of 29 = .ok (.if_icmp .gt 10, 3) := by decide +kernel
theorem dX11_of_32 : decode cX11_of 32 = .ok (.aload_n 0, 1) := by decide +kernel
theorem dX11_of_33 : decode cX11_of 33 = .ok (.iload_n 1, 1) := by decide +kernel
theorem dX11_of_34 : decode cX11_of 34 = .ok (.iload_n 2, 1) := by decide +kernel
theorem dX11_of_35 : decode cX11_of 35 = .ok (.invokevirtual 59, 3) := by decide +kernel
theorem dX11_of_38 : decode cX11_of 38 = .ok (.ireturn, 1) := by decide +kernel
theorem dX11_of_39 : decode cX11_of 39 = .ok (.iload_n 2, 1) := by decide +kernel
theorem dX11_of_40 : decode cX11_of 40 = .ok (.iconst 5, 1) := by decide +kernel
theorem dX11_of_41 : decode cX11_of 41 = .ok (.if_icmp .ne 11, 3) := by decide +kernel
theorem dX11_of_44 : decode cX11_of 44 = .ok (.aload_n 0, 1) := by decide +kernel
theorem dX11_of_45 : decode cX11_of 45 = .ok (.iload_n 1, 1) := by decide +kernel
theorem dX11_of_46 : decode cX11_of 46 = .ok (.invokevirtual 84, 3) := by decide +kernel
theorem dX11_of_49 : decode cX11_of 49 = .ok (.goto 44, 3) := by decide +kernel
theorem dX11_of_52 : decode cX11_of 52 = .ok (.iload_n 2, 1) := by decide +kernel
theorem dX11_of_53 : decode cX11_of 53 = .ok (.bipush 6, 2) := by decide +kernel
theorem dX11_of_55 : decode cX11_of 55 = .ok (.if_icmp .ne 19, 3) := by decide +kernel
theorem dX11_of_58 : decode cX11_of 58 = .ok (.aload_n 0, 1) := by decide +kernel
theorem dX11_of_59 : decode cX11_of 59 = .ok (.iload_n 1, 1) := by decide +kernel
theorem dX11_of_60 : decode cX11_of 60 = .ok (.invokevirtual 104, 3) := by decide +kernel
theorem dX11_of_63 : decode cX11_of 63 = .ok (.ifCond .eq 7, 3) := by decide +kernel
theorem dX11_of_66 : decode cX11_of 66 = .ok (.iconst 1, 1) := by decide +kernel
theorem dX11_of_67 : decode cX11_of 67 = .ok (.goto 26, 3) := by decide +kernel
theorem dX11_of_70 : decode cX11_of 70 = .ok (.iconst 0, 1) := by decide +kernel
theorem dX11_of_71 : decode cX11_of 71 = .ok (.goto 22, 3) := by decide +kernel
theorem dX11_of_74 : decode cX11_of 74 = .ok (.iload_n 2, 1) := by decide +kernel
theorem dX11_of_75 : decode cX11_of 75 = .ok (.bipush 7, 2) := by decide +kernel
theorem dX11_of_77 : decode cX11_of 77 = .ok (.if_icmp .ne 11, 3) := by decide +kernel
theorem dX11_of_80 : decode cX11_of 80 = .ok (.aload_n 0, 1) := by decide +kernel
theorem dX11_of_81 : decode cX11_of 81 = .ok (.iload_n 1, 1) := by decide +kernel
theorem dX11_of_82 : decode cX11_of 82 = .ok (.invokevirtual 128, 3) := by decide +kernel
theorem dX11_of_85 : decode cX11_of 85 = .ok (.goto 8, 3) := by decide +kernel
theorem dX11_of_88 : decode cX11_of 88 = .ok (.aload_n 0, 1) := by decide +kernel
theorem dX11_of_89 : decode cX11_of 89 = .ok (.iload_n 1, 1) := by decide +kernel
theorem dX11_of_90 : decode cX11_of 90 = .ok (.invokevirtual 131, 3) := by decide +kernel
theorem dX11_of_93 : decode cX11_of 93 = .ok (.ireturn, 1) := by decide +kernel
theorem dX11_set_0 : decode cX11_set 0 = .ok (.iload_n 2, 1) := by decide +kernel
theorem dX11_set_1 : decode cX11_set 1 = .ok (.i2l, 1) := by decide +kernel
theorem dX11_set_2 : decode cX11_set 2 = .ok (.lconst 1, 1) := by decide +kernel
theorem dX11_set_3 : decode cX11_set 3 = .ok (.ldc2_w 134, 3) := by decide +kernel
theorem dX11_set_6 : decode cX11_set 6 = .ok (.invokestatic 49, 3) := by decide +kernel
theorem dX11_set_9 : decode cX11_set 9 = .ok (.ifCond .eq 50, 3) := by decide +kernel
theorem dX11_set_12 : decode cX11_set 12 = .ok (.iload_n 3, 1) := by decide +kernel
theorem dX11_set_13 : decode cX11_set 13 = .ok (.i2l, 1) := by decide +kernel
theorem dX11_set_14 : decode cX11_set 14 = .ok (.iload_n 2, 1) := by decide +kernel
theorem dX11_set_15 : decode cX11_set 15 = .ok (.iconst 2, 1) := by decide +kernel
theorem dX11_set_16 : decode cX11_set 16 = .ok (.if_icmp .ne 7, 3) := by decide +kernel
theorem dX11_set_19 : decode cX11_set 19 = .ok (.lconst 1, 1) := by decide +kernel
theorem dX11_set_20 : decode cX11_set 20 = .ok (.goto 4, 3) := by decide +kernel
theorem dX11_set_23 : decode cX11_set 23 = .ok (.lconst 0, 1) := by decide +kernel
theorem dX11_set_24 : decode cX11_set 24 = .ok (.iload_n 2, 1) := by decide +kernel
theorem dX11_set_25 : decode cX11_set 25 = .ok (.iconst 1, 1) := by decide +kernel
theorem dX11_set_26 : decode cX11_set 26 = .ok (.if_icmp .ne 9, 3) := by decide +kernel
theorem dX11_set_29 : decode cX11_set 29 = .ok (.ldc2_w 53, 3) := by decide +kernel
theorem dX11_set_32 : decode cX11_set 32 = .ok (.goto 17, 3) := by decide +kernel
theorem dX11_set_35 : decode cX11_set 35 = .ok (.iload_n 2, 1) := by decide +kernel
theorem dX11_set_36 : decode cX11_set 36 = .ok (.iconst 2, 1) := by decide +kernel
theorem dX11_set_37 : decode cX11_set 37 = .ok (.if_icmp .ne 9, 3) := by decide +kernel
theorem dX11_set_40 : decode cX11_set 40 = .ok (.ldc2_w 134, 3) := by decide +kernel
theorem dX11_set_43 : decode cX11_set 43 = .ok (.goto 6, 3) := by decide +kernel
theorem dX11_set_46 : decode cX11_set 46 = .ok (.ldc2_w 136, 3) := by decide +kernel
theorem dX11_set_49 : decode cX11_set 49 = .ok (.invokestatic 49, 3) := by decide +kernel
theorem dX11_set_52 : decode cX11_set 52 = .ok (.ifCond .eq 7, 3) := by decide +kernel
theorem dX11_set_55 : decode cX11_set 55 = .ok (.iconst 1, 1) := by decide +kernel
theorem dX11_set_56 : decode cX11_set 56 = .ok (.goto 4, 3) := by decide +kernel
theorem dX11_set_59 : decode cX11_set 59 = .ok (.iconst 0, 1) := by decide +kernel
theorem dX11_set_60 : decode cX11_set 60 = .ok (.istore 4, 2) := by decide +kernel
theorem dX11_set_62 : decode cX11_set 62 = .ok (.aload_n 0, 1) := by decide +kernel
theorem dX11_set_63 : decode cX11_set 63 = .ok (.iload_n 1, 1) := by decide +kernel
theorem dX11_set_64 : decode cX11_set 64 = .ok (.invokevirtual 123, 3) := by decide +kernel
theorem dX11_set_67 : decode cX11_set 67 = .ok (.ifCond .eq 21, 3) := by decide +kernel
theorem dX11_set_70 : decode cX11_set 70 = .ok (.iload 4, 2) := by decide +kernel
theorem dX11_set_72 : decode cX11_set 72 = .ok (.ifCond .eq 16, 3) := by decide +kernel
theorem dX11_set_75 : decode cX11_set 75 = .ok (.aload_n 0, 1) := by decide +kernel
theorem dX11_set_76 : decode cX11_set 76 = .ok (.iload_n 1, 1) := by decide +kernel
theorem dX11_set_77 : decode cX11_set 77 = .ok (.iload_n 2, 1) := by decide +kernel
theorem dX11_set_78 : decode cX11_set 78 = .ok (.invokestatic 45, 3) := by decide +kernel
theorem dX11_set_81 : decode cX11_set 81 = .ok (.iload_n 3, 1) := by decide +kernel
theorem dX11_set_82 : decode cX11_set 82 = .ok (.invokevirtual 73, 3) := by decide +kernel
theorem dX11_set_85 : decode cX11_set 85 = .ok (.goto 9, 3) := by decide +kernel
theorem dX11_set_88 : decode cX11_set 88 = .ok (.aload_n 0, 1) := by decide +kernel
theorem dX11_set_89 : decode cX11_set 89 = .ok (.ldc 44, 2) := by decide +kernel
theorem dX11_set_91 : decode cX11_set 91 = .ok (.invokevirtual 76, 3) := by decide +kernel
theorem dX11_set_94 : decode cX11_set 94 = .ok (.ireturn, 1) := by decide +kernel
theorem dX11_turn_0 : decode cX11_turn 0 = .ok (.aload_n 0, 1) := by decide +kernel
theorem dX11_turn_1 : decode cX11_turn 1 = .ok (.iload_n 1, 1) := by decide +kernel
theorem dX11_turn_2 : decode cX11_turn 2 = .ok (.invokevirtual 123, 3) := by decide +kernel
theorem dX11_turn_5 : decode cX11_turn 5 = .ok (.ifCond .eq 23, 3) := by decide +kernel
theorem dX11_turn_8 : decode cX11_turn 8 = .ok (.iload_n 2, 1) := by decide +kernel
theorem dX11_turn_9 : decode cX11_turn 9 = .ok (.invokestatic 116, 3) := by decide +kernel
theorem dX11_turn_12 : decode cX11_turn 12 = .ok (.ifCond .eq 16, 3) := by decide +kernel
theorem dX11_turn_15 : decode cX11_turn 15 = .ok (.aload_n 0, 1) := by decide +kernel
theorem dX11_turn_16 : decode cX11_turn 16 = .ok (.iload_n 1, 1) := by decide +kernel
theorem dX11_turn_17 : decode cX11_turn 17 = .ok (.iconst 0, 1) := by decide +kernel
theorem dX11_turn_18 : decode cX11_turn 18 = .ok (.invokestatic 45, 3) := by decide +kernel
theorem dX11_turn_21 : decode cX11_turn 21 = .ok (.iload_n 2, 1) := by decide +kernel
theorem dX11_turn_22 : decode cX11_turn 22 = .ok (.invokevirtual 73, 3) := by decide +kernel
theorem dX11_turn_25 : decode cX11_turn 25 = .ok (.goto 9, 3) := by decide +kernel
theorem dX11_turn_28 : decode cX11_turn 28 = .ok (.aload_n 0, 1) := by decide +kernel
theorem dX11_turn_29 : decode cX11_turn 29 = .ok (.ldc 44, 2) := by decide +kernel
theorem dX11_turn_31 : decode cX11_turn 31 = .ok (.invokevirtual 76, 3) := by decide +kernel
theorem dX11_turn_34 : decode cX11_turn 34 = .ok (.ireturn, 1) := by decide +kernel
theorem dX11_isUnder_0 : decode cX11_isUnder 0 = .ok (.iload_n 1, 1) := by decide +kernel
theorem dX11_isUnder_1 : decode cX11_isUnder 1 = .ok (.ifCond .eq 28, 3) := by decide +kernel
theorem dX11_isUnder_4 : decode cX11_isUnder 4 = .ok (.iload_n 0, 1) := by decide +kernel
theorem dX11_isUnder_5 : decode cX11_isUnder 5 = .ok (.iload_n 1, 1) := by decide +kernel
theorem dX11_isUnder_6 : decode cX11_isUnder 6 = .ok (.if_icmp .eq 23, 3) := by decide +kernel
theorem dX11_isUnder_9 : decode cX11_isUnder 9 = .ok (.iload_n 0, 1) := by decide +kernel
theorem dX11_isUnder_10 : decode cX11_isUnder 10 = .ok (.iconst 4, 1) := by decide +kernel
theorem dX11_isUnder_11 : decode cX11_isUnder 11 = .ok (.if_icmp .ne 8, 3) := by decide +kernel
theorem dX11_isUnder_14 : decode cX11_isUnder 14 = .ok (.iload_n 1, 1) := by decide +kernel
theorem dX11_isUnder_15 : decode cX11_isUnder 15 = .ok (.iconst 2, 1) := by decide +kernel
theorem dX11_isUnder_16 : decode cX11_isUnder 16 = .ok (.if_icmp .eq 13, 3) := by decide +kernel
theorem dX11_isUnder_19 : decode cX11_isUnder 19 = .ok (.iload_n 0, 1) := by decide +kernel
theorem dX11_isUnder_20 : decode cX11_isUnder 20 = .ok (.iconst 5, 1) := by decide +kernel
theorem dX11_isUnder_21 : decode cX11_isUnder 21 = .ok (.if_icmp .ne 12, 3) := by decide +kernel
theorem dX11_isUnder_24 : decode cX11_isUnder 24 = .ok (.iload_n 1, 1) := by decide +kernel
theorem dX11_isUnder_25 : decode cX11_isUnder 25 = .ok (.iconst 1, 1) := by decide +kernel
theorem dX11_isUnder_26 : decode cX11_isUnder 26 = .ok (.if_icmp .ne 7, 3) := by decide +kernel
theorem dX11_isUnder_29 : decode cX11_isUnder 29 = .ok (.iconst 1, 1) := by decide +kernel
theorem dX11_isUnder_30 : decode cX11_isUnder 30 = .ok (.goto 4, 3) := by decide +kernel
theorem dX11_isUnder_33 : decode cX11_isUnder 33 = .ok (.iconst 0, 1) := by decide +kernel
theorem dX11_isUnder_34 : decode cX11_isUnder 34 = .ok (.ireturn, 1) := by decide +kernel
theorem dX11_as_0 : decode cX11_as 0 = .ok (.aload_n 0, 1) := by decide +kernel
theorem dX11_as_1 : decode cX11_as 1 = .ok (.iload_n 1, 1) := by decide +kernel
theorem dX11_as_2 : decode cX11_as 2 = .ok (.invokevirtual 123, 3) := by decide +kernel
theorem dX11_as_5 : decode cX11_as 5 = .ok (.ifCond .eq 10, 3) := by decide +kernel
theorem dX11_as_8 : decode cX11_as 8 = .ok (.iload_n 2, 1) := by decide +kernel
theorem dX11_as_9 : decode cX11_as 9 = .ok (.invokestatic 116, 3) := by decide +kernel
theorem dX11_as_12 : decode cX11_as 12 = .ok (.ifCond .ne 10, 3) := by decide +kernel
theorem dX11_as_15 : decode cX11_as 15 = .ok (.aload_n 0, 1) := by decide +kernel
theorem dX11_as_16 : decode cX11_as 16 = .ok (.ldc 44, 2) := by decide +kernel
theorem dX11_as_18 : decode cX11_as 18 = .ok (.invokevirtual 76, 3) := by decide +kernel
theorem dX11_as_21 : decode cX11_as 21 = .ok (.ireturn, 1) := by decide +kernel
theorem dX11_as_22 : decode cX11_as 22 = .ok (.aload_n 0, 1) := by decide +kernel
theorem dX11_as_23 : decode cX11_as 23 = .ok (.iload_n 1, 1) := by decide +kernel
theorem dX11_as_24 : decode cX11_as 24 = .ok (.iconst 0, 1) := by decide +kernel
theorem dX11_as_25 : decode cX11_as 25 = .ok (.invokevirtual 59, 3) := by decide +kernel
theorem dX11_as_28 : decode cX11_as 28 = .ok (.iload_n 2, 1) := by decide +kernel
theorem dX11_as_29 : decode cX11_as 29 = .ok (.invokestatic 138, 3) := by decide +kernel
theorem dX11_as_32 : decode cX11_as 32 = .ok (.ifCond .eq 12, 3) := by decide +kernel
theorem dX11_as_35 : decode cX11_as 35 = .ok (.aload_n 0, 1) := by decide +kernel
theorem dX11_as_36 : decode cX11_as 36 = .ok (.iload_n 1, 1) := by decide +kernel
theorem dX11_as_37 : decode cX11_as 37 = .ok (.iconst 3, 1) := by decide +kernel
theorem dX11_as_38 : decode cX11_as 38 = .ok (.invokevirtual 59, 3) := by decide +kernel
theorem dX11_as_41 : decode cX11_as 41 = .ok (.goto 9, 3) := by decide +kernel
theorem dX11_as_44 : decode cX11_as 44 = .ok (.aload_n 0, 1) := by decide +kernel
theorem dX11_as_45 : decode cX11_as 45 = .ok (.ldc 142, 2) := by decide +kernel
theorem dX11_as_47 : decode cX11_as 47 = .ok (.invokevirtual 76, 3) := by decide +kernel
theorem dX11_as_50 : decode cX11_as 50 = .ok (.ireturn, 1) := by decide +kernel
theorem dX11_walks_0 : decode cX11_walks 0 = .ok (.aload_n 0, 1) := by decide +kernel
theorem dX11_walks_1 : decode cX11_walks 1 = .ok (.getfield 25, 3) := by decide +kernel
theorem dX11_walks_4 : decode cX11_walks 4 = .ok (.iload_n 1, 1) := by decide +kernel
theorem dX11_walks_5 : decode cX11_walks 5 = .ok (.aload_n 0, 1) := by decide +kernel
theorem dX11_walks_6 : decode cX11_walks 6 = .ok (.iload_n 1, 1) := by decide +kernel
theorem dX11_walks_7 : decode cX11_walks 7 = .ok (.invokevirtual 84, 3) := by decide +kernel
theorem dX11_walks_10 : decode cX11_walks 10 = .ok (.iastore, 1) := by decide +kernel
theorem dX11_walks_11 : decode cX11_walks 11 = .ok (.aload_n 0, 1) := by decide +kernel
theorem dX11_walks_12 : decode cX11_walks 12 = .ok (.iload_n 1, 1) := by decide +kernel
theorem dX11_walks_13 : decode cX11_walks 13 = .ok (.iconst 1, 1) := by decide +kernel
theorem dX11_walks_14 : decode cX11_walks 14 = .ok (.invokevirtual 59, 3) := by decide +kernel
theorem dX11_walks_17 : decode cX11_walks 17 = .ok (.istore_n 2, 1) := by decide +kernel
theorem dX11_walks_18 : decode cX11_walks 18 = .ok (.aload_n 0, 1) := by decide +kernel
theorem dX11_walks_19 : decode cX11_walks 19 = .ok (.getfield 25, 3) := by decide +kernel
theorem dX11_walks_22 : decode cX11_walks 22 = .ok (.iload_n 1, 1) := by decide +kernel
theorem dX11_walks_23 : decode cX11_walks 23 = .ok (.iaload, 1) := by decide +kernel
theorem dX11_walks_24 : decode cX11_walks 24 = .ok (.iload_n 2, 1) := by decide +kernel
theorem dX11_walks_25 : decode cX11_walks 25 = .ok (.if_icmp .le 14, 3) := by decide +kernel
theorem dX11_walks_28 : decode cX11_walks 28 = .ok (.aload_n 0, 1) := by decide +kernel
theorem dX11_walks_29 : decode cX11_walks 29 = .ok (.getfield 25, 3) := by decide +kernel
theorem dX11_walks_32 : decode cX11_walks 32 = .ok (.iload_n 1, 1) := by decide +kernel
theorem dX11_walks_33 : decode cX11_walks 33 = .ok (.iaload, 1) := by decide +kernel
theorem dX11_walks_34 : decode cX11_walks 34 = .ok (.iload_n 2, 1) := by decide +kernel
theorem dX11_walks_35 : decode cX11_walks 35 = .ok (.isub, 1) := by decide +kernel
theorem dX11_walks_36 : decode cX11_walks 36 = .ok (.goto 11, 3) := by decide +kernel
theorem dX11_walks_39 : decode cX11_walks 39 = .ok (.iload_n 2, 1) := by decide +kernel
theorem dX11_walks_40 : decode cX11_walks 40 = .ok (.aload_n 0, 1) := by decide +kernel
theorem dX11_walks_41 : decode cX11_walks 41 = .ok (.getfield 25, 3) := by decide +kernel
theorem dX11_walks_44 : decode cX11_walks 44 = .ok (.iload_n 1, 1) := by decide +kernel
theorem dX11_walks_45 : decode cX11_walks 45 = .ok (.iaload, 1) := by decide +kernel
theorem dX11_walks_46 : decode cX11_walks 46 = .ok (.isub, 1) := by decide +kernel
theorem dX11_walks_47 : decode cX11_walks 47 = .ok (.istore_n 3, 1) := by decide +kernel
theorem dX11_walks_48 : decode cX11_walks 48 = .ok (.aload_n 0, 1) := by decide +kernel
theorem dX11_walks_49 : decode cX11_walks 49 = .ok (.iload_n 1, 1) := by decide +kernel
theorem dX11_walks_50 : decode cX11_walks 50 = .ok (.invokevirtual 128, 3) := by decide +kernel
theorem dX11_walks_53 : decode cX11_walks 53 = .ok (.istore 4, 2) := by decide +kernel
theorem dX11_walks_55 : decode cX11_walks 55 = .ok (.iload 4, 2) := by decide +kernel
theorem dX11_walks_57 : decode cX11_walks 57 = .ok (.iload_n 3, 1) := by decide +kernel
theorem dX11_walks_58 : decode cX11_walks 58 = .ok (.if_icmp .ge 8, 3) := by decide +kernel
theorem dX11_walks_61 : decode cX11_walks 61 = .ok (.iload 4, 2) := by decide +kernel
theorem dX11_walks_63 : decode cX11_walks 63 = .ok (.goto 4, 3) := by decide +kernel
theorem dX11_walks_66 : decode cX11_walks 66 = .ok (.iload_n 3, 1) := by decide +kernel
theorem dX11_walks_67 : decode cX11_walks 67 = .ok (.istore 5, 2) := by decide +kernel
theorem dX11_walks_69 : decode cX11_walks 69 = .ok (.aload_n 0, 1) := by decide +kernel
theorem dX11_walks_70 : decode cX11_walks 70 = .ok (.getfield 7, 3) := by decide +kernel
theorem dX11_walks_73 : decode cX11_walks 73 = .ok (.iload_n 1, 1) := by decide +kernel
theorem dX11_walks_74 : decode cX11_walks 74 = .ok (.iconst 1, 1) := by decide +kernel
theorem dX11_walks_75 : decode cX11_walks 75 = .ok (.invokestatic 45, 3) := by decide +kernel
theorem dX11_walks_78 : decode cX11_walks 78 = .ok (.iload_n 2, 1) := by decide +kernel
theorem dX11_walks_79 : decode cX11_walks 79 = .ok (.iload 5, 2) := by decide +kernel
theorem dX11_walks_81 : decode cX11_walks 81 = .ok (.aload_n 0, 1) := by decide +kernel
theorem dX11_walks_82 : decode cX11_walks 82 = .ok (.getfield 25, 3) := by decide +kernel
theorem dX11_walks_85 : decode cX11_walks 85 = .ok (.iload_n 1, 1) := by decide +kernel
theorem dX11_walks_86 : decode cX11_walks 86 = .ok (.iaload, 1) := by decide +kernel
theorem dX11_walks_87 : decode cX11_walks 87 = .ok (.iload_n 2, 1) := by decide +kernel
theorem dX11_walks_88 : decode cX11_walks 88 = .ok (.isub, 1) := by decide +kernel
theorem dX11_walks_89 : decode cX11_walks 89 = .ok (.invokestatic 110, 3) := by decide +kernel
theorem dX11_walks_92 : decode cX11_walks 92 = .ok (.imul, 1) := by decide +kernel
theorem dX11_walks_93 : decode cX11_walks 93 = .ok (.iadd, 1) := by decide +kernel
theorem dX11_walks_94 : decode cX11_walks 94 = .ok (.iastore, 1) := by decide +kernel
theorem dX11_walks_95 : decode cX11_walks 95 = .ok (.return_, 1) := by decide +kernel
theorem dX11_minute_0 : decode cX11_minute 0 = .ok (.iconst 0, 1) := by decide +kernel
theorem dX11_minute_1 : decode cX11_minute 1 = .ok (.istore_n 1, 1) := by decide +kernel
theorem dX11_minute_2 : decode cX11_minute 2 = .ok (.iload_n 1, 1) := by decide +kernel
theorem dX11_minute_3 : decode cX11_minute 3 = .ok (.aload_n 0, 1) := by decide +kernel
theorem dX11_minute_4 : decode cX11_minute 4 = .ok (.getfield 7, 3) := by decide +kernel
theorem dX11_minute_7 : decode cX11_minute 7 = .ok (.iconst 1, 1) := by decide +kernel
theorem dX11_minute_8 : decode cX11_minute 8 = .ok (.iaload, 1) := by decide +kernel
theorem dX11_minute_9 : decode cX11_minute 9 = .ok (.if_icmp .ge 14, 3) := by decide +kernel
theorem dX11_minute_12 : decode cX11_minute 12 = .ok (.aload_n 0, 1) := by decide +kernel
theorem dX11_minute_13 : decode cX11_minute 13 = .ok (.iload_n 1, 1) := by decide +kernel
theorem dX11_minute_14 : decode cX11_minute 14 = .ok (.invokevirtual 143, 3) := by decide +kernel
theorem dX11_minute_17 : decode cX11_minute 17 = .ok (.iinc 1 1, 3) := by decide +kernel
theorem dX11_minute_20 : decode cX11_minute 20 = .ok (.goto (-18), 3) := by decide +kernel
theorem dX11_minute_23 : decode cX11_minute 23 = .ok (.aload_n 0, 1) := by decide +kernel
theorem dX11_minute_24 : decode cX11_minute 24 = .ok (.iconst 0, 1) := by decide +kernel
theorem dX11_minute_25 : decode cX11_minute 25 = .ok (.putfield 147, 3) := by decide +kernel
theorem dX11_minute_28 : decode cX11_minute 28 = .ok (.iconst 0, 1) := by decide +kernel
theorem dX11_minute_29 : decode cX11_minute 29 = .ok (.istore_n 1, 1) := by decide +kernel
theorem dX11_minute_30 : decode cX11_minute 30 = .ok (.iload_n 1, 1) := by decide +kernel
theorem dX11_minute_31 : decode cX11_minute 31 = .ok (.aload_n 0, 1) := by decide +kernel
theorem dX11_minute_32 : decode cX11_minute 32 = .ok (.getfield 7, 3) := by decide +kernel
theorem dX11_minute_35 : decode cX11_minute 35 = .ok (.iconst 1, 1) := by decide +kernel
theorem dX11_minute_36 : decode cX11_minute 36 = .ok (.iaload, 1) := by decide +kernel
theorem dX11_minute_37 : decode cX11_minute 37 = .ok (.if_icmp .ge 108, 3) := by decide +kernel
theorem dX11_minute_40 : decode cX11_minute 40 = .ok (.aload_n 0, 1) := by decide +kernel
theorem dX11_minute_41 : decode cX11_minute 41 = .ok (.iload_n 1, 1) := by decide +kernel
theorem dX11_minute_42 : decode cX11_minute 42 = .ok (.iconst 1, 1) := by decide +kernel
theorem dX11_minute_43 : decode cX11_minute 43 = .ok (.invokevirtual 59, 3) := by decide +kernel
theorem dX11_minute_46 : decode cX11_minute 46 = .ok (.aload_n 0, 1) := by decide +kernel
theorem dX11_minute_47 : decode cX11_minute 47 = .ok (.getfield 25, 3) := by decide +kernel
theorem dX11_minute_50 : decode cX11_minute 50 = .ok (.iload_n 1, 1) := by decide +kernel
theorem dX11_minute_51 : decode cX11_minute 51 = .ok (.iaload, 1) := by decide +kernel
theorem dX11_minute_52 : decode cX11_minute 52 = .ok (.if_icmp .ne 7, 3) := by decide +kernel
theorem dX11_minute_55 : decode cX11_minute 55 = .ok (.iconst 1, 1) := by decide +kernel
theorem dX11_minute_56 : decode cX11_minute 56 = .ok (.goto 4, 3) := by decide +kernel
theorem dX11_minute_59 : decode cX11_minute 59 = .ok (.iconst 0, 1) := by decide +kernel
theorem dX11_minute_60 : decode cX11_minute 60 = .ok (.istore_n 2, 1) := by decide +kernel
theorem dX11_minute_61 : decode cX11_minute 61 = .ok (.iload_n 1, 1) := by decide +kernel
theorem dX11_minute_62 : decode cX11_minute 62 = .ok (.iload_n 2, 1) := by decide +kernel
theorem dX11_minute_63 : decode cX11_minute 63 = .ok (.ifCond .eq 7, 3) := by decide +kernel
theorem dX11_minute_66 : decode cX11_minute 66 = .ok (.iconst 3, 1) := by decide +kernel
theorem dX11_minute_67 : decode cX11_minute 67 = .ok (.goto 4, 3) := by decide +kernel
theorem dX11_minute_70 : decode cX11_minute 70 = .ok (.iconst 4, 1) := by decide +kernel
theorem dX11_minute_71 : decode cX11_minute 71 = .ok (.invokestatic 45, 3) := by decide +kernel
theorem dX11_minute_74 : decode cX11_minute 74 = .ok (.istore_n 3, 1) := by decide +kernel
theorem dX11_minute_75 : decode cX11_minute 75 = .ok (.aload_n 0, 1) := by decide +kernel
theorem dX11_minute_76 : decode cX11_minute 76 = .ok (.getfield 7, 3) := by decide +kernel
theorem dX11_minute_79 : decode cX11_minute 79 = .ok (.iload_n 3, 1) := by decide +kernel
theorem dX11_minute_80 : decode cX11_minute 80 = .ok (.iaload, 1) := by decide +kernel
theorem dX11_minute_81 : decode cX11_minute 81 = .ok (.iload_n 2, 1) := by decide +kernel
theorem dX11_minute_82 : decode cX11_minute 82 = .ok (.ifCond .eq 7, 3) := by decide +kernel
theorem dX11_minute_85 : decode cX11_minute 85 = .ok (.iconst 1, 1) := by decide +kernel
theorem dX11_minute_86 : decode cX11_minute 86 = .ok (.goto 8, 3) := by decide +kernel
theorem dX11_minute_89 : decode cX11_minute 89 = .ok (.aload_n 0, 1) := by decide +kernel
theorem dX11_minute_90 : decode cX11_minute 90 = .ok (.iload_n 1, 1) := by decide +kernel
theorem dX11_minute_91 : decode cX11_minute 91 = .ok (.invokevirtual 131, 3) := by decide +kernel
theorem dX11_minute_94 : decode cX11_minute 94 = .ok (.iadd, 1) := by decide +kernel
theorem dX11_minute_95 : decode cX11_minute 95 = .ok (.istore 4, 2) := by decide +kernel
theorem dX11_minute_97 : decode cX11_minute 97 = .ok (.aload_n 0, 1) := by decide +kernel
theorem dX11_minute_98 : decode cX11_minute 98 = .ok (.getfield 7, 3) := by decide +kernel
theorem dX11_minute_101 : decode cX11_minute 101 = .ok (.iload_n 3, 1) := by decide +kernel
theorem dX11_minute_102 : decode cX11_minute 102 = .ok (.iload 4, 2) := by decide +kernel
theorem dX11_minute_104 : decode cX11_minute 104 = .ok (.sipush 9999, 3) := by decide +kernel
theorem dX11_minute_107 : decode cX11_minute 107 = .ok (.if_icmp .le 9, 3) := by decide +kernel
theorem dX11_minute_110 : decode cX11_minute 110 = .ok (.sipush 9999, 3) := by decide +kernel
theorem dX11_minute_113 : decode cX11_minute 113 = .ok (.goto 5, 3) := by decide +kernel
theorem dX11_minute_116 : decode cX11_minute 116 = .ok (.iload 4, 2) := by decide +kernel
theorem dX11_minute_118 : decode cX11_minute 118 = .ok (.iastore, 1) := by decide +kernel
theorem dX11_minute_119 : decode cX11_minute 119 = .ok (.aload_n 0, 1) := by decide +kernel
theorem dX11_minute_120 : decode cX11_minute 120 = .ok (.dup, 1) := by decide +kernel
theorem dX11_minute_121 : decode cX11_minute 121 = .ok (.getfield 147, 3) := by decide +kernel
theorem dX11_minute_124 : decode cX11_minute 124 = .ok (.iload_n 2, 1) := by decide +kernel
theorem dX11_minute_125 : decode cX11_minute 125 = .ok (.ifCond .eq 9, 3) := by decide +kernel
theorem dX11_minute_128 : decode cX11_minute 128 = .ok (.iconst 1, 1) := by decide +kernel
theorem dX11_minute_129 : decode cX11_minute 129 = .ok (.iload_n 1, 1) := by decide +kernel
theorem dX11_minute_130 : decode cX11_minute 130 = .ok (.ishl, 1) := by decide +kernel
theorem dX11_minute_131 : decode cX11_minute 131 = .ok (.goto 4, 3) := by decide +kernel
theorem dX11_minute_134 : decode cX11_minute 134 = .ok (.iconst 0, 1) := by decide +kernel
theorem dX11_minute_135 : decode cX11_minute 135 = .ok (.ior, 1) := by decide +kernel
theorem dX11_minute_136 : decode cX11_minute 136 = .ok (.putfield 147, 3) := by decide +kernel
theorem dX11_minute_139 : decode cX11_minute 139 = .ok (.iinc 1 1, 3) := by decide +kernel
theorem dX11_minute_142 : decode cX11_minute 142 = .ok (.goto (-112), 3) := by decide +kernel
theorem dX11_minute_145 : decode cX11_minute 145 = .ok (.aload_n 0, 1) := by decide +kernel
theorem dX11_minute_146 : decode cX11_minute 146 = .ok (.getfield 7, 3) := by decide +kernel
theorem dX11_minute_149 : decode cX11_minute 149 = .ok (.iconst 0, 1) := by decide +kernel
theorem dX11_minute_150 : decode cX11_minute 150 = .ok (.dup2, 1) := by decide +kernel
theorem dX11_minute_151 : decode cX11_minute 151 = .ok (.iaload, 1) := by decide +kernel
theorem dX11_minute_152 : decode cX11_minute 152 = .ok (.iconst 1, 1) := by decide +kernel
theorem dX11_minute_153 : decode cX11_minute 153 = .ok (.iadd, 1) := by decide +kernel
theorem dX11_minute_154 : decode cX11_minute 154 = .ok (.iastore, 1) := by decide +kernel
theorem dX11_minute_155 : decode cX11_minute 155 = .ok (.return_, 1) := by decide +kernel
theorem dX11_minutesGo_0 : decode cX11_minutesGo 0 = .ok (.iconst 0, 1) := by decide +kernel
theorem dX11_minutesGo_1 : decode cX11_minutesGo 1 = .ok (.istore_n 2, 1) := by decide +kernel
theorem dX11_minutesGo_2 : decode cX11_minutesGo 2 = .ok (.iload_n 2, 1) := by decide +kernel
theorem dX11_minutesGo_3 : decode cX11_minutesGo 3 = .ok (.iload_n 1, 1) := by decide +kernel
theorem dX11_minutesGo_4 : decode cX11_minutesGo 4 = .ok (.if_icmp .ge 13, 3) := by decide +kernel
theorem dX11_minutesGo_7 : decode cX11_minutesGo 7 = .ok (.aload_n 0, 1) := by decide +kernel
theorem dX11_minutesGo_8 : decode cX11_minutesGo 8 = .ok (.invokevirtual 151, 3) := by decide +kernel
theorem dX11_minutesGo_11 : decode cX11_minutesGo 11 = .ok (.iinc 2 1, 3) := by decide +kernel
theorem dX11_minutesGo_14 : decode cX11_minutesGo 14 = .ok (.goto (-12), 3) := by decide +kernel
theorem dX11_minutesGo_17 : decode cX11_minutesGo 17 = .ok (.return_, 1) := by decide +kernel
theorem dX11_minutes_0 : decode cX11_minutes 0 = .ok (.iload_n 1, 1) := by decide +kernel
theorem dX11_minutes_1 : decode cX11_minutes 1 = .ok (.i2l, 1) := by decide +kernel
theorem dX11_minutes_2 : decode cX11_minutes 2 = .ok (.lconst 1, 1) := by decide +kernel
theorem dX11_minutes_3 : decode cX11_minutes 3 = .ok (.ldc2_w 154, 3) := by decide +kernel
theorem dX11_minutes_6 : decode cX11_minutes 6 = .ok (.invokestatic 49, 3) := by decide +kernel
theorem dX11_minutes_9 : decode cX11_minutes 9 = .ok (.ifCond .ne 10, 3) := by decide +kernel
theorem dX11_minutes_12 : decode cX11_minutes 12 = .ok (.aload_n 0, 1) := by decide +kernel
theorem dX11_minutes_13 : decode cX11_minutes 13 = .ok (.ldc 44, 2) := by decide +kernel
theorem dX11_minutes_15 : decode cX11_minutes 15 = .ok (.invokevirtual 76, 3) := by decide +kernel
theorem dX11_minutes_18 : decode cX11_minutes 18 = .ok (.ireturn, 1) := by decide +kernel
theorem dX11_minutes_19 : decode cX11_minutes 19 = .ok (.aload_n 0, 1) := by decide +kernel
theorem dX11_minutes_20 : decode cX11_minutes 20 = .ok (.getfield 7, 3) := by decide +kernel
theorem dX11_minutes_23 : decode cX11_minutes 23 = .ok (.iconst 0, 1) := by decide +kernel
theorem dX11_minutes_24 : decode cX11_minutes 24 = .ok (.iaload, 1) := by decide +kernel
theorem dX11_minutes_25 : decode cX11_minutes 25 = .ok (.iload_n 1, 1) := by decide +kernel
theorem dX11_minutes_26 : decode cX11_minutes 26 = .ok (.iadd, 1) := by decide +kernel
theorem dX11_minutes_27 : decode cX11_minutes 27 = .ok (.ldc 156, 2) := by decide +kernel
theorem dX11_minutes_29 : decode cX11_minutes 29 = .ok (.if_icmp .le 10, 3) := by decide +kernel
theorem dX11_minutes_32 : decode cX11_minutes 32 = .ok (.aload_n 0, 1) := by decide +kernel
theorem dX11_minutes_33 : decode cX11_minutes 33 = .ok (.ldc 157, 2) := by decide +kernel
theorem dX11_minutes_35 : decode cX11_minutes 35 = .ok (.invokevirtual 76, 3) := by decide +kernel
theorem dX11_minutes_38 : decode cX11_minutes 38 = .ok (.ireturn, 1) := by decide +kernel
theorem dX11_minutes_39 : decode cX11_minutes 39 = .ok (.aload_n 0, 1) := by decide +kernel
theorem dX11_minutes_40 : decode cX11_minutes 40 = .ok (.iload_n 1, 1) := by decide +kernel
theorem dX11_minutes_41 : decode cX11_minutes 41 = .ok (.invokevirtual 158, 3) := by decide +kernel
theorem dX11_minutes_44 : decode cX11_minutes 44 = .ok (.aload_n 0, 1) := by decide +kernel
theorem dX11_minutes_45 : decode cX11_minutes 45 = .ok (.getfield 147, 3) := by decide +kernel
theorem dX11_minutes_48 : decode cX11_minutes 48 = .ok (.ireturn, 1) := by decide +kernel
theorem dX11_isAhead_0 : decode cX11_isAhead 0 = .ok (.iload_n 0, 1) := by decide +kernel
theorem dX11_isAhead_1 : decode cX11_isAhead 1 = .ok (.i2l, 1) := by decide +kernel
theorem dX11_isAhead_2 : decode cX11_isAhead 2 = .ok (.lconst 0, 1) := by decide +kernel
theorem dX11_isAhead_3 : decode cX11_isAhead 3 = .ok (.ldc2_w 161, 3) := by decide +kernel
theorem dX11_isAhead_6 : decode cX11_isAhead 6 = .ok (.invokestatic 49, 3) := by decide +kernel
theorem dX11_isAhead_9 : decode cX11_isAhead 9 = .ok (.ireturn, 1) := by decide +kernel
theorem dX11_behind_0 : decode cX11_behind 0 = .ok (.aload_n 0, 1) := by decide +kernel
theorem dX11_behind_1 : decode cX11_behind 1 = .ok (.invokevirtual 163, 3) := by decide +kernel
theorem dX11_behind_4 : decode cX11_behind 4 = .ok (.aload_n 0, 1) := by decide +kernel
theorem dX11_behind_5 : decode cX11_behind 5 = .ok (.iload_n 2, 1) := by decide +kernel
theorem dX11_behind_6 : decode cX11_behind 6 = .ok (.invokevirtual 158, 3) := by decide +kernel
theorem dX11_behind_9 : decode cX11_behind 9 = .ok (.aload_n 0, 1) := by decide +kernel
theorem dX11_behind_10 : decode cX11_behind 10 = .ok (.iload_n 1, 1) := by decide +kernel
theorem dX11_behind_11 : decode cX11_behind 11 = .ok (.iconst (-1), 1) := by decide +kernel
theorem dX11_behind_12 : decode cX11_behind 12 = .ok (.if_icmp .ne 10, 3) := by decide +kernel
theorem dX11_behind_15 : decode cX11_behind 15 = .ok (.aload_n 0, 1) := by decide +kernel
theorem dX11_behind_16 : decode cX11_behind 16 = .ok (.invokevirtual 98, 3) := by decide +kernel
theorem dX11_behind_19 : decode cX11_behind 19 = .ok (.goto 9, 3) := by decide +kernel
theorem dX11_behind_22 : decode cX11_behind 22 = .ok (.aload_n 0, 1) := by decide +kernel
theorem dX11_behind_23 : decode cX11_behind 23 = .ok (.getfield 7, 3) := by decide +kernel
theorem dX11_behind_26 : decode cX11_behind 26 = .ok (.iload_n 1, 1) := by decide +kernel
theorem dX11_behind_27 : decode cX11_behind 27 = .ok (.iaload, 1) := by decide +kernel
theorem dX11_behind_28 : decode cX11_behind 28 = .ok (.invokevirtual 166, 3) := by decide +kernel
theorem dX11_behind_31 : decode cX11_behind 31 = .ok (.ireturn, 1) := by decide +kernel
theorem dX11_on_0 : decode cX11_on 0 = .ok (.aload_n 0, 1) := by decide +kernel
theorem dX11_on_1 : decode cX11_on 1 = .ok (.iload_n 1, 1) := by decide +kernel
theorem dX11_on_2 : decode cX11_on 2 = .ok (.invokevirtual 123, 3) := by decide +kernel
theorem dX11_on_5 : decode cX11_on 5 = .ok (.ifCond .eq 22, 3) := by decide +kernel
theorem dX11_on_8 : decode cX11_on 8 = .ok (.iload_n 2, 1) := by decide +kernel
theorem dX11_on_9 : decode cX11_on 9 = .ok (.invokestatic 169, 3) := by decide +kernel
theorem dX11_on_12 : decode cX11_on 12 = .ok (.ifCond .eq 15, 3) := by decide +kernel
theorem dX11_on_15 : decode cX11_on 15 = .ok (.iload_n 3, 1) := by decide +kernel
theorem dX11_on_16 : decode cX11_on 16 = .ok (.i2l, 1) := by decide +kernel
theorem dX11_on_17 : decode cX11_on 17 = .ok (.lconst 0, 1) := by decide +kernel
theorem dX11_on_18 : decode cX11_on 18 = .ok (.ldc2_w 57, 3) := by decide +kernel
theorem dX11_on_21 : decode cX11_on 21 = .ok (.invokestatic 49, 3) := by decide +kernel
theorem dX11_on_24 : decode cX11_on 24 = .ok (.ifCond .ne 10, 3) := by decide +kernel
theorem dX11_on_27 : decode cX11_on 27 = .ok (.aload_n 0, 1) := by decide +kernel
theorem dX11_on_28 : decode cX11_on 28 = .ok (.ldc 44, 2) := by decide +kernel
theorem dX11_on_30 : decode cX11_on 30 = .ok (.invokevirtual 76, 3) := by decide +kernel
theorem dX11_on_33 : decode cX11_on 33 = .ok (.ireturn, 1) := by decide +kernel
theorem dX11_on_34 : decode cX11_on 34 = .ok (.aload_n 0, 1) := by decide +kernel
theorem dX11_on_35 : decode cX11_on 35 = .ok (.iload_n 1, 1) := by decide +kernel
theorem dX11_on_36 : decode cX11_on 36 = .ok (.iload_n 3, 1) := by decide +kernel
theorem dX11_on_37 : decode cX11_on 37 = .ok (.ifCond .ne 7, 3) := by decide +kernel
theorem dX11_on_40 : decode cX11_on 40 = .ok (.iconst 1, 1) := by decide +kernel
theorem dX11_on_41 : decode cX11_on 41 = .ok (.goto 13, 3) := by decide +kernel
theorem dX11_on_44 : decode cX11_on 44 = .ok (.iload_n 3, 1) := by decide +kernel
theorem dX11_on_45 : decode cX11_on 45 = .ok (.iconst 1, 1) := by decide +kernel
theorem dX11_on_46 : decode cX11_on 46 = .ok (.if_icmp .ne 7, 3) := by decide +kernel
theorem dX11_on_49 : decode cX11_on 49 = .ok (.iconst 3, 1) := by decide +kernel
theorem dX11_on_50 : decode cX11_on 50 = .ok (.goto 4, 3) := by decide +kernel
theorem dX11_on_53 : decode cX11_on 53 = .ok (.iconst 4, 1) := by decide +kernel
theorem dX11_on_54 : decode cX11_on 54 = .ok (.invokestatic 45, 3) := by decide +kernel
theorem dX11_on_57 : decode cX11_on 57 = .ok (.iload_n 2, 1) := by decide +kernel
theorem dX11_on_58 : decode cX11_on 58 = .ok (.invokevirtual 172, 3) := by decide +kernel
theorem dX11_on_61 : decode cX11_on 61 = .ok (.ireturn, 1) := by decide +kernel
theorem dX11_harmony_0 : decode cX11_harmony 0 = .ok (.iload_n 1, 1) := by decide +kernel
theorem dX11_harmony_1 : decode cX11_harmony 1 = .ok (.invokestatic 169, 3) := by decide +kernel
theorem dX11_harmony_4 : decode cX11_harmony 4 = .ok (.ifCond .eq 12, 3) := by decide +kernel
theorem dX11_harmony_7 : decode cX11_harmony 7 = .ok (.aload_n 0, 1) := by decide +kernel
theorem dX11_harmony_8 : decode cX11_harmony 8 = .ok (.iconst (-1), 1) := by decide +kernel
theorem dX11_harmony_9 : decode cX11_harmony 9 = .ok (.iload_n 1, 1) := by decide +kernel
theorem dX11_harmony_10 : decode cX11_harmony 10 = .ok (.invokevirtual 172, 3) := by decide +kernel
theorem dX11_harmony_13 : decode cX11_harmony 13 = .ok (.goto 9, 3) := by decide +kernel
theorem dX11_harmony_16 : decode cX11_harmony 16 = .ok (.aload_n 0, 1) := by decide +kernel
theorem dX11_harmony_17 : decode cX11_harmony 17 = .ok (.ldc 44, 2) := by decide +kernel
theorem dX11_harmony_19 : decode cX11_harmony 19 = .ok (.invokevirtual 76, 3) := by decide +kernel
theorem dX11_harmony_22 : decode cX11_harmony 22 = .ok (.ireturn, 1) := by decide +kernel
theorem dX11_toldAt_0 : decode cX11_toldAt 0 = .ok (.aload_n 0, 1) := by decide +kernel
theorem dX11_toldAt_1 : decode cX11_toldAt 1 = .ok (.iload_n 1, 1) := by decide +kernel
theorem dX11_toldAt_2 : decode cX11_toldAt 2 = .ok (.invokevirtual 166, 3) := by decide +kernel
theorem dX11_toldAt_5 : decode cX11_toldAt 5 = .ok (.istore_n 2, 1) := by decide +kernel
theorem dX11_toldAt_6 : decode cX11_toldAt 6 = .ok (.iload_n 2, 1) := by decide +kernel
theorem dX11_toldAt_7 : decode cX11_toldAt 7 = .ok (.sipush 300, 3) := by decide +kernel
theorem dX11_toldAt_10 : decode cX11_toldAt 10 = .ok (.if_icmp .le 12, 3) := by decide +kernel
theorem dX11_toldAt_13 : decode cX11_toldAt 13 = .ok (.aload_n 0, 1) := by decide +kernel
theorem dX11_toldAt_14 : decode cX11_toldAt 14 = .ok (.ldc 175, 2) := by decide +kernel
theorem dX11_toldAt_16 : decode cX11_toldAt 16 = .ok (.invokevirtual 76, 3) := by decide +kernel
theorem dX11_toldAt_19 : decode cX11_toldAt 19 = .ok (.goto 4, 3) := by decide +kernel
theorem dX11_toldAt_22 : decode cX11_toldAt 22 = .ok (.iload_n 2, 1) := by decide +kernel
theorem dX11_toldAt_23 : decode cX11_toldAt 23 = .ok (.ireturn, 1) := by decide +kernel
theorem dX11_comes_0 : decode cX11_comes 0 = .ok (.aload_n 0, 1) := by decide +kernel
theorem dX11_comes_1 : decode cX11_comes 1 = .ok (.iload_n 1, 1) := by decide +kernel
theorem dX11_comes_2 : decode cX11_comes 2 = .ok (.invokevirtual 123, 3) := by decide +kernel
theorem dX11_comes_5 : decode cX11_comes 5 = .ok (.ifCond .eq 10, 3) := by decide +kernel
theorem dX11_comes_8 : decode cX11_comes 8 = .ok (.iload_n 2, 1) := by decide +kernel
theorem dX11_comes_9 : decode cX11_comes 9 = .ok (.invokestatic 70, 3) := by decide +kernel
theorem dX11_comes_12 : decode cX11_comes 12 = .ok (.ifCond .ne 10, 3) := by decide +kernel
theorem dX11_comes_15 : decode cX11_comes 15 = .ok (.aload_n 0, 1) := by decide +kernel
theorem dX11_comes_16 : decode cX11_comes 16 = .ok (.ldc 44, 2) := by decide +kernel
theorem dX11_comes_18 : decode cX11_comes 18 = .ok (.invokevirtual 76, 3) := by decide +kernel
theorem dX11_comes_21 : decode cX11_comes 21 = .ok (.ireturn, 1) := by decide +kernel
theorem dX11_comes_22 : decode cX11_comes 22 = .ok (.aload_n 0, 1) := by decide +kernel
theorem dX11_comes_23 : decode cX11_comes 23 = .ok (.invokevirtual 163, 3) := by decide +kernel
theorem dX11_comes_26 : decode cX11_comes 26 = .ok (.iconst 0, 1) := by decide +kernel
theorem dX11_comes_27 : decode cX11_comes 27 = .ok (.istore_n 3, 1) := by decide +kernel
theorem dX11_comes_28 : decode cX11_comes 28 = .ok (.iload_n 3, 1) := by decide +kernel
theorem dX11_comes_29 : decode cX11_comes 29 = .ok (.sipush 300, 3) := by decide +kernel
theorem dX11_comes_32 : decode cX11_comes 32 = .ok (.if_icmp .gt 23, 3) := by decide +kernel
theorem dX11_comes_35 : decode cX11_comes 35 = .ok (.aload_n 0, 1) := by decide +kernel
theorem dX11_comes_36 : decode cX11_comes 36 = .ok (.iload_n 1, 1) := by decide +kernel
theorem dX11_comes_37 : decode cX11_comes 37 = .ok (.iconst 1, 1) := by decide +kernel
theorem dX11_comes_38 : decode cX11_comes 38 = .ok (.invokevirtual 59, 3) := by decide +kernel
theorem dX11_comes_41 : decode cX11_comes 41 = .ok (.iload_n 2, 1) := by decide +kernel
theorem dX11_comes_42 : decode cX11_comes 42 = .ok (.if_icmp .eq 13, 3) := by decide +kernel
theorem dX11_comes_45 : decode cX11_comes 45 = .ok (.aload_n 0, 1) := by decide +kernel
theorem dX11_comes_46 : decode cX11_comes 46 = .ok (.invokevirtual 151, 3) := by decide +kernel
theorem dX11_comes_49 : decode cX11_comes 49 = .ok (.iinc 3 1, 3) := by decide +kernel
theorem dX11_comes_52 : decode cX11_comes 52 = .ok (.goto (-24), 3) := by decide +kernel
theorem dX11_comes_55 : decode cX11_comes 55 = .ok (.aload_n 0, 1) := by decide +kernel
theorem dX11_comes_56 : decode cX11_comes 56 = .ok (.iload_n 3, 1) := by decide +kernel
theorem dX11_comes_57 : decode cX11_comes 57 = .ok (.invokevirtual 176, 3) := by decide +kernel
theorem dX11_comes_60 : decode cX11_comes 60 = .ok (.ireturn, 1) := by decide +kernel
theorem dX11_plays_0 : decode cX11_plays 0 = .ok (.aload_n 0, 1) := by decide +kernel
theorem dX11_plays_1 : decode cX11_plays 1 = .ok (.iload_n 1, 1) := by decide +kernel
theorem dX11_plays_2 : decode cX11_plays 2 = .ok (.invokevirtual 123, 3) := by decide +kernel
theorem dX11_plays_5 : decode cX11_plays 5 = .ok (.ifCond .ne 10, 3) := by decide +kernel
theorem dX11_plays_8 : decode cX11_plays 8 = .ok (.aload_n 0, 1) := by decide +kernel
theorem dX11_plays_9 : decode cX11_plays 9 = .ok (.ldc 44, 2) := by decide +kernel
theorem dX11_plays_11 : decode cX11_plays 11 = .ok (.invokevirtual 76, 3) := by decide +kernel
theorem dX11_plays_14 : decode cX11_plays 14 = .ok (.ireturn, 1) := by decide +kernel
theorem dX11_plays_15 : decode cX11_plays 15 = .ok (.aload_n 0, 1) := by decide +kernel
theorem dX11_plays_16 : decode cX11_plays 16 = .ok (.invokevirtual 163, 3) := by decide +kernel
theorem dX11_plays_19 : decode cX11_plays 19 = .ok (.aload_n 0, 1) := by decide +kernel
theorem dX11_plays_20 : decode cX11_plays 20 = .ok (.iload_n 1, 1) := by decide +kernel
theorem dX11_plays_21 : decode cX11_plays 21 = .ok (.iconst 3, 1) := by decide +kernel
theorem dX11_plays_22 : decode cX11_plays 22 = .ok (.invokevirtual 59, 3) := by decide +kernel
theorem dX11_plays_25 : decode cX11_plays 25 = .ok (.istore_n 2, 1) := by decide +kernel
theorem dX11_plays_26 : decode cX11_plays 26 = .ok (.iconst 0, 1) := by decide +kernel
theorem dX11_plays_27 : decode cX11_plays 27 = .ok (.istore_n 3, 1) := by decide +kernel
theorem dX11_plays_28 : decode cX11_plays 28 = .ok (.iload_n 3, 1) := by decide +kernel
theorem dX11_plays_29 : decode cX11_plays 29 = .ok (.sipush 300, 3) := by decide +kernel
theorem dX11_plays_32 : decode cX11_plays 32 = .ok (.if_icmp .gt 23, 3) := by decide +kernel
theorem dX11_plays_35 : decode cX11_plays 35 = .ok (.aload_n 0, 1) := by decide +kernel
theorem dX11_plays_36 : decode cX11_plays 36 = .ok (.iload_n 1, 1) := by decide +kernel
theorem dX11_plays_37 : decode cX11_plays 37 = .ok (.iconst 3, 1) := by decide +kernel
theorem dX11_plays_38 : decode cX11_plays 38 = .ok (.invokevirtual 59, 3) := by decide +kernel
theorem dX11_plays_41 : decode cX11_plays 41 = .ok (.iload_n 2, 1) := by decide +kernel
theorem dX11_plays_42 : decode cX11_plays 42 = .ok (.if_icmp .ne 13, 3) := by decide +kernel
theorem dX11_plays_45 : decode cX11_plays 45 = .ok (.aload_n 0, 1) := by decide +kernel
theorem dX11_plays_46 : decode cX11_plays 46 = .ok (.invokevirtual 151, 3) := by decide +kernel
theorem dX11_plays_49 : decode cX11_plays 49 = .ok (.iinc 3 1, 3) := by decide +kernel
theorem dX11_plays_52 : decode cX11_plays 52 = .ok (.goto (-24), 3) := by decide +kernel
theorem dX11_plays_55 : decode cX11_plays 55 = .ok (.aload_n 0, 1) := by decide +kernel
theorem dX11_plays_56 : decode cX11_plays 56 = .ok (.iload_n 3, 1) := by decide +kernel
theorem dX11_plays_57 : decode cX11_plays 57 = .ok (.invokevirtual 176, 3) := by decide +kernel
theorem dX11_plays_60 : decode cX11_plays 60 = .ok (.ireturn, 1) := by decide +kernel
theorem dX11_meet_0 : decode cX11_meet 0 = .ok (.aload_n 0, 1) := by decide +kernel
theorem dX11_meet_1 : decode cX11_meet 1 = .ok (.iload_n 1, 1) := by decide +kernel
theorem dX11_meet_2 : decode cX11_meet 2 = .ok (.invokevirtual 123, 3) := by decide +kernel
theorem dX11_meet_5 : decode cX11_meet 5 = .ok (.ifCond .eq 16, 3) := by decide +kernel
theorem dX11_meet_8 : decode cX11_meet 8 = .ok (.aload_n 0, 1) := by decide +kernel
theorem dX11_meet_9 : decode cX11_meet 9 = .ok (.iload_n 2, 1) := by decide +kernel
theorem dX11_meet_10 : decode cX11_meet 10 = .ok (.invokevirtual 123, 3) := by decide +kernel
theorem dX11_meet_13 : decode cX11_meet 13 = .ok (.ifCond .eq 8, 3) := by decide +kernel
theorem dX11_meet_16 : decode cX11_meet 16 = .ok (.iload_n 1, 1) := by decide +kernel
theorem dX11_meet_17 : decode cX11_meet 17 = .ok (.iload_n 2, 1) := by decide +kernel
theorem dX11_meet_18 : decode cX11_meet 18 = .ok (.if_icmp .ne 10, 3) := by decide +kernel
theorem dX11_meet_21 : decode cX11_meet 21 = .ok (.aload_n 0, 1) := by decide +kernel
theorem dX11_meet_22 : decode cX11_meet 22 = .ok (.ldc 44, 2) := by decide +kernel
theorem dX11_meet_24 : decode cX11_meet 24 = .ok (.invokevirtual 76, 3) := by decide +kernel
theorem dX11_meet_27 : decode cX11_meet 27 = .ok (.ireturn, 1) := by decide +kernel
theorem dX11_meet_28 : decode cX11_meet 28 = .ok (.aload_n 0, 1) := by decide +kernel
theorem dX11_meet_29 : decode cX11_meet 29 = .ok (.invokevirtual 163, 3) := by decide +kernel
theorem dX11_meet_32 : decode cX11_meet 32 = .ok (.iconst 0, 1) := by decide +kernel
theorem dX11_meet_33 : decode cX11_meet 33 = .ok (.istore_n 3, 1) := by decide +kernel
theorem dX11_meet_34 : decode cX11_meet 34 = .ok (.iload_n 3, 1) := by decide +kernel
theorem dX11_meet_35 : decode cX11_meet 35 = .ok (.sipush 300, 3) := by decide +kernel
theorem dX11_meet_38 : decode cX11_meet 38 = .ok (.if_icmp .gt 28, 3) := by decide +kernel
theorem dX11_meet_41 : decode cX11_meet 41 = .ok (.aload_n 0, 1) := by decide +kernel
theorem dX11_meet_42 : decode cX11_meet 42 = .ok (.iload_n 1, 1) := by decide +kernel
theorem dX11_meet_43 : decode cX11_meet 43 = .ok (.iconst 1, 1) := by decide +kernel
theorem dX11_meet_44 : decode cX11_meet 44 = .ok (.invokevirtual 59, 3) := by decide +kernel
theorem dX11_meet_47 : decode cX11_meet 47 = .ok (.aload_n 0, 1) := by decide +kernel
theorem dX11_meet_48 : decode cX11_meet 48 = .ok (.iload_n 2, 1) := by decide +kernel
theorem dX11_meet_49 : decode cX11_meet 49 = .ok (.iconst 1, 1) := by decide +kernel
theorem dX11_meet_50 : decode cX11_meet 50 = .ok (.invokevirtual 59, 3) := by decide +kernel
theorem dX11_meet_53 : decode cX11_meet 53 = .ok (.if_icmp .eq 13, 3) := by decide +kernel
theorem dX11_meet_56 : decode cX11_meet 56 = .ok (.aload_n 0, 1) := by decide +kernel
theorem dX11_meet_57 : decode cX11_meet 57 = .ok (.invokevirtual 151, 3) := by decide +kernel
theorem dX11_meet_60 : decode cX11_meet 60 = .ok (.iinc 3 1, 3) := by decide +kernel
theorem dX11_meet_63 : decode cX11_meet 63 = .ok (.goto (-29), 3) := by decide +kernel
theorem dX11_meet_66 : decode cX11_meet 66 = .ok (.aload_n 0, 1) := by decide +kernel
theorem dX11_meet_67 : decode cX11_meet 67 = .ok (.iload_n 3, 1) := by decide +kernel
theorem dX11_meet_68 : decode cX11_meet 68 = .ok (.invokevirtual 176, 3) := by decide +kernel
theorem dX11_meet_71 : decode cX11_meet 71 = .ok (.ireturn, 1) := by decide +kernel
theorem dX11_isSoon_0 : decode cX11_isSoon 0 = .ok (.iload_n 0, 1) := by decide +kernel
theorem dX11_isSoon_1 : decode cX11_isSoon 1 = .ok (.i2l, 1) := by decide +kernel
theorem dX11_isSoon_2 : decode cX11_isSoon 2 = .ok (.lconst 1, 1) := by decide +kernel
theorem dX11_isSoon_3 : decode cX11_isSoon 3 = .ok (.ldc2_w 179, 3) := by decide +kernel
theorem dX11_isSoon_6 : decode cX11_isSoon 6 = .ok (.invokestatic 49, 3) := by decide +kernel
theorem dX11_isSoon_9 : decode cX11_isSoon 9 = .ok (.ireturn, 1) := by decide +kernel
theorem dX11_mostBy_0 : decode cX11_mostBy 0 = .ok (.aload_n 0, 1) := by decide +kernel
theorem dX11_mostBy_1 : decode cX11_mostBy 1 = .ok (.getfield 7, 3) := by decide +kernel
theorem dX11_mostBy_4 : decode cX11_mostBy 4 = .ok (.iload_n 1, 1) := by decide +kernel
theorem dX11_mostBy_5 : decode cX11_mostBy 5 = .ok (.iaload, 1) := by decide +kernel
theorem dX11_mostBy_6 : decode cX11_mostBy 6 = .ok (.istore 6, 2) := by decide +kernel
theorem dX11_mostBy_8 : decode cX11_mostBy 8 = .ok (.iconst 0, 1) := by decide +kernel
theorem dX11_mostBy_9 : decode cX11_mostBy 9 = .ok (.istore 7, 2) := by decide +kernel
theorem dX11_mostBy_11 : decode cX11_mostBy 11 = .ok (.ldc 181, 2) := by decide +kernel
theorem dX11_mostBy_13 : decode cX11_mostBy 13 = .ok (.istore 8, 2) := by decide +kernel
theorem dX11_mostBy_15 : decode cX11_mostBy 15 = .ok (.iconst 0, 1) := by decide +kernel
theorem dX11_mostBy_16 : decode cX11_mostBy 16 = .ok (.istore 9, 2) := by decide +kernel
theorem dX11_mostBy_18 : decode cX11_mostBy 18 = .ok (.iload 9, 2) := by decide +kernel
theorem dX11_mostBy_20 : decode cX11_mostBy 20 = .ok (.iload_n 2, 1) := by decide +kernel
theorem dX11_mostBy_21 : decode cX11_mostBy 21 = .ok (.if_icmp .gt 61, 3) := by decide +kernel
theorem dX11_mostBy_24 : decode cX11_mostBy 24 = .ok (.aload_n 0, 1) := by decide +kernel
theorem dX11_mostBy_25 : decode cX11_mostBy 25 = .ok (.getfield 7, 3) := by decide +kernel
theorem dX11_mostBy_28 : decode cX11_mostBy 28 = .ok (.iload_n 1, 1) := by decide +kernel
theorem dX11_mostBy_29 : decode cX11_mostBy 29 = .ok (.iload 9, 2) := by decide +kernel
theorem dX11_mostBy_31 : decode cX11_mostBy 31 = .ok (.iastore, 1) := by decide +kernel
theorem dX11_mostBy_32 : decode cX11_mostBy 32 = .ok (.iload 4, 2) := by decide +kernel
theorem dX11_mostBy_34 : decode cX11_mostBy 34 = .ok (.aload_n 0, 1) := by decide +kernel
theorem dX11_mostBy_35 : decode cX11_mostBy 35 = .ok (.iload_n 3, 1) := by decide +kernel
theorem dX11_mostBy_36 : decode cX11_mostBy 36 = .ok (.iload 5, 2) := by decide +kernel
theorem dX11_mostBy_38 : decode cX11_mostBy 38 = .ok (.invokevirtual 172, 3) := by decide +kernel
theorem dX11_mostBy_41 : decode cX11_mostBy 41 = .ok (.imul, 1) := by decide +kernel
theorem dX11_mostBy_42 : decode cX11_mostBy 42 = .ok (.istore 10, 2) := by decide +kernel
theorem dX11_mostBy_44 : decode cX11_mostBy 44 = .ok (.iload 10, 2) := by decide +kernel
theorem dX11_mostBy_46 : decode cX11_mostBy 46 = .ok (.iload 8, 2) := by decide +kernel
theorem dX11_mostBy_48 : decode cX11_mostBy 48 = .ok (.if_icmp .le 8, 3) := by decide +kernel
theorem dX11_mostBy_51 : decode cX11_mostBy 51 = .ok (.iload 9, 2) := by decide +kernel
theorem dX11_mostBy_53 : decode cX11_mostBy 53 = .ok (.goto 5, 3) := by decide +kernel
theorem dX11_mostBy_56 : decode cX11_mostBy 56 = .ok (.iload 7, 2) := by decide +kernel
theorem dX11_mostBy_58 : decode cX11_mostBy 58 = .ok (.istore 7, 2) := by decide +kernel
theorem dX11_mostBy_60 : decode cX11_mostBy 60 = .ok (.iload 10, 2) := by decide +kernel
theorem dX11_mostBy_62 : decode cX11_mostBy 62 = .ok (.iload 8, 2) := by decide +kernel
theorem dX11_mostBy_64 : decode cX11_mostBy 64 = .ok (.if_icmp .le 8, 3) := by decide +kernel
theorem dX11_mostBy_67 : decode cX11_mostBy 67 = .ok (.iload 10, 2) := by decide +kernel
theorem dX11_mostBy_69 : decode cX11_mostBy 69 = .ok (.goto 5, 3) := by decide +kernel
theorem dX11_mostBy_72 : decode cX11_mostBy 72 = .ok (.iload 8, 2) := by decide +kernel
theorem dX11_mostBy_74 : decode cX11_mostBy 74 = .ok (.istore 8, 2) := by decide +kernel
theorem dX11_mostBy_76 : decode cX11_mostBy 76 = .ok (.iinc 9 1, 3) := by decide +kernel
theorem dX11_mostBy_79 : decode cX11_mostBy 79 = .ok (.goto (-61), 3) := by decide +kernel
theorem dX11_mostBy_82 : decode cX11_mostBy 82 = .ok (.aload_n 0, 1) := by decide +kernel
theorem dX11_mostBy_83 : decode cX11_mostBy 83 = .ok (.getfield 7, 3) := by decide +kernel
theorem dX11_mostBy_86 : decode cX11_mostBy 86 = .ok (.iload_n 1, 1) := by decide +kernel
theorem dX11_mostBy_87 : decode cX11_mostBy 87 = .ok (.iload 6, 2) := by decide +kernel
theorem dX11_mostBy_89 : decode cX11_mostBy 89 = .ok (.iastore, 1) := by decide +kernel
theorem dX11_mostBy_90 : decode cX11_mostBy 90 = .ok (.iload 7, 2) := by decide +kernel
theorem dX11_mostBy_92 : decode cX11_mostBy 92 = .ok (.ireturn, 1) := by decide +kernel
theorem dX11_begin_0 : decode cX11_begin 0 = .ok (.aload_n 0, 1) := by decide +kernel
theorem dX11_begin_1 : decode cX11_begin 1 = .ok (.iload_n 1, 1) := by decide +kernel
theorem dX11_begin_2 : decode cX11_begin 2 = .ok (.invokevirtual 123, 3) := by decide +kernel
theorem dX11_begin_5 : decode cX11_begin 5 = .ok (.ifCond .eq 31, 3) := by decide +kernel
theorem dX11_begin_8 : decode cX11_begin 8 = .ok (.iload_n 2, 1) := by decide +kernel
theorem dX11_begin_9 : decode cX11_begin 9 = .ok (.invokestatic 182, 3) := by decide +kernel
theorem dX11_begin_12 : decode cX11_begin 12 = .ok (.ifCond .eq 24, 3) := by decide +kernel
theorem dX11_begin_15 : decode cX11_begin 15 = .ok (.aload_n 0, 1) := by decide +kernel
theorem dX11_begin_16 : decode cX11_begin 16 = .ok (.iload_n 1, 1) := by decide +kernel
theorem dX11_begin_17 : decode cX11_begin 17 = .ok (.iconst 1, 1) := by decide +kernel
theorem dX11_begin_18 : decode cX11_begin 18 = .ok (.invokestatic 45, 3) := by decide +kernel
theorem dX11_begin_21 : decode cX11_begin 21 = .ok (.bipush 11, 2) := by decide +kernel
theorem dX11_begin_23 : decode cX11_begin 23 = .ok (.iload_n 1, 1) := by decide +kernel
theorem dX11_begin_24 : decode cX11_begin 24 = .ok (.iconst 3, 1) := by decide +kernel
theorem dX11_begin_25 : decode cX11_begin 25 = .ok (.invokestatic 45, 3) := by decide +kernel
theorem dX11_begin_28 : decode cX11_begin 28 = .ok (.iconst 1, 1) := by decide +kernel
theorem dX11_begin_29 : decode cX11_begin 29 = .ok (.iload_n 2, 1) := by decide +kernel
theorem dX11_begin_30 : decode cX11_begin 30 = .ok (.invokevirtual 185, 3) := by decide +kernel
theorem dX11_begin_33 : decode cX11_begin 33 = .ok (.goto 9, 3) := by decide +kernel
theorem dX11_begin_36 : decode cX11_begin 36 = .ok (.aload_n 0, 1) := by decide +kernel
theorem dX11_begin_37 : decode cX11_begin 37 = .ok (.ldc 44, 2) := by decide +kernel
theorem dX11_begin_39 : decode cX11_begin 39 = .ok (.invokevirtual 76, 3) := by decide +kernel
theorem dX11_begin_42 : decode cX11_begin 42 = .ok (.ireturn, 1) := by decide +kernel
theorem dX11_kind_0 : decode cX11_kind 0 = .ok (.aload_n 0, 1) := by decide +kernel
theorem dX11_kind_1 : decode cX11_kind 1 = .ok (.iload_n 1, 1) := by decide +kernel
theorem dX11_kind_2 : decode cX11_kind 2 = .ok (.invokevirtual 123, 3) := by decide +kernel
theorem dX11_kind_5 : decode cX11_kind 5 = .ok (.ifCond .eq 30, 3) := by decide +kernel
theorem dX11_kind_8 : decode cX11_kind 8 = .ok (.iload_n 2, 1) := by decide +kernel
theorem dX11_kind_9 : decode cX11_kind 9 = .ok (.invokestatic 182, 3) := by decide +kernel
theorem dX11_kind_12 : decode cX11_kind 12 = .ok (.ifCond .eq 23, 3) := by decide +kernel
theorem dX11_kind_15 : decode cX11_kind 15 = .ok (.aload_n 0, 1) := by decide +kernel
theorem dX11_kind_16 : decode cX11_kind 16 = .ok (.iload_n 1, 1) := by decide +kernel
theorem dX11_kind_17 : decode cX11_kind 17 = .ok (.iconst 0, 1) := by decide +kernel
theorem dX11_kind_18 : decode cX11_kind 18 = .ok (.invokestatic 45, 3) := by decide +kernel
theorem dX11_kind_21 : decode cX11_kind 21 = .ok (.iconst 5, 1) := by decide +kernel
theorem dX11_kind_22 : decode cX11_kind 22 = .ok (.iload_n 1, 1) := by decide +kernel
theorem dX11_kind_23 : decode cX11_kind 23 = .ok (.iconst 3, 1) := by decide +kernel
theorem dX11_kind_24 : decode cX11_kind 24 = .ok (.invokestatic 45, 3) := by decide +kernel
theorem dX11_kind_27 : decode cX11_kind 27 = .ok (.iconst 1, 1) := by decide +kernel
theorem dX11_kind_28 : decode cX11_kind 28 = .ok (.iload_n 2, 1) := by decide +kernel
theorem dX11_kind_29 : decode cX11_kind 29 = .ok (.invokevirtual 185, 3) := by decide +kernel
theorem dX11_kind_32 : decode cX11_kind 32 = .ok (.goto 9, 3) := by decide +kernel
theorem dX11_kind_35 : decode cX11_kind 35 = .ok (.aload_n 0, 1) := by decide +kernel
theorem dX11_kind_36 : decode cX11_kind 36 = .ok (.ldc 44, 2) := by decide +kernel
theorem dX11_kind_38 : decode cX11_kind 38 = .ok (.invokevirtual 76, 3) := by decide +kernel
theorem dX11_kind_41 : decode cX11_kind 41 = .ok (.ireturn, 1) := by decide +kernel
theorem dX11_quick_0 : decode cX11_quick 0 = .ok (.aload_n 0, 1) := by decide +kernel
theorem dX11_quick_1 : decode cX11_quick 1 = .ok (.iload_n 1, 1) := by decide +kernel
theorem dX11_quick_2 : decode cX11_quick 2 = .ok (.invokevirtual 123, 3) := by decide +kernel
theorem dX11_quick_5 : decode cX11_quick 5 = .ok (.ifCond .eq 22, 3) := by decide +kernel
theorem dX11_quick_8 : decode cX11_quick 8 = .ok (.iload_n 2, 1) := by decide +kernel
theorem dX11_quick_9 : decode cX11_quick 9 = .ok (.invokestatic 182, 3) := by decide +kernel
theorem dX11_quick_12 : decode cX11_quick 12 = .ok (.ifCond .eq 15, 3) := by decide +kernel
theorem dX11_quick_15 : decode cX11_quick 15 = .ok (.iload_n 3, 1) := by decide +kernel
theorem dX11_quick_16 : decode cX11_quick 16 = .ok (.i2l, 1) := by decide +kernel
theorem dX11_quick_17 : decode cX11_quick 17 = .ok (.lconst 0, 1) := by decide +kernel
theorem dX11_quick_18 : decode cX11_quick 18 = .ok (.ldc2_w 136, 3) := by decide +kernel
theorem dX11_quick_21 : decode cX11_quick 21 = .ok (.invokestatic 49, 3) := by decide +kernel
theorem dX11_quick_24 : decode cX11_quick 24 = .ok (.ifCond .ne 10, 3) := by decide +kernel
theorem dX11_quick_27 : decode cX11_quick 27 = .ok (.aload_n 0, 1) := by decide +kernel
theorem dX11_quick_28 : decode cX11_quick 28 = .ok (.ldc 44, 2) := by decide +kernel
theorem dX11_quick_30 : decode cX11_quick 30 = .ok (.invokevirtual 76, 3) := by decide +kernel
theorem dX11_quick_33 : decode cX11_quick 33 = .ok (.ireturn, 1) := by decide +kernel
theorem dX11_quick_34 : decode cX11_quick 34 = .ok (.iload_n 1, 1) := by decide +kernel
theorem dX11_quick_35 : decode cX11_quick 35 = .ok (.iconst 2, 1) := by decide +kernel
theorem dX11_quick_36 : decode cX11_quick 36 = .ok (.invokestatic 45, 3) := by decide +kernel
theorem dX11_quick_39 : decode cX11_quick 39 = .ok (.istore 4, 2) := by decide +kernel
theorem dX11_quick_41 : decode cX11_quick 41 = .ok (.aload_n 0, 1) := by decide +kernel
theorem dX11_quick_42 : decode cX11_quick 42 = .ok (.getfield 7, 3) := by decide +kernel
theorem dX11_quick_45 : decode cX11_quick 45 = .ok (.iload 4, 2) := by decide +kernel
theorem dX11_quick_47 : decode cX11_quick 47 = .ok (.iaload, 1) := by decide +kernel
theorem dX11_quick_48 : decode cX11_quick 48 = .ok (.istore 5, 2) := by decide +kernel
theorem dX11_quick_50 : decode cX11_quick 50 = .ok (.iconst 0, 1) := by decide +kernel
theorem dX11_quick_51 : decode cX11_quick 51 = .ok (.istore 6, 2) := by decide +kernel
theorem dX11_quick_53 : decode cX11_quick 53 = .ok (.iconst 1, 1) := by decide +kernel
theorem dX11_quick_54 : decode cX11_quick 54 = .ok (.istore 7, 2) := by decide +kernel
theorem dX11_quick_56 : decode cX11_quick 56 = .ok (.iload 7, 2) := by decide +kernel
theorem dX11_quick_58 : decode cX11_quick 58 = .ok (.iconst 4, 1) := by decide +kernel
theorem dX11_quick_59 : decode cX11_quick 59 = .ok (.if_icmp .gt 45, 3) := by decide +kernel
theorem dX11_quick_62 : decode cX11_quick 62 = .ok (.iload 6, 2) := by decide +kernel
theorem dX11_quick_64 : decode cX11_quick 64 = .ok (.ifCond .ne 40, 3) := by decide +kernel
theorem dX11_quick_67 : decode cX11_quick 67 = .ok (.aload_n 0, 1) := by decide +kernel
theorem dX11_quick_68 : decode cX11_quick 68 = .ok (.getfield 7, 3) := by decide +kernel
theorem dX11_quick_71 : decode cX11_quick 71 = .ok (.iload 4, 2) := by decide +kernel
theorem dX11_quick_73 : decode cX11_quick 73 = .ok (.iload 7, 2) := by decide +kernel
theorem dX11_quick_75 : decode cX11_quick 75 = .ok (.iastore, 1) := by decide +kernel
theorem dX11_quick_76 : decode cX11_quick 76 = .ok (.aload_n 0, 1) := by decide +kernel
theorem dX11_quick_77 : decode cX11_quick 77 = .ok (.iload_n 1, 1) := by decide +kernel
theorem dX11_quick_78 : decode cX11_quick 78 = .ok (.iconst 3, 1) := by decide +kernel
theorem dX11_quick_79 : decode cX11_quick 79 = .ok (.invokestatic 45, 3) := by decide +kernel
theorem dX11_quick_82 : decode cX11_quick 82 = .ok (.iload_n 2, 1) := by decide +kernel
theorem dX11_quick_83 : decode cX11_quick 83 = .ok (.invokevirtual 172, 3) := by decide +kernel
theorem dX11_quick_86 : decode cX11_quick 86 = .ok (.iload_n 3, 1) := by decide +kernel
theorem dX11_quick_87 : decode cX11_quick 87 = .ok (.if_icmp .lt 8, 3) := by decide +kernel
theorem dX11_quick_90 : decode cX11_quick 90 = .ok (.iload 7, 2) := by decide +kernel
theorem dX11_quick_92 : decode cX11_quick 92 = .ok (.goto 4, 3) := by decide +kernel
theorem dX11_quick_95 : decode cX11_quick 95 = .ok (.iconst 0, 1) := by decide +kernel
theorem dX11_quick_96 : decode cX11_quick 96 = .ok (.istore 6, 2) := by decide +kernel
theorem dX11_quick_98 : decode cX11_quick 98 = .ok (.iinc 7 1, 3) := by decide +kernel
theorem dX11_quick_101 : decode cX11_quick 101 = .ok (.goto (-45), 3) := by decide +kernel
theorem dX11_quick_104 : decode cX11_quick 104 = .ok (.aload_n 0, 1) := by decide +kernel
theorem dX11_quick_105 : decode cX11_quick 105 = .ok (.getfield 7, 3) := by decide +kernel
theorem dX11_quick_108 : decode cX11_quick 108 = .ok (.iload 4, 2) := by decide +kernel
theorem dX11_quick_110 : decode cX11_quick 110 = .ok (.iload 5, 2) := by decide +kernel
theorem dX11_quick_112 : decode cX11_quick 112 = .ok (.iastore, 1) := by decide +kernel
theorem dX11_quick_113 : decode cX11_quick 113 = .ok (.iload 6, 2) := by decide +kernel
theorem dX11_quick_115 : decode cX11_quick 115 = .ok (.ifCond .ne 12, 3) := by decide +kernel
theorem dX11_quick_118 : decode cX11_quick 118 = .ok (.aload_n 0, 1) := by decide +kernel
theorem dX11_quick_119 : decode cX11_quick 119 = .ok (.ldc 175, 2) := by decide +kernel
theorem dX11_quick_121 : decode cX11_quick 121 = .ok (.invokevirtual 76, 3) := by decide +kernel
theorem dX11_quick_124 : decode cX11_quick 124 = .ok (.goto 5, 3) := by decide +kernel
theorem dX11_quick_127 : decode cX11_quick 127 = .ok (.iload 6, 2) := by decide +kernel
theorem dX11_quick_129 : decode cX11_quick 129 = .ok (.ireturn, 1) := by decide +kernel
theorem dX11_compose_0 : decode cX11_compose 0 = .ok (.iload_n 1, 1) := by decide +kernel
theorem dX11_compose_1 : decode cX11_compose 1 = .ok (.invokestatic 66, 3) := by decide +kernel
theorem dX11_compose_4 : decode cX11_compose 4 = .ok (.ifCond .eq 25, 3) := by decide +kernel
theorem dX11_compose_7 : decode cX11_compose 7 = .ok (.iload_n 2, 1) := by decide +kernel
theorem dX11_compose_8 : decode cX11_compose 8 = .ok (.invokestatic 182, 3) := by decide +kernel
theorem dX11_compose_11 : decode cX11_compose 11 = .ok (.ifCond .eq 18, 3) := by decide +kernel
theorem dX11_compose_14 : decode cX11_compose 14 = .ok (.aload_n 0, 1) := by decide +kernel
theorem dX11_compose_15 : decode cX11_compose 15 = .ok (.iconst 2, 1) := by decide +kernel
theorem dX11_compose_16 : decode cX11_compose 16 = .ok (.iload_n 1, 1) := by decide +kernel
theorem dX11_compose_17 : decode cX11_compose 17 = .ok (.iadd, 1) := by decide +kernel
theorem dX11_compose_18 : decode cX11_compose 18 = .ok (.bipush 11, 2) := by decide +kernel
theorem dX11_compose_20 : decode cX11_compose 20 = .ok (.iconst (-1), 1) := by decide +kernel
theorem dX11_compose_21 : decode cX11_compose 21 = .ok (.iconst 1, 1) := by decide +kernel
theorem dX11_compose_22 : decode cX11_compose 22 = .ok (.iload_n 2, 1) := by decide +kernel
theorem dX11_compose_23 : decode cX11_compose 23 = .ok (.invokevirtual 185, 3) := by decide +kernel
theorem dX11_compose_26 : decode cX11_compose 26 = .ok (.goto 9, 3) := by decide +kernel
theorem dX11_compose_29 : decode cX11_compose 29 = .ok (.aload_n 0, 1) := by decide +kernel
theorem dX11_compose_30 : decode cX11_compose 30 = .ok (.ldc 44, 2) := by decide +kernel
theorem dX11_compose_32 : decode cX11_compose 32 = .ok (.invokevirtual 76, 3) := by decide +kernel
theorem dX11_compose_35 : decode cX11_compose 35 = .ok (.ireturn, 1) := by decide +kernel
theorem dX11_deceive_0 : decode cX11_deceive 0 = .ok (.iload_n 1, 1) := by decide +kernel
theorem dX11_deceive_1 : decode cX11_deceive 1 = .ok (.invokestatic 79, 3) := by decide +kernel
theorem dX11_deceive_4 : decode cX11_deceive 4 = .ok (.ifCond .eq 31, 3) := by decide +kernel
theorem dX11_deceive_7 : decode cX11_deceive 7 = .ok (.iload_n 2, 1) := by decide +kernel
theorem dX11_deceive_8 : decode cX11_deceive 8 = .ok (.i2l, 1) := by decide +kernel
theorem dX11_deceive_9 : decode cX11_deceive 9 = .ok (.lconst 1, 1) := by decide +kernel
theorem dX11_deceive_10 : decode cX11_deceive 10 = .ok (.ldc2_w 189, 3) := by decide +kernel
theorem dX11_deceive_13 : decode cX11_deceive 13 = .ok (.invokestatic 49, 3) := by decide +kernel
theorem dX11_deceive_16 : decode cX11_deceive 16 = .ok (.ifCond .eq 19, 3) := by decide +kernel
theorem dX11_deceive_19 : decode cX11_deceive 19 = .ok (.aload_n 0, 1) := by decide +kernel
theorem dX11_deceive_20 : decode cX11_deceive 20 = .ok (.bipush 8, 2) := by decide +kernel
theorem dX11_deceive_22 : decode cX11_deceive 22 = .ok (.iload_n 1, 1) := by decide +kernel
theorem dX11_deceive_23 : decode cX11_deceive 23 = .ok (.iadd, 1) := by decide +kernel
theorem dX11_deceive_24 : decode cX11_deceive 24 = .ok (.bipush 47, 2) := by decide +kernel
theorem dX11_deceive_26 : decode cX11_deceive 26 = .ok (.iconst (-1), 1) := by decide +kernel
theorem dX11_deceive_27 : decode cX11_deceive 27 = .ok (.iconst (-1), 1) := by decide +kernel
theorem dX11_deceive_28 : decode cX11_deceive 28 = .ok (.iload_n 2, 1) := by decide +kernel
theorem dX11_deceive_29 : decode cX11_deceive 29 = .ok (.invokevirtual 185, 3) := by decide +kernel
theorem dX11_deceive_32 : decode cX11_deceive 32 = .ok (.goto 9, 3) := by decide +kernel
theorem dX11_deceive_35 : decode cX11_deceive 35 = .ok (.aload_n 0, 1) := by decide +kernel
theorem dX11_deceive_36 : decode cX11_deceive 36 = .ok (.ldc 44, 2) := by decide +kernel
theorem dX11_deceive_38 : decode cX11_deceive 38 = .ok (.invokevirtual 76, 3) := by decide +kernel
theorem dX11_deceive_41 : decode cX11_deceive 41 = .ok (.ireturn, 1) := by decide +kernel
theorem dX11_worst_0 : decode cX11_worst 0 = .ok (.iload_n 1, 1) := by decide +kernel
theorem dX11_worst_1 : decode cX11_worst 1 = .ok (.invokestatic 169, 3) := by decide +kernel
theorem dX11_worst_4 : decode cX11_worst 4 = .ok (.ifCond .ne 10, 3) := by decide +kernel
theorem dX11_worst_7 : decode cX11_worst 7 = .ok (.aload_n 0, 1) := by decide +kernel
theorem dX11_worst_8 : decode cX11_worst 8 = .ok (.ldc 44, 2) := by decide +kernel
theorem dX11_worst_10 : decode cX11_worst 10 = .ok (.invokevirtual 76, 3) := by decide +kernel
theorem dX11_worst_13 : decode cX11_worst 13 = .ok (.ireturn, 1) := by decide +kernel
theorem dX11_worst_14 : decode cX11_worst 14 = .ok (.aload_n 0, 1) := by decide +kernel
theorem dX11_worst_15 : decode cX11_worst 15 = .ok (.getfield 7, 3) := by decide +kernel
theorem dX11_worst_18 : decode cX11_worst 18 = .ok (.iconst 1, 1) := by decide +kernel
theorem dX11_worst_19 : decode cX11_worst 19 = .ok (.iaload, 1) := by decide +kernel
theorem dX11_worst_20 : decode cX11_worst 20 = .ok (.ifCond .ne 10, 3) := by decide +kernel
theorem dX11_worst_23 : decode cX11_worst 23 = .ok (.aload_n 0, 1) := by decide +kernel
theorem dX11_worst_24 : decode cX11_worst 24 = .ok (.ldc 175, 2) := by decide +kernel
theorem dX11_worst_26 : decode cX11_worst 26 = .ok (.invokevirtual 76, 3) := by decide +kernel
theorem dX11_worst_29 : decode cX11_worst 29 = .ok (.ireturn, 1) := by decide +kernel
theorem dX11_worst_30 : decode cX11_worst 30 = .ok (.aload_n 0, 1) := by decide +kernel
theorem dX11_worst_31 : decode cX11_worst 31 = .ok (.invokevirtual 163, 3) := by decide +kernel
theorem dX11_worst_34 : decode cX11_worst 34 = .ok (.aload_n 0, 1) := by decide +kernel
theorem dX11_worst_35 : decode cX11_worst 35 = .ok (.iload_n 1, 1) := by decide +kernel
theorem dX11_worst_36 : decode cX11_worst 36 = .ok (.invokevirtual 158, 3) := by decide +kernel
theorem dX11_worst_39 : decode cX11_worst 39 = .ok (.iconst 0, 1) := by decide +kernel
theorem dX11_worst_40 : decode cX11_worst 40 = .ok (.istore_n 2, 1) := by decide +kernel
theorem dX11_worst_41 : decode cX11_worst 41 = .ok (.iconst 1, 1) := by decide +kernel
theorem dX11_worst_42 : decode cX11_worst 42 = .ok (.istore_n 3, 1) := by decide +kernel
theorem dX11_worst_43 : decode cX11_worst 43 = .ok (.iload_n 3, 1) := by decide +kernel
theorem dX11_worst_44 : decode cX11_worst 44 = .ok (.aload_n 0, 1) := by decide +kernel
theorem dX11_worst_45 : decode cX11_worst 45 = .ok (.getfield 7, 3) := by decide +kernel
theorem dX11_worst_48 : decode cX11_worst 48 = .ok (.iconst 1, 1) := by decide +kernel
theorem dX11_worst_49 : decode cX11_worst 49 = .ok (.iaload, 1) := by decide +kernel
theorem dX11_worst_50 : decode cX11_worst 50 = .ok (.if_icmp .ge 30, 3) := by decide +kernel
theorem dX11_worst_53 : decode cX11_worst 53 = .ok (.aload_n 0, 1) := by decide +kernel
theorem dX11_worst_54 : decode cX11_worst 54 = .ok (.iload_n 3, 1) := by decide +kernel
theorem dX11_worst_55 : decode cX11_worst 55 = .ok (.iconst 4, 1) := by decide +kernel
theorem dX11_worst_56 : decode cX11_worst 56 = .ok (.invokevirtual 59, 3) := by decide +kernel
theorem dX11_worst_59 : decode cX11_worst 59 = .ok (.aload_n 0, 1) := by decide +kernel
theorem dX11_worst_60 : decode cX11_worst 60 = .ok (.iload_n 2, 1) := by decide +kernel
theorem dX11_worst_61 : decode cX11_worst 61 = .ok (.iconst 4, 1) := by decide +kernel
theorem dX11_worst_62 : decode cX11_worst 62 = .ok (.invokevirtual 59, 3) := by decide +kernel
theorem dX11_worst_65 : decode cX11_worst 65 = .ok (.if_icmp .le 7, 3) := by decide +kernel
theorem dX11_worst_68 : decode cX11_worst 68 = .ok (.iload_n 3, 1) := by decide +kernel
theorem dX11_worst_69 : decode cX11_worst 69 = .ok (.goto 4, 3) := by decide +kernel
theorem dX11_worst_72 : decode cX11_worst 72 = .ok (.iload_n 2, 1) := by decide +kernel
theorem dX11_worst_73 : decode cX11_worst 73 = .ok (.istore_n 2, 1) := by decide +kernel
theorem dX11_worst_74 : decode cX11_worst 74 = .ok (.iinc 3 1, 3) := by decide +kernel
theorem dX11_worst_77 : decode cX11_worst 77 = .ok (.goto (-34), 3) := by decide +kernel
theorem dX11_worst_80 : decode cX11_worst 80 = .ok (.aload_n 0, 1) := by decide +kernel
theorem dX11_worst_81 : decode cX11_worst 81 = .ok (.iload_n 2, 1) := by decide +kernel
theorem dX11_worst_82 : decode cX11_worst 82 = .ok (.invokevirtual 166, 3) := by decide +kernel
theorem dX11_worst_85 : decode cX11_worst 85 = .ok (.ireturn, 1) := by decide +kernel
theorem dX11_feed_0 : decode cX11_feed 0 = .ok (.iload_n 2, 1) := by decide +kernel
theorem dX11_feed_1 : decode cX11_feed 1 = .ok (.i2l, 1) := by decide +kernel
theorem dX11_feed_2 : decode cX11_feed 2 = .ok (.lconst 1, 1) := by decide +kernel
theorem dX11_feed_3 : decode cX11_feed 3 = .ok (.ldc2_w 134, 3) := by decide +kernel
theorem dX11_feed_6 : decode cX11_feed 6 = .ok (.invokestatic 49, 3) := by decide +kernel
theorem dX11_feed_9 : decode cX11_feed 9 = .ok (.ifCond .ne 10, 3) := by decide +kernel
theorem dX11_feed_12 : decode cX11_feed 12 = .ok (.aload_n 0, 1) := by decide +kernel
theorem dX11_feed_13 : decode cX11_feed 13 = .ok (.ldc 44, 2) := by decide +kernel
theorem dX11_feed_15 : decode cX11_feed 15 = .ok (.invokevirtual 76, 3) := by decide +kernel
theorem dX11_feed_18 : decode cX11_feed 18 = .ok (.ireturn, 1) := by decide +kernel
theorem dX11_feed_19 : decode cX11_feed 19 = .ok (.aload_n 0, 1) := by decide +kernel
theorem dX11_feed_20 : decode cX11_feed 20 = .ok (.getfield 191, 3) := by decide +kernel
theorem dX11_feed_23 : decode cX11_feed 23 = .ok (.iload_n 2, 1) := by decide +kernel
theorem dX11_feed_24 : decode cX11_feed 24 = .ok (.iadd, 1) := by decide +kernel
theorem dX11_feed_25 : decode cX11_feed 25 = .ok (.bipush 120, 2) := by decide +kernel
theorem dX11_feed_27 : decode cX11_feed 27 = .ok (.if_icmp .le 10, 3) := by decide +kernel
theorem dX11_feed_30 : decode cX11_feed 30 = .ok (.aload_n 0, 1) := by decide +kernel
theorem dX11_feed_31 : decode cX11_feed 31 = .ok (.ldc 119, 2) := by decide +kernel
theorem dX11_feed_33 : decode cX11_feed 33 = .ok (.invokevirtual 76, 3) := by decide +kernel
theorem dX11_feed_36 : decode cX11_feed 36 = .ok (.ireturn, 1) := by decide +kernel
theorem dX11_feed_37 : decode cX11_feed 37 = .ok (.iload_n 2, 1) := by decide +kernel
theorem dX11_feed_38 : decode cX11_feed 38 = .ok (.iconst 1, 1) := by decide +kernel
theorem dX11_feed_39 : decode cX11_feed 39 = .ok (.isub, 1) := by decide +kernel
theorem dX11_feed_40 : decode cX11_feed 40 = .ok (.istore_n 3, 1) := by decide +kernel
theorem dX11_feed_41 : decode cX11_feed 41 = .ok (.iload_n 3, 1) := by decide +kernel
theorem dX11_feed_42 : decode cX11_feed 42 = .ok (.ifCond .lt 38, 3) := by decide +kernel
theorem dX11_feed_45 : decode cX11_feed 45 = .ok (.aload_n 0, 1) := by decide +kernel
theorem dX11_feed_46 : decode cX11_feed 46 = .ok (.getfield 28, 3) := by decide +kernel
theorem dX11_feed_49 : decode cX11_feed 49 = .ok (.aload_n 0, 1) := by decide +kernel
theorem dX11_feed_50 : decode cX11_feed 50 = .ok (.getfield 191, 3) := by decide +kernel
theorem dX11_feed_53 : decode cX11_feed 53 = .ok (.iload_n 1, 1) := by decide +kernel
theorem dX11_feed_54 : decode cX11_feed 54 = .ok (.bipush 8, 2) := by decide +kernel
theorem dX11_feed_56 : decode cX11_feed 56 = .ok (.iload_n 3, 1) := by decide +kernel
theorem dX11_feed_57 : decode cX11_feed 57 = .ok (.imul, 1) := by decide +kernel
theorem dX11_feed_58 : decode cX11_feed 58 = .ok (.ishr, 1) := by decide +kernel
theorem dX11_feed_59 : decode cX11_feed 59 = .ok (.sipush 255, 3) := by decide +kernel
theorem dX11_feed_62 : decode cX11_feed 62 = .ok (.iand, 1) := by decide +kernel
theorem dX11_feed_63 : decode cX11_feed 63 = .ok (.iastore, 1) := by decide +kernel
theorem dX11_feed_64 : decode cX11_feed 64 = .ok (.aload_n 0, 1) := by decide +kernel
theorem dX11_feed_65 : decode cX11_feed 65 = .ok (.dup, 1) := by decide +kernel
theorem dX11_feed_66 : decode cX11_feed 66 = .ok (.getfield 191, 3) := by decide +kernel
theorem dX11_feed_69 : decode cX11_feed 69 = .ok (.iconst 1, 1) := by decide +kernel
theorem dX11_feed_70 : decode cX11_feed 70 = .ok (.iadd, 1) := by decide +kernel
theorem dX11_feed_71 : decode cX11_feed 71 = .ok (.putfield 191, 3) := by decide +kernel
theorem dX11_feed_74 : decode cX11_feed 74 = .ok (.iinc 3 (-1), 3) := by decide +kernel
theorem dX11_feed_77 : decode cX11_feed 77 = .ok (.goto (-36), 3) := by decide +kernel
theorem dX11_feed_80 : decode cX11_feed 80 = .ok (.aload_n 0, 1) := by decide +kernel
theorem dX11_feed_81 : decode cX11_feed 81 = .ok (.getfield 191, 3) := by decide +kernel
theorem dX11_feed_84 : decode cX11_feed 84 = .ok (.ireturn, 1) := by decide +kernel
theorem dX11_wipe_0 : decode cX11_wipe 0 = .ok (.aload_n 0, 1) := by decide +kernel
theorem dX11_wipe_1 : decode cX11_wipe 1 = .ok (.getfield 191, 3) := by decide +kernel
theorem dX11_wipe_4 : decode cX11_wipe 4 = .ok (.istore_n 1, 1) := by decide +kernel
theorem dX11_wipe_5 : decode cX11_wipe 5 = .ok (.aload_n 0, 1) := by decide +kernel
theorem dX11_wipe_6 : decode cX11_wipe 6 = .ok (.iconst 0, 1) := by decide +kernel
theorem dX11_wipe_7 : decode cX11_wipe 7 = .ok (.putfield 191, 3) := by decide +kernel
theorem dX11_wipe_10 : decode cX11_wipe 10 = .ok (.iload_n 1, 1) := by decide +kernel
theorem dX11_wipe_11 : decode cX11_wipe 11 = .ok (.ireturn, 1) := by decide +kernel
theorem dX11_byteAt_0 : decode cX11_byteAt 0 = .ok (.iload_n 1, 1) := by decide +kernel
theorem dX11_byteAt_1 : decode cX11_byteAt 1 = .ok (.aload_n 0, 1) := by decide +kernel
theorem dX11_byteAt_2 : decode cX11_byteAt 2 = .ok (.getfield 191, 3) := by decide +kernel
theorem dX11_byteAt_5 : decode cX11_byteAt 5 = .ok (.if_icmp .ge 12, 3) := by decide +kernel
theorem dX11_byteAt_8 : decode cX11_byteAt 8 = .ok (.aload_n 0, 1) := by decide +kernel
theorem dX11_byteAt_9 : decode cX11_byteAt 9 = .ok (.getfield 28, 3) := by decide +kernel
theorem dX11_byteAt_12 : decode cX11_byteAt 12 = .ok (.iload_n 1, 1) := by decide +kernel
theorem dX11_byteAt_13 : decode cX11_byteAt 13 = .ok (.iaload, 1) := by decide +kernel
theorem dX11_byteAt_14 : decode cX11_byteAt 14 = .ok (.goto 4, 3) := by decide +kernel
theorem dX11_byteAt_17 : decode cX11_byteAt 17 = .ok (.iconst (-1), 1) := by decide +kernel
theorem dX11_byteAt_18 : decode cX11_byteAt 18 = .ok (.ireturn, 1) := by decide +kernel
theorem dX11_isLetter_0 : decode cX11_isLetter 0 = .ok (.iload_n 0, 1) := by decide +kernel
theorem dX11_isLetter_1 : decode cX11_isLetter 1 = .ok (.i2l, 1) := by decide +kernel
theorem dX11_isLetter_2 : decode cX11_isLetter 2 = .ok (.ldc2_w 194, 3) := by decide +kernel
theorem dX11_isLetter_5 : decode cX11_isLetter 5 = .ok (.ldc2_w 196, 3) := by decide +kernel
theorem dX11_isLetter_8 : decode cX11_isLetter 8 = .ok (.invokestatic 49, 3) := by decide +kernel
theorem dX11_isLetter_11 : decode cX11_isLetter 11 = .ok (.ireturn, 1) := by decide +kernel
theorem dX11_isDigit_0 : decode cX11_isDigit 0 = .ok (.iload_n 0, 1) := by decide +kernel
theorem dX11_isDigit_1 : decode cX11_isDigit 1 = .ok (.i2l, 1) := by decide +kernel
theorem dX11_isDigit_2 : decode cX11_isDigit 2 = .ok (.ldc2_w 198, 3) := by decide +kernel
theorem dX11_isDigit_5 : decode cX11_isDigit 5 = .ok (.ldc2_w 200, 3) := by decide +kernel
theorem dX11_isDigit_8 : decode cX11_isDigit 8 = .ok (.invokestatic 49, 3) := by decide +kernel
theorem dX11_isDigit_11 : decode cX11_isDigit 11 = .ok (.ireturn, 1) := by decide +kernel
theorem dX11_token_0 : decode cX11_token 0 = .ok (.aload_n 0, 1) := by decide +kernel
theorem dX11_token_1 : decode cX11_token 1 = .ok (.aload_n 0, 1) := by decide +kernel
theorem dX11_token_2 : decode cX11_token 2 = .ok (.getfield 202, 3) := by decide +kernel
theorem dX11_token_5 : decode cX11_token 5 = .ok (.putfield 205, 3) := by decide +kernel
theorem dX11_token_8 : decode cX11_token 8 = .ok (.aload_n 0, 1) := by decide +kernel
theorem dX11_token_9 : decode cX11_token 9 = .ok (.aload_n 0, 1) := by decide +kernel
theorem dX11_token_10 : decode cX11_token 10 = .ok (.getfield 205, 3) := by decide +kernel
theorem dX11_token_13 : decode cX11_token 13 = .ok (.invokevirtual 208, 3) := by decide +kernel
theorem dX11_token_16 : decode cX11_token 16 = .ok (.bipush 32, 2) := by decide +kernel
theorem dX11_token_18 : decode cX11_token 18 = .ok (.if_icmp .ne 16, 3) := by decide +kernel
theorem dX11_token_21 : decode cX11_token 21 = .ok (.aload_n 0, 1) := by decide +kernel
theorem dX11_token_22 : decode cX11_token 22 = .ok (.dup, 1) := by decide +kernel
theorem dX11_token_23 : decode cX11_token 23 = .ok (.getfield 205, 3) := by decide +kernel
theorem dX11_token_26 : decode cX11_token 26 = .ok (.iconst 1, 1) := by decide +kernel
theorem dX11_token_27 : decode cX11_token 27 = .ok (.iadd, 1) := by decide +kernel
theorem dX11_token_28 : decode cX11_token 28 = .ok (.putfield 205, 3) := by decide +kernel
theorem dX11_token_31 : decode cX11_token 31 = .ok (.goto (-23), 3) := by decide +kernel
theorem dX11_token_34 : decode cX11_token 34 = .ok (.aload_n 0, 1) := by decide +kernel
theorem dX11_token_35 : decode cX11_token 35 = .ok (.aload_n 0, 1) := by decide +kernel
theorem dX11_token_36 : decode cX11_token 36 = .ok (.getfield 205, 3) := by decide +kernel
theorem dX11_token_39 : decode cX11_token 39 = .ok (.invokevirtual 208, 3) := by decide +kernel
theorem dX11_token_42 : decode cX11_token 42 = .ok (.invokestatic 211, 3) := by decide +kernel
theorem dX11_token_45 : decode cX11_token 45 = .ok (.istore_n 1, 1) := by decide +kernel
theorem dX11_token_46 : decode cX11_token 46 = .ok (.aload_n 0, 1) := by decide +kernel
theorem dX11_token_47 : decode cX11_token 47 = .ok (.aload_n 0, 1) := by decide +kernel
theorem dX11_token_48 : decode cX11_token 48 = .ok (.getfield 205, 3) := by decide +kernel
theorem dX11_token_51 : decode cX11_token 51 = .ok (.invokevirtual 208, 3) := by decide +kernel
theorem dX11_token_54 : decode cX11_token 54 = .ok (.invokestatic 214, 3) := by decide +kernel
theorem dX11_token_57 : decode cX11_token 57 = .ok (.istore_n 2, 1) := by decide +kernel
theorem dX11_token_58 : decode cX11_token 58 = .ok (.aload_n 0, 1) := by decide +kernel
theorem dX11_token_59 : decode cX11_token 59 = .ok (.aload_n 0, 1) := by decide +kernel
theorem dX11_token_60 : decode cX11_token 60 = .ok (.getfield 205, 3) := by decide +kernel
theorem dX11_token_63 : decode cX11_token 63 = .ok (.aload_n 0, 1) := by decide +kernel
theorem dX11_token_64 : decode cX11_token 64 = .ok (.getfield 191, 3) := by decide +kernel
theorem dX11_token_67 : decode cX11_token 67 = .ok (.if_icmp .ge 12, 3) := by decide +kernel
theorem dX11_token_70 : decode cX11_token 70 = .ok (.aload_n 0, 1) := by decide +kernel
theorem dX11_token_71 : decode cX11_token 71 = .ok (.getfield 205, 3) := by decide +kernel
theorem dX11_token_74 : decode cX11_token 74 = .ok (.iconst 1, 1) := by decide +kernel
theorem dX11_token_75 : decode cX11_token 75 = .ok (.iadd, 1) := by decide +kernel
theorem dX11_token_76 : decode cX11_token 76 = .ok (.goto 7, 3) := by decide +kernel
theorem dX11_token_79 : decode cX11_token 79 = .ok (.aload_n 0, 1) := by decide +kernel
theorem dX11_token_80 : decode cX11_token 80 = .ok (.getfield 205, 3) := by decide +kernel
theorem dX11_token_83 : decode cX11_token 83 = .ok (.putfield 202, 3) := by decide +kernel
theorem dX11_token_86 : decode cX11_token 86 = .ok (.iload_n 1, 1) := by decide +kernel
theorem dX11_token_87 : decode cX11_token 87 = .ok (.ifCond .eq 17, 3) := by decide +kernel
theorem dX11_token_90 : decode cX11_token 90 = .ok (.aload_n 0, 1) := by decide +kernel
theorem dX11_token_91 : decode cX11_token 91 = .ok (.aload_n 0, 1) := by decide +kernel
theorem dX11_token_92 : decode cX11_token 92 = .ok (.getfield 202, 3) := by decide +kernel
theorem dX11_token_95 : decode cX11_token 95 = .ok (.invokevirtual 208, 3) := by decide +kernel
theorem dX11_token_98 : decode cX11_token 98 = .ok (.invokestatic 211, 3) := by decide +kernel
theorem dX11_token_101 : decode cX11_token 101 = .ok (.ifCond .ne 21, 3) := by decide +kernel
theorem dX11_token_104 : decode cX11_token 104 = .ok (.iload_n 2, 1) := by decide +kernel
theorem dX11_token_105 : decode cX11_token 105 = .ok (.ifCond .eq 30, 3) := by decide +kernel
theorem dX11_token_108 : decode cX11_token 108 = .ok (.aload_n 0, 1) := by decide +kernel
theorem dX11_token_109 : decode cX11_token 109 = .ok (.aload_n 0, 1) := by decide +kernel
theorem dX11_token_110 : decode cX11_token 110 = .ok (.getfield 202, 3) := by decide +kernel
theorem dX11_token_113 : decode cX11_token 113 = .ok (.invokevirtual 208, 3) := by decide +kernel
theorem dX11_token_116 : decode cX11_token 116 = .ok (.invokestatic 214, 3) := by decide +kernel
theorem dX11_token_119 : decode cX11_token 119 = .ok (.ifCond .eq 16, 3) := by decide +kernel
theorem dX11_token_122 : decode cX11_token 122 = .ok (.aload_n 0, 1) := by decide +kernel
theorem dX11_token_123 : decode cX11_token 123 = .ok (.dup, 1) := by decide +kernel
theorem dX11_token_124 : decode cX11_token 124 = .ok (.getfield 202, 3) := by decide +kernel
theorem dX11_token_127 : decode cX11_token 127 = .ok (.iconst 1, 1) := by decide +kernel
theorem dX11_token_128 : decode cX11_token 128 = .ok (.iadd, 1) := by decide +kernel
theorem dX11_token_129 : decode cX11_token 129 = .ok (.putfield 202, 3) := by decide +kernel
theorem dX11_token_132 : decode cX11_token 132 = .ok (.goto (-46), 3) := by decide +kernel
theorem dX11_token_135 : decode cX11_token 135 = .ok (.return_, 1) := by decide +kernel
theorem dX11_must_0 : decode cX11_must 0 = .ok (.aload_n 0, 1) := by decide +kernel
theorem dX11_must_1 : decode cX11_must 1 = .ok (.aload_n 0, 1) := by decide +kernel
theorem dX11_must_2 : decode cX11_must 2 = .ok (.getfield 217, 3) := by decide +kernel
theorem dX11_must_5 : decode cX11_must 5 = .ok (.ifCond .ne 7, 3) := by decide +kernel
theorem dX11_must_8 : decode cX11_must 8 = .ok (.iload_n 1, 1) := by decide +kernel
theorem dX11_must_9 : decode cX11_must 9 = .ok (.ifCond .ne 7, 3) := by decide +kernel
theorem dX11_must_12 : decode cX11_must 12 = .ok (.iconst 1, 1) := by decide +kernel
theorem dX11_must_13 : decode cX11_must 13 = .ok (.goto 4, 3) := by decide +kernel
theorem dX11_must_16 : decode cX11_must 16 = .ok (.iconst 0, 1) := by decide +kernel
theorem dX11_must_17 : decode cX11_must 17 = .ok (.putfield 217, 3) := by decide +kernel
theorem dX11_must_20 : decode cX11_must 20 = .ok (.aload_n 0, 1) := by decide +kernel
theorem dX11_must_21 : decode cX11_must 21 = .ok (.getfield 217, 3) := by decide +kernel
theorem dX11_must_24 : decode cX11_must 24 = .ok (.ifCond .ne 7, 3) := by decide +kernel
theorem dX11_must_27 : decode cX11_must 27 = .ok (.aload_n 0, 1) := by decide +kernel
theorem dX11_must_28 : decode cX11_must 28 = .ok (.invokevirtual 221, 3) := by decide +kernel
theorem dX11_must_31 : decode cX11_must 31 = .ok (.return_, 1) := by decide +kernel
theorem dX11_word_0 : decode cX11_word 0 = .ok (.lconst 0, 1) := by decide +kernel
theorem dX11_word_1 : decode cX11_word 1 = .ok (.lstore_n 1, 1) := by decide +kernel
theorem dX11_word_2 : decode cX11_word 2 = .ok (.aload_n 0, 1) := by decide +kernel
theorem dX11_word_3 : decode cX11_word 3 = .ok (.getfield 205, 3) := by decide +kernel
theorem dX11_word_6 : decode cX11_word 6 = .ok (.istore_n 3, 1) := by decide +kernel
theorem dX11_word_7 : decode cX11_word 7 = .ok (.iload_n 3, 1) := by decide +kernel
theorem dX11_word_8 : decode cX11_word 8 = .ok (.aload_n 0, 1) := by decide +kernel
theorem dX11_word_9 : decode cX11_word 9 = .ok (.getfield 202, 3) := by decide +kernel
theorem dX11_word_12 : decode cX11_word 12 = .ok (.if_icmp .ge 38, 3) := by decide +kernel
theorem dX11_word_15 : decode cX11_word 15 = .ok (.lload_n 1, 1) := by decide +kernel
theorem dX11_word_16 : decode cX11_word 16 = .ok (.ldc2_w 224, 3) := by decide +kernel
theorem dX11_word_19 : decode cX11_word 19 = .ok (.lcmp, 1) := by decide +kernel
theorem dX11_word_20 : decode cX11_word 20 = .ok (.ifCond .le 7, 3) := by decide +kernel
theorem dX11_word_23 : decode cX11_word 23 = .ok (.lload_n 1, 1) := by decide +kernel
theorem dX11_word_24 : decode cX11_word 24 = .ok (.goto 19, 3) := by decide +kernel
theorem dX11_word_27 : decode cX11_word 27 = .ok (.ldc2_w 226, 3) := by decide +kernel
theorem dX11_word_30 : decode cX11_word 30 = .ok (.lload_n 1, 1) := by decide +kernel
theorem dX11_word_31 : decode cX11_word 31 = .ok (.lmul, 1) := by decide +kernel
theorem dX11_word_32 : decode cX11_word 32 = .ok (.aload_n 0, 1) := by decide +kernel
theorem dX11_word_33 : decode cX11_word 33 = .ok (.getfield 28, 3) := by decide +kernel
theorem dX11_word_36 : decode cX11_word 36 = .ok (.iload_n 3, 1) := by decide +kernel
theorem dX11_word_37 : decode cX11_word 37 = .ok (.iaload, 1) := by decide +kernel
theorem dX11_word_38 : decode cX11_word 38 = .ok (.bipush 96, 2) := by decide +kernel
theorem dX11_word_40 : decode cX11_word 40 = .ok (.isub, 1) := by decide +kernel
theorem dX11_word_41 : decode cX11_word 41 = .ok (.i2l, 1) := by decide +kernel
theorem dX11_word_42 : decode cX11_word 42 = .ok (.ladd, 1) := by decide +kernel
theorem dX11_word_43 : decode cX11_word 43 = .ok (.lstore_n 1, 1) := by decide +kernel
theorem dX11_word_44 : decode cX11_word 44 = .ok (.iinc 3 1, 3) := by decide +kernel
theorem dX11_word_47 : decode cX11_word 47 = .ok (.goto (-40), 3) := by decide +kernel
theorem dX11_word_50 : decode cX11_word 50 = .ok (.aload_n 0, 1) := by decide +kernel
theorem dX11_word_51 : decode cX11_word 51 = .ok (.getfield 217, 3) := by decide +kernel
theorem dX11_word_54 : decode cX11_word 54 = .ok (.ifCond .ne 17, 3) := by decide +kernel
theorem dX11_word_57 : decode cX11_word 57 = .ok (.aload_n 0, 1) := by decide +kernel
theorem dX11_word_58 : decode cX11_word 58 = .ok (.aload_n 0, 1) := by decide +kernel
theorem dX11_word_59 : decode cX11_word 59 = .ok (.getfield 205, 3) := by decide +kernel
theorem dX11_word_62 : decode cX11_word 62 = .ok (.invokevirtual 208, 3) := by decide +kernel
theorem dX11_word_65 : decode cX11_word 65 = .ok (.invokestatic 211, 3) := by decide +kernel
theorem dX11_word_68 : decode cX11_word 68 = .ok (.ifCond .ne 7, 3) := by decide +kernel
theorem dX11_word_71 : decode cX11_word 71 = .ok (.lconst 0, 1) := by decide +kernel
theorem dX11_word_72 : decode cX11_word 72 = .ok (.goto 4, 3) := by decide +kernel
theorem dX11_word_75 : decode cX11_word 75 = .ok (.lload_n 1, 1) := by decide +kernel
theorem dX11_word_76 : decode cX11_word 76 = .ok (.lreturn, 1) := by decide +kernel
theorem dX11_number_0 : decode cX11_number 0 = .ok (.aload_n 0, 1) := by decide +kernel
theorem dX11_number_1 : decode cX11_number 1 = .ok (.getfield 217, 3) := by decide +kernel
theorem dX11_number_4 : decode cX11_number 4 = .ok (.ifCond .eq 4, 3) := by decide +kernel
theorem dX11_number_7 : decode cX11_number 7 = .ok (.return_, 1) := by decide +kernel
theorem dX11_number_8 : decode cX11_number 8 = .ok (.aload_n 0, 1) := by decide +kernel
theorem dX11_number_9 : decode cX11_number 9 = .ok (.aload_n 0, 1) := by decide +kernel
theorem dX11_number_10 : decode cX11_number 10 = .ok (.getfield 205, 3) := by decide +kernel
theorem dX11_number_13 : decode cX11_number 13 = .ok (.invokevirtual 208, 3) := by decide +kernel
theorem dX11_number_16 : decode cX11_number 16 = .ok (.invokestatic 214, 3) := by decide +kernel
theorem dX11_number_19 : decode cX11_number 19 = .ok (.istore_n 3, 1) := by decide +kernel
theorem dX11_number_20 : decode cX11_number 20 = .ok (.iconst 0, 1) := by decide +kernel
theorem dX11_number_21 : decode cX11_number 21 = .ok (.istore 4, 2) := by decide +kernel
theorem dX11_number_23 : decode cX11_number 23 = .ok (.aload_n 0, 1) := by decide +kernel
theorem dX11_number_24 : decode cX11_number 24 = .ok (.getfield 205, 3) := by decide +kernel
theorem dX11_number_27 : decode cX11_number 27 = .ok (.istore 5, 2) := by decide +kernel
theorem dX11_number_29 : decode cX11_number 29 = .ok (.iload 5, 2) := by decide +kernel
theorem dX11_number_31 : decode cX11_number 31 = .ok (.aload_n 0, 1) := by decide +kernel
theorem dX11_number_32 : decode cX11_number 32 = .ok (.getfield 202, 3) := by decide +kernel
theorem dX11_number_35 : decode cX11_number 35 = .ok (.if_icmp .ge 44, 3) := by decide +kernel
theorem dX11_number_38 : decode cX11_number 38 = .ok (.iload_n 3, 1) := by decide +kernel
theorem dX11_number_39 : decode cX11_number 39 = .ok (.ifCond .eq 40, 3) := by decide +kernel
theorem dX11_number_42 : decode cX11_number 42 = .ok (.iload 4, 2) := by decide +kernel
theorem dX11_number_44 : decode cX11_number 44 = .ok (.sipush 999, 3) := by decide +kernel
theorem dX11_number_47 : decode cX11_number 47 = .ok (.if_icmp .le 8, 3) := by decide +kernel
theorem dX11_number_50 : decode cX11_number 50 = .ok (.iload 4, 2) := by decide +kernel
theorem dX11_number_52 : decode cX11_number 52 = .ok (.goto 19, 3) := by decide +kernel
theorem dX11_number_55 : decode cX11_number 55 = .ok (.bipush 10, 2) := by decide +kernel
theorem dX11_number_57 : decode cX11_number 57 = .ok (.iload 4, 2) := by decide +kernel
theorem dX11_number_59 : decode cX11_number 59 = .ok (.imul, 1) := by decide +kernel
theorem dX11_number_60 : decode cX11_number 60 = .ok (.aload_n 0, 1) := by decide +kernel
theorem dX11_number_61 : decode cX11_number 61 = .ok (.getfield 28, 3) := by decide +kernel
theorem dX11_number_64 : decode cX11_number 64 = .ok (.iload 5, 2) := by decide +kernel
theorem dX11_number_66 : decode cX11_number 66 = .ok (.iaload, 1) := by decide +kernel
theorem dX11_number_67 : decode cX11_number 67 = .ok (.iadd, 1) := by decide +kernel
theorem dX11_number_68 : decode cX11_number 68 = .ok (.bipush 48, 2) := by decide +kernel
theorem dX11_number_70 : decode cX11_number 70 = .ok (.isub, 1) := by decide +kernel
theorem dX11_number_71 : decode cX11_number 71 = .ok (.istore 4, 2) := by decide +kernel
theorem dX11_number_73 : decode cX11_number 73 = .ok (.iinc 5 1, 3) := by decide +kernel
theorem dX11_number_76 : decode cX11_number 76 = .ok (.goto (-47), 3) := by decide +kernel
theorem dX11_number_79 : decode cX11_number 79 = .ok (.aload_n 0, 1) := by decide +kernel
theorem dX11_number_80 : decode cX11_number 80 = .ok (.iload 4, 2) := by decide +kernel
theorem dX11_number_82 : decode cX11_number 82 = .ok (.putfield 228, 3) := by decide +kernel
theorem dX11_number_85 : decode cX11_number 85 = .ok (.aload_n 0, 1) := by decide +kernel
theorem dX11_number_86 : decode cX11_number 86 = .ok (.iload_n 3, 1) := by decide +kernel
theorem dX11_number_87 : decode cX11_number 87 = .ok (.ifCond .eq 20, 3) := by decide +kernel
theorem dX11_number_90 : decode cX11_number 90 = .ok (.iload 4, 2) := by decide +kernel
theorem dX11_number_92 : decode cX11_number 92 = .ok (.i2l, 1) := by decide +kernel
theorem dX11_number_93 : decode cX11_number 93 = .ok (.iload_n 1, 1) := by decide +kernel
theorem dX11_number_94 : decode cX11_number 94 = .ok (.i2l, 1) := by decide +kernel
theorem dX11_number_95 : decode cX11_number 95 = .ok (.iload_n 2, 1) := by decide +kernel
theorem dX11_number_96 : decode cX11_number 96 = .ok (.i2l, 1) := by decide +kernel
theorem dX11_number_97 : decode cX11_number 97 = .ok (.invokestatic 49, 3) := by decide +kernel
theorem dX11_number_100 : decode cX11_number 100 = .ok (.ifCond .eq 7, 3) := by decide +kernel
theorem dX11_number_103 : decode cX11_number 103 = .ok (.iconst 1, 1) := by decide +kernel
theorem dX11_number_104 : decode cX11_number 104 = .ok (.goto 4, 3) := by decide +kernel
theorem dX11_number_107 : decode cX11_number 107 = .ok (.iconst 0, 1) := by decide +kernel
theorem dX11_number_108 : decode cX11_number 108 = .ok (.invokevirtual 231, 3) := by decide +kernel
theorem dX11_number_111 : decode cX11_number 111 = .ok (.return_, 1) := by decide +kernel
theorem dX11_kindHere_0 : decode cX11_kindHere 0 = .ok (.aload_n 0, 1) := by decide +kernel
theorem dX11_kindHere_1 : decode cX11_kindHere 1 = .ok (.invokevirtual 235, 3) := by decide +kernel
theorem dX11_kindHere_4 : decode cX11_kindHere 4 = .ok (.lstore_n 1, 1) := by decide +kernel
theorem dX11_kindHere_5 : decode cX11_kindHere 5 = .ok (.lload_n 1, 1) := by decide +kernel
theorem dX11_kindHere_6 : decode cX11_kindHere 6 = .ok (.ldc2_w 239, 3) := by decide +kernel
theorem dX11_kindHere_9 : decode cX11_kindHere 9 = .ok (.lcmp, 1) := by decide +kernel
theorem dX11_kindHere_10 : decode cX11_kindHere 10 = .ok (.ifCond .ne 7, 3) := by decide +kernel
theorem dX11_kindHere_13 : decode cX11_kindHere 13 = .ok (.iconst 0, 1) := by decide +kernel
theorem dX11_kindHere_14 : decode cX11_kindHere 14 = .ok (.goto 64, 3) := by decide +kernel
theorem dX11_kindHere_17 : decode cX11_kindHere 17 = .ok (.lload_n 1, 1) := by decide +kernel
theorem dX11_kindHere_18 : decode cX11_kindHere 18 = .ok (.ldc2_w 241, 3) := by decide +kernel
theorem dX11_kindHere_21 : decode cX11_kindHere 21 = .ok (.lcmp, 1) := by decide +kernel
theorem dX11_kindHere_22 : decode cX11_kindHere 22 = .ok (.ifCond .ne 7, 3) := by decide +kernel
theorem dX11_kindHere_25 : decode cX11_kindHere 25 = .ok (.iconst 1, 1) := by decide +kernel
theorem dX11_kindHere_26 : decode cX11_kindHere 26 = .ok (.goto 52, 3) := by decide +kernel
theorem dX11_kindHere_29 : decode cX11_kindHere 29 = .ok (.lload_n 1, 1) := by decide +kernel
theorem dX11_kindHere_30 : decode cX11_kindHere 30 = .ok (.ldc2_w 243, 3) := by decide +kernel
theorem dX11_kindHere_33 : decode cX11_kindHere 33 = .ok (.lcmp, 1) := by decide +kernel
theorem dX11_kindHere_34 : decode cX11_kindHere 34 = .ok (.ifCond .ne 7, 3) := by decide +kernel
theorem dX11_kindHere_37 : decode cX11_kindHere 37 = .ok (.iconst 2, 1) := by decide +kernel
theorem dX11_kindHere_38 : decode cX11_kindHere 38 = .ok (.goto 40, 3) := by decide +kernel
theorem dX11_kindHere_41 : decode cX11_kindHere 41 = .ok (.lload_n 1, 1) := by decide +kernel
theorem dX11_kindHere_42 : decode cX11_kindHere 42 = .ok (.ldc2_w 245, 3) := by decide +kernel
theorem dX11_kindHere_45 : decode cX11_kindHere 45 = .ok (.lcmp, 1) := by decide +kernel
theorem dX11_kindHere_46 : decode cX11_kindHere 46 = .ok (.ifCond .ne 7, 3) := by decide +kernel
theorem dX11_kindHere_49 : decode cX11_kindHere 49 = .ok (.iconst 3, 1) := by decide +kernel
theorem dX11_kindHere_50 : decode cX11_kindHere 50 = .ok (.goto 28, 3) := by decide +kernel
theorem dX11_kindHere_53 : decode cX11_kindHere 53 = .ok (.lload_n 1, 1) := by decide +kernel
theorem dX11_kindHere_54 : decode cX11_kindHere 54 = .ok (.ldc2_w 247, 3) := by decide +kernel
theorem dX11_kindHere_57 : decode cX11_kindHere 57 = .ok (.lcmp, 1) := by decide +kernel
theorem dX11_kindHere_58 : decode cX11_kindHere 58 = .ok (.ifCond .ne 7, 3) := by decide +kernel
theorem dX11_kindHere_61 : decode cX11_kindHere 61 = .ok (.iconst 4, 1) := by decide +kernel
theorem dX11_kindHere_62 : decode cX11_kindHere 62 = .ok (.goto 16, 3) := by decide +kernel
theorem dX11_kindHere_65 : decode cX11_kindHere 65 = .ok (.lload_n 1, 1) := by decide +kernel
theorem dX11_kindHere_66 : decode cX11_kindHere 66 = .ok (.ldc2_w 249, 3) := by decide +kernel
theorem dX11_kindHere_69 : decode cX11_kindHere 69 = .ok (.lcmp, 1) := by decide +kernel
theorem dX11_kindHere_70 : decode cX11_kindHere 70 = .ok (.ifCond .ne 7, 3) := by decide +kernel
theorem dX11_kindHere_73 : decode cX11_kindHere 73 = .ok (.iconst 5, 1) := by decide +kernel
theorem dX11_kindHere_74 : decode cX11_kindHere 74 = .ok (.goto 4, 3) := by decide +kernel
theorem dX11_kindHere_77 : decode cX11_kindHere 77 = .ok (.iconst (-1), 1) := by decide +kernel
theorem dX11_kindHere_78 : decode cX11_kindHere 78 = .ok (.ireturn, 1) := by decide +kernel
theorem dX11_personItem_0 : decode cX11_personItem 0 = .ok (.aload_n 0, 1) := by decide +kernel
theorem dX11_personItem_1 : decode cX11_personItem 1 = .ok (.aload_n 0, 1) := by decide +kernel
theorem dX11_personItem_2 : decode cX11_personItem 2 = .ok (.getfield 7, 3) := by decide +kernel
theorem dX11_personItem_5 : decode cX11_personItem 5 = .ok (.iconst 1, 1) := by decide +kernel
theorem dX11_personItem_6 : decode cX11_personItem 6 = .ok (.iaload, 1) := by decide +kernel
theorem dX11_personItem_7 : decode cX11_personItem 7 = .ok (.bipush 8, 2) := by decide +kernel
theorem dX11_personItem_9 : decode cX11_personItem 9 = .ok (.if_icmp .ge 7, 3) := by decide +kernel
theorem dX11_personItem_12 : decode cX11_personItem 12 = .ok (.iconst 1, 1) := by decide +kernel
theorem dX11_personItem_13 : decode cX11_personItem 13 = .ok (.goto 4, 3) := by decide +kernel
theorem dX11_personItem_16 : decode cX11_personItem 16 = .ok (.iconst 0, 1) := by decide +kernel
theorem dX11_personItem_17 : decode cX11_personItem 17 = .ok (.invokevirtual 231, 3) := by decide +kernel
theorem dX11_personItem_20 : decode cX11_personItem 20 = .ok (.aload_n 0, 1) := by decide +kernel
theorem dX11_personItem_21 : decode cX11_personItem 21 = .ok (.iconst 0, 1) := by decide +kernel
theorem dX11_personItem_22 : decode cX11_personItem 22 = .ok (.bipush 11, 2) := by decide +kernel
theorem dX11_personItem_24 : decode cX11_personItem 24 = .ok (.invokevirtual 251, 3) := by decide +kernel
theorem dX11_personItem_27 : decode cX11_personItem 27 = .ok (.aload_n 0, 1) := by decide +kernel
theorem dX11_personItem_28 : decode cX11_personItem 28 = .ok (.getfield 217, 3) := by decide +kernel
theorem dX11_personItem_31 : decode cX11_personItem 31 = .ok (.ifCond .eq 4, 3) := by decide +kernel
theorem dX11_personItem_34 : decode cX11_personItem 34 = .ok (.return_, 1) := by decide +kernel
theorem dX11_personItem_35 : decode cX11_personItem 35 = .ok (.aload_n 0, 1) := by decide +kernel
theorem dX11_personItem_36 : decode cX11_personItem 36 = .ok (.iload_n 1, 1) := by decide +kernel
theorem dX11_personItem_37 : decode cX11_personItem 37 = .ok (.aload_n 0, 1) := by decide +kernel
theorem dX11_personItem_38 : decode cX11_personItem 38 = .ok (.getfield 228, 3) := by decide +kernel
theorem dX11_personItem_41 : decode cX11_personItem 41 = .ok (.invokevirtual 120, 3) := by decide +kernel
theorem dX11_personItem_44 : decode cX11_personItem 44 = .ok (.istore_n 2, 1) := by decide +kernel
theorem dX11_personItem_45 : decode cX11_personItem 45 = .ok (.aload_n 0, 1) := by decide +kernel
theorem dX11_personItem_46 : decode cX11_personItem 46 = .ok (.invokevirtual 235, 3) := by decide +kernel
theorem dX11_personItem_49 : decode cX11_personItem 49 = .ok (.ldc2_w 255, 3) := by decide +kernel
theorem dX11_personItem_52 : decode cX11_personItem 52 = .ok (.lcmp, 1) := by decide +kernel
theorem dX11_personItem_53 : decode cX11_personItem 53 = .ok (.ifCond .ne 28, 3) := by decide +kernel
theorem dX11_personItem_56 : decode cX11_personItem 56 = .ok (.aload_n 0, 1) := by decide +kernel
theorem dX11_personItem_57 : decode cX11_personItem 57 = .ok (.iconst 1, 1) := by decide +kernel
theorem dX11_personItem_58 : decode cX11_personItem 58 = .ok (.invokevirtual 231, 3) := by decide +kernel
theorem dX11_personItem_61 : decode cX11_personItem 61 = .ok (.aload_n 0, 1) := by decide +kernel
theorem dX11_personItem_62 : decode cX11_personItem 62 = .ok (.iconst 1, 1) := by decide +kernel
theorem dX11_personItem_63 : decode cX11_personItem 63 = .ok (.iconst 4, 1) := by decide +kernel
theorem dX11_personItem_64 : decode cX11_personItem 64 = .ok (.invokevirtual 251, 3) := by decide +kernel
theorem dX11_personItem_67 : decode cX11_personItem 67 = .ok (.aload_n 0, 1) := by decide +kernel
theorem dX11_personItem_68 : decode cX11_personItem 68 = .ok (.getfield 7, 3) := by decide +kernel
theorem dX11_personItem_71 : decode cX11_personItem 71 = .ok (.iload_n 2, 1) := by decide +kernel
theorem dX11_personItem_72 : decode cX11_personItem 72 = .ok (.iconst 2, 1) := by decide +kernel
theorem dX11_personItem_73 : decode cX11_personItem 73 = .ok (.invokestatic 45, 3) := by decide +kernel
theorem dX11_personItem_76 : decode cX11_personItem 76 = .ok (.aload_n 0, 1) := by decide +kernel
theorem dX11_personItem_77 : decode cX11_personItem 77 = .ok (.getfield 228, 3) := by decide +kernel
theorem dX11_personItem_80 : decode cX11_personItem 80 = .ok (.iastore, 1) := by decide +kernel
theorem dX11_personItem_81 : decode cX11_personItem 81 = .ok (.return_, 1) := by decide +kernel
theorem dX11_toldItem_0 : decode cX11_toldItem 0 = .ok (.aload_n 0, 1) := by decide +kernel
theorem dX11_toldItem_1 : decode cX11_toldItem 1 = .ok (.iconst 1, 1) := by decide +kernel
theorem dX11_toldItem_2 : decode cX11_toldItem 2 = .ok (.invokevirtual 231, 3) := by decide +kernel
theorem dX11_toldItem_5 : decode cX11_toldItem 5 = .ok (.aload_n 0, 1) := by decide +kernel
theorem dX11_toldItem_6 : decode cX11_toldItem 6 = .ok (.iconst 0, 1) := by decide +kernel
theorem dX11_toldItem_7 : decode cX11_toldItem 7 = .ok (.iload_n 2, 1) := by decide +kernel
theorem dX11_toldItem_8 : decode cX11_toldItem 8 = .ok (.iconst 1, 1) := by decide +kernel
theorem dX11_toldItem_9 : decode cX11_toldItem 9 = .ok (.isub, 1) := by decide +kernel
theorem dX11_toldItem_10 : decode cX11_toldItem 10 = .ok (.invokevirtual 251, 3) := by decide +kernel
theorem dX11_toldItem_13 : decode cX11_toldItem 13 = .ok (.aload_n 0, 1) := by decide +kernel
theorem dX11_toldItem_14 : decode cX11_toldItem 14 = .ok (.getfield 228, 3) := by decide +kernel
theorem dX11_toldItem_17 : decode cX11_toldItem 17 = .ok (.istore 4, 2) := by decide +kernel
theorem dX11_toldItem_19 : decode cX11_toldItem 19 = .ok (.aload_n 0, 1) := by decide +kernel
theorem dX11_toldItem_20 : decode cX11_toldItem 20 = .ok (.iconst 0, 1) := by decide +kernel
theorem dX11_toldItem_21 : decode cX11_toldItem 21 = .ok (.iload_n 3, 1) := by decide +kernel
theorem dX11_toldItem_22 : decode cX11_toldItem 22 = .ok (.invokevirtual 251, 3) := by decide +kernel
theorem dX11_toldItem_25 : decode cX11_toldItem 25 = .ok (.aload_n 0, 1) := by decide +kernel
theorem dX11_toldItem_26 : decode cX11_toldItem 26 = .ok (.getfield 217, 3) := by decide +kernel
theorem dX11_toldItem_29 : decode cX11_toldItem 29 = .ok (.ifCond .ne 16, 3) := by decide +kernel
theorem dX11_toldItem_32 : decode cX11_toldItem 32 = .ok (.aload_n 0, 1) := by decide +kernel
theorem dX11_toldItem_33 : decode cX11_toldItem 33 = .ok (.getfield 7, 3) := by decide +kernel
theorem dX11_toldItem_36 : decode cX11_toldItem 36 = .ok (.iload_n 1, 1) := by decide +kernel
theorem dX11_toldItem_37 : decode cX11_toldItem 37 = .ok (.iload 4, 2) := by decide +kernel
theorem dX11_toldItem_39 : decode cX11_toldItem 39 = .ok (.iadd, 1) := by decide +kernel
theorem dX11_toldItem_40 : decode cX11_toldItem 40 = .ok (.aload_n 0, 1) := by decide +kernel
theorem dX11_toldItem_41 : decode cX11_toldItem 41 = .ok (.getfield 228, 3) := by decide +kernel
theorem dX11_toldItem_44 : decode cX11_toldItem 44 = .ok (.iastore, 1) := by decide +kernel
theorem dX11_toldItem_45 : decode cX11_toldItem 45 = .ok (.return_, 1) := by decide +kernel
theorem dX11_item_0 : decode cX11_item 0 = .ok (.aload_n 0, 1) := by decide +kernel
theorem dX11_item_1 : decode cX11_item 1 = .ok (.invokevirtual 257, 3) := by decide +kernel
theorem dX11_item_4 : decode cX11_item 4 = .ok (.istore_n 1, 1) := by decide +kernel
theorem dX11_item_5 : decode cX11_item 5 = .ok (.aload_n 0, 1) := by decide +kernel
theorem dX11_item_6 : decode cX11_item 6 = .ok (.invokevirtual 235, 3) := by decide +kernel
theorem dX11_item_9 : decode cX11_item 9 = .ok (.lstore_n 2, 1) := by decide +kernel
theorem dX11_item_10 : decode cX11_item 10 = .ok (.iload_n 1, 1) := by decide +kernel
theorem dX11_item_11 : decode cX11_item 11 = .ok (.ifCond .lt 11, 3) := by decide +kernel
theorem dX11_item_14 : decode cX11_item 14 = .ok (.aload_n 0, 1) := by decide +kernel
theorem dX11_item_15 : decode cX11_item 15 = .ok (.iload_n 1, 1) := by decide +kernel
theorem dX11_item_16 : decode cX11_item 16 = .ok (.invokevirtual 260, 3) := by decide +kernel
theorem dX11_item_19 : decode cX11_item 19 = .ok (.goto 48, 3) := by decide +kernel
theorem dX11_item_22 : decode cX11_item 22 = .ok (.lload_n 2, 1) := by decide +kernel
theorem dX11_item_23 : decode cX11_item 23 = .ok (.ldc2_w 263, 3) := by decide +kernel
theorem dX11_item_26 : decode cX11_item 26 = .ok (.lcmp, 1) := by decide +kernel
theorem dX11_item_27 : decode cX11_item 27 = .ok (.ifCond .ne 15, 3) := by decide +kernel
theorem dX11_item_30 : decode cX11_item 30 = .ok (.aload_n 0, 1) := by decide +kernel
theorem dX11_item_31 : decode cX11_item 31 = .ok (.iconst 2, 1) := by decide +kernel
theorem dX11_item_32 : decode cX11_item 32 = .ok (.bipush 6, 2) := by decide +kernel
theorem dX11_item_34 : decode cX11_item 34 = .ok (.bipush 11, 2) := by decide +kernel
theorem dX11_item_36 : decode cX11_item 36 = .ok (.invokevirtual 265, 3) := by decide +kernel
theorem dX11_item_39 : decode cX11_item 39 = .ok (.goto 28, 3) := by decide +kernel
theorem dX11_item_42 : decode cX11_item 42 = .ok (.lload_n 2, 1) := by decide +kernel
theorem dX11_item_43 : decode cX11_item 43 = .ok (.ldc2_w 269, 3) := by decide +kernel
theorem dX11_item_46 : decode cX11_item 46 = .ok (.lcmp, 1) := by decide +kernel
theorem dX11_item_47 : decode cX11_item 47 = .ok (.ifCond .ne 15, 3) := by decide +kernel
theorem dX11_item_50 : decode cX11_item 50 = .ok (.aload_n 0, 1) := by decide +kernel
theorem dX11_item_51 : decode cX11_item 51 = .ok (.bipush 8, 2) := by decide +kernel
theorem dX11_item_53 : decode cX11_item 53 = .ok (.iconst 3, 1) := by decide +kernel
theorem dX11_item_54 : decode cX11_item 54 = .ok (.bipush 47, 2) := by decide +kernel
theorem dX11_item_56 : decode cX11_item 56 = .ok (.invokevirtual 265, 3) := by decide +kernel
theorem dX11_item_59 : decode cX11_item 59 = .ok (.goto 8, 3) := by decide +kernel
theorem dX11_item_62 : decode cX11_item 62 = .ok (.aload_n 0, 1) := by decide +kernel
theorem dX11_item_63 : decode cX11_item 63 = .ok (.iconst 0, 1) := by decide +kernel
theorem dX11_item_64 : decode cX11_item 64 = .ok (.invokevirtual 231, 3) := by decide +kernel
theorem dX11_item_67 : decode cX11_item 67 = .ok (.return_, 1) := by decide +kernel
theorem dX11_interval_0 : decode cX11_interval 0 = .ok (.aload_n 0, 1) := by decide +kernel
theorem dX11_interval_1 : decode cX11_interval 1 = .ok (.invokevirtual 271, 3) := by decide +kernel
theorem dX11_interval_4 : decode cX11_interval 4 = .ok (.aload_n 0, 1) := by decide +kernel
theorem dX11_interval_5 : decode cX11_interval 5 = .ok (.iconst 0, 1) := by decide +kernel
theorem dX11_interval_6 : decode cX11_interval 6 = .ok (.putfield 217, 3) := by decide +kernel
theorem dX11_interval_9 : decode cX11_interval 9 = .ok (.aload_n 0, 1) := by decide +kernel
theorem dX11_interval_10 : decode cX11_interval 10 = .ok (.iconst 0, 1) := by decide +kernel
theorem dX11_interval_11 : decode cX11_interval 11 = .ok (.putfield 202, 3) := by decide +kernel
theorem dX11_interval_14 : decode cX11_interval 14 = .ok (.aload_n 0, 1) := by decide +kernel
theorem dX11_interval_15 : decode cX11_interval 15 = .ok (.invokevirtual 221, 3) := by decide +kernel
theorem dX11_interval_18 : decode cX11_interval 18 = .ok (.iconst 1, 1) := by decide +kernel
theorem dX11_interval_19 : decode cX11_interval 19 = .ok (.istore_n 1, 1) := by decide +kernel
theorem dX11_interval_20 : decode cX11_interval 20 = .ok (.aload_n 0, 1) := by decide +kernel
theorem dX11_interval_21 : decode cX11_interval 21 = .ok (.invokevirtual 274, 3) := by decide +kernel
theorem dX11_interval_24 : decode cX11_interval 24 = .ok (.aload_n 0, 1) := by decide +kernel
theorem dX11_interval_25 : decode cX11_interval 25 = .ok (.getfield 217, 3) := by decide +kernel
theorem dX11_interval_28 : decode cX11_interval 28 = .ok (.ifCond .ne 31, 3) := by decide +kernel
theorem dX11_interval_31 : decode cX11_interval 31 = .ok (.aload_n 0, 1) := by decide +kernel
theorem dX11_interval_32 : decode cX11_interval 32 = .ok (.aload_n 0, 1) := by decide +kernel
theorem dX11_interval_33 : decode cX11_interval 33 = .ok (.getfield 205, 3) := by decide +kernel
theorem dX11_interval_36 : decode cX11_interval 36 = .ok (.invokevirtual 208, 3) := by decide +kernel
theorem dX11_interval_39 : decode cX11_interval 39 = .ok (.bipush 59, 2) := by decide +kernel
theorem dX11_interval_41 : decode cX11_interval 41 = .ok (.if_icmp .ne 18, 3) := by decide +kernel
theorem dX11_interval_44 : decode cX11_interval 44 = .ok (.aload_n 0, 1) := by decide +kernel
theorem dX11_interval_45 : decode cX11_interval 45 = .ok (.iconst 1, 1) := by decide +kernel
theorem dX11_interval_46 : decode cX11_interval 46 = .ok (.invokevirtual 231, 3) := by decide +kernel
theorem dX11_interval_49 : decode cX11_interval 49 = .ok (.aload_n 0, 1) := by decide +kernel
theorem dX11_interval_50 : decode cX11_interval 50 = .ok (.invokevirtual 274, 3) := by decide +kernel
theorem dX11_interval_53 : decode cX11_interval 53 = .ok (.iinc 1 1, 3) := by decide +kernel
theorem dX11_interval_56 : decode cX11_interval 56 = .ok (.goto (-32), 3) := by decide +kernel
theorem dX11_interval_59 : decode cX11_interval 59 = .ok (.aload_n 0, 1) := by decide +kernel
theorem dX11_interval_60 : decode cX11_interval 60 = .ok (.aload_n 0, 1) := by decide +kernel
theorem dX11_interval_61 : decode cX11_interval 61 = .ok (.getfield 217, 3) := by decide +kernel
theorem dX11_interval_64 : decode cX11_interval 64 = .ok (.ifCond .ne 14, 3) := by decide +kernel
theorem dX11_interval_67 : decode cX11_interval 67 = .ok (.aload_n 0, 1) := by decide +kernel
theorem dX11_interval_68 : decode cX11_interval 68 = .ok (.getfield 205, 3) := by decide +kernel
theorem dX11_interval_71 : decode cX11_interval 71 = .ok (.aload_n 0, 1) := by decide +kernel
theorem dX11_interval_72 : decode cX11_interval 72 = .ok (.getfield 191, 3) := by decide +kernel
theorem dX11_interval_75 : decode cX11_interval 75 = .ok (.if_icmp .ge 7, 3) := by decide +kernel
theorem dX11_interval_78 : decode cX11_interval 78 = .ok (.iconst 1, 1) := by decide +kernel
theorem dX11_interval_79 : decode cX11_interval 79 = .ok (.goto 4, 3) := by decide +kernel
theorem dX11_interval_82 : decode cX11_interval 82 = .ok (.iconst 0, 1) := by decide +kernel
theorem dX11_interval_83 : decode cX11_interval 83 = .ok (.putfield 217, 3) := by decide +kernel
theorem dX11_interval_86 : decode cX11_interval 86 = .ok (.aload_n 0, 1) := by decide +kernel
theorem dX11_interval_87 : decode cX11_interval 87 = .ok (.getfield 217, 3) := by decide +kernel
theorem dX11_interval_90 : decode cX11_interval 90 = .ok (.ifCond .eq 7, 3) := by decide +kernel
theorem dX11_interval_93 : decode cX11_interval 93 = .ok (.aload_n 0, 1) := by decide +kernel
theorem dX11_interval_94 : decode cX11_interval 94 = .ok (.invokevirtual 277, 3) := by decide +kernel
theorem dX11_interval_97 : decode cX11_interval 97 = .ok (.aload_n 0, 1) := by decide +kernel
theorem dX11_interval_98 : decode cX11_interval 98 = .ok (.iconst 0, 1) := by decide +kernel
theorem dX11_interval_99 : decode cX11_interval 99 = .ok (.putfield 191, 3) := by decide +kernel
theorem dX11_interval_102 : decode cX11_interval 102 = .ok (.aload_n 0, 1) := by decide +kernel
theorem dX11_interval_103 : decode cX11_interval 103 = .ok (.getfield 217, 3) := by decide +kernel
theorem dX11_interval_106 : decode cX11_interval 106 = .ok (.ifCond .eq 12, 3) := by decide +kernel
theorem dX11_interval_109 : decode cX11_interval 109 = .ok (.iconst (-1), 1) := by decide +kernel
theorem dX11_interval_110 : decode cX11_interval 110 = .ok (.aload_n 0, 1) := by decide +kernel
theorem dX11_interval_111 : decode cX11_interval 111 = .ok (.getfield 205, 3) := by decide +kernel
theorem dX11_interval_114 : decode cX11_interval 114 = .ok (.isub, 1) := by decide +kernel
theorem dX11_interval_115 : decode cX11_interval 115 = .ok (.goto 4, 3) := by decide +kernel
theorem dX11_interval_118 : decode cX11_interval 118 = .ok (.iload_n 1, 1) := by decide +kernel
theorem dX11_interval_119 : decode cX11_interval 119 = .ok (.ireturn, 1) := by decide +kernel
theorem dX11_isOne_0 : decode cX11_isOne 0 = .ok (.iload_n 0, 1) := by decide +kernel
theorem dX11_isOne_1 : decode cX11_isOne 1 = .ok (.i2l, 1) := by decide +kernel
theorem dX11_isOne_2 : decode cX11_isOne 2 = .ok (.lconst 0, 1) := by decide +kernel
theorem dX11_isOne_3 : decode cX11_isOne 3 = .ok (.ldc2_w 280, 3) := by decide +kernel
theorem dX11_isOne_6 : decode cX11_isOne 6 = .ok (.invokestatic 49, 3) := by decide +kernel
theorem dX11_isOne_9 : decode cX11_isOne 9 = .ok (.ireturn, 1) := by decide +kernel
theorem dX11_sheet_0 : decode cX11_sheet 0 = .ok (.iload_n 1, 1) := by decide +kernel
theorem dX11_sheet_1 : decode cX11_sheet 1 = .ok (.invokestatic 282, 3) := by decide +kernel
theorem dX11_sheet_4 : decode cX11_sheet 4 = .ok (.ifCond .eq 25, 3) := by decide +kernel
theorem dX11_sheet_7 : decode cX11_sheet 7 = .ok (.iload_n 2, 1) := by decide +kernel
theorem dX11_sheet_8 : decode cX11_sheet 8 = .ok (.ifCond .eq 28, 3) := by decide +kernel
theorem dX11_sheet_11 : decode cX11_sheet 11 = .ok (.iload_n 2, 1) := by decide +kernel
theorem dX11_sheet_12 : decode cX11_sheet 12 = .ok (.bipush 8, 2) := by decide +kernel
theorem dX11_sheet_14 : decode cX11_sheet 14 = .ok (.if_icmp .eq 22, 3) := by decide +kernel
theorem dX11_sheet_17 : decode cX11_sheet 17 = .ok (.iload_n 2, 1) := by decide +kernel
theorem dX11_sheet_18 : decode cX11_sheet 18 = .ok (.bipush 16, 2) := by decide +kernel
theorem dX11_sheet_20 : decode cX11_sheet 20 = .ok (.if_icmp .eq 16, 3) := by decide +kernel
theorem dX11_sheet_23 : decode cX11_sheet 23 = .ok (.iload_n 2, 1) := by decide +kernel
theorem dX11_sheet_24 : decode cX11_sheet 24 = .ok (.bipush 64, 2) := by decide +kernel
theorem dX11_sheet_26 : decode cX11_sheet 26 = .ok (.if_icmp .eq 10, 3) := by decide +kernel
theorem dX11_sheet_29 : decode cX11_sheet 29 = .ok (.aload_n 0, 1) := by decide +kernel
theorem dX11_sheet_30 : decode cX11_sheet 30 = .ok (.ldc 44, 2) := by decide +kernel
theorem dX11_sheet_32 : decode cX11_sheet 32 = .ok (.invokevirtual 76, 3) := by decide +kernel
theorem dX11_sheet_35 : decode cX11_sheet 35 = .ok (.ireturn, 1) := by decide +kernel
theorem dX11_sheet_36 : decode cX11_sheet 36 = .ok (.iload_n 3, 1) := by decide +kernel
theorem dX11_sheet_37 : decode cX11_sheet 37 = .ok (.ifCond .ge 11, 3) := by decide +kernel
theorem dX11_sheet_40 : decode cX11_sheet 40 = .ok (.aload_n 0, 1) := by decide +kernel
theorem dX11_sheet_41 : decode cX11_sheet 41 = .ok (.ldc_w 285, 3) := by decide +kernel
theorem dX11_sheet_44 : decode cX11_sheet 44 = .ok (.invokevirtual 76, 3) := by decide +kernel
theorem dX11_sheet_47 : decode cX11_sheet 47 = .ok (.ireturn, 1) := by decide +kernel
theorem dX11_sheet_48 : decode cX11_sheet 48 = .ok (.iload_n 3, 1) := by decide +kernel
theorem dX11_sheet_49 : decode cX11_sheet 49 = .ok (.bipush 40, 2) := by decide +kernel
theorem dX11_sheet_51 : decode cX11_sheet 51 = .ok (.if_icmp .le 10, 3) := by decide +kernel
theorem dX11_sheet_54 : decode cX11_sheet 54 = .ok (.aload_n 0, 1) := by decide +kernel
theorem dX11_sheet_55 : decode cX11_sheet 55 = .ok (.ldc 44, 2) := by decide +kernel
theorem dX11_sheet_57 : decode cX11_sheet 57 = .ok (.invokevirtual 76, 3) := by decide +kernel
theorem dX11_sheet_60 : decode cX11_sheet 60 = .ok (.ireturn, 1) := by decide +kernel
theorem dX11_sheet_61 : decode cX11_sheet 61 = .ok (.aload_n 0, 1) := by decide +kernel
theorem dX11_sheet_62 : decode cX11_sheet 62 = .ok (.getfield 31, 3) := by decide +kernel
theorem dX11_sheet_65 : decode cX11_sheet 65 = .ok (.iload_n 1, 1) := by decide +kernel
theorem dX11_sheet_66 : decode cX11_sheet 66 = .ok (.iload_n 2, 1) := by decide +kernel
theorem dX11_sheet_67 : decode cX11_sheet 67 = .ok (.iastore, 1) := by decide +kernel
theorem dX11_sheet_68 : decode cX11_sheet 68 = .ok (.aload_n 0, 1) := by decide +kernel
theorem dX11_sheet_69 : decode cX11_sheet 69 = .ok (.getfield 34, 3) := by decide +kernel
theorem dX11_sheet_72 : decode cX11_sheet 72 = .ok (.iload_n 1, 1) := by decide +kernel
theorem dX11_sheet_73 : decode cX11_sheet 73 = .ok (.iload_n 2, 1) := by decide +kernel
theorem dX11_sheet_74 : decode cX11_sheet 74 = .ok (.ifCond .ne 7, 3) := by decide +kernel
theorem dX11_sheet_77 : decode cX11_sheet 77 = .ok (.iconst 0, 1) := by decide +kernel
theorem dX11_sheet_78 : decode cX11_sheet 78 = .ok (.goto 4, 3) := by decide +kernel
theorem dX11_sheet_81 : decode cX11_sheet 81 = .ok (.iload_n 3, 1) := by decide +kernel
theorem dX11_sheet_82 : decode cX11_sheet 82 = .ok (.iastore, 1) := by decide +kernel
theorem dX11_sheet_83 : decode cX11_sheet 83 = .ok (.iconst 0, 1) := by decide +kernel
theorem dX11_sheet_84 : decode cX11_sheet 84 = .ok (.istore 4, 2) := by decide +kernel
theorem dX11_sheet_86 : decode cX11_sheet 86 = .ok (.iload 4, 2) := by decide +kernel
theorem dX11_sheet_88 : decode cX11_sheet 88 = .ok (.bipush 40, 2) := by decide +kernel
theorem dX11_sheet_90 : decode cX11_sheet 90 = .ok (.if_icmp .ge 22, 3) := by decide +kernel
theorem dX11_sheet_93 : decode cX11_sheet 93 = .ok (.aload_n 0, 1) := by decide +kernel
theorem dX11_sheet_94 : decode cX11_sheet 94 = .ok (.getfield 37, 3) := by decide +kernel
theorem dX11_sheet_97 : decode cX11_sheet 97 = .ok (.bipush 40, 2) := by decide +kernel
theorem dX11_sheet_99 : decode cX11_sheet 99 = .ok (.iload_n 1, 1) := by decide +kernel
theorem dX11_sheet_100 : decode cX11_sheet 100 = .ok (.imul, 1) := by decide +kernel
theorem dX11_sheet_101 : decode cX11_sheet 101 = .ok (.iload 4, 2) := by decide +kernel
theorem dX11_sheet_103 : decode cX11_sheet 103 = .ok (.iadd, 1) := by decide +kernel
theorem dX11_sheet_104 : decode cX11_sheet 104 = .ok (.lconst 0, 1) := by decide +kernel
theorem dX11_sheet_105 : decode cX11_sheet 105 = .ok (.lastore, 1) := by decide +kernel
theorem dX11_sheet_106 : decode cX11_sheet 106 = .ok (.iinc 4 1, 3) := by decide +kernel
theorem dX11_sheet_109 : decode cX11_sheet 109 = .ok (.goto (-23), 3) := by decide +kernel
theorem dX11_sheet_112 : decode cX11_sheet 112 = .ok (.aload_n 0, 1) := by decide +kernel
theorem dX11_sheet_113 : decode cX11_sheet 113 = .ok (.getfield 34, 3) := by decide +kernel
theorem dX11_sheet_116 : decode cX11_sheet 116 = .ok (.iload_n 1, 1) := by decide +kernel
theorem dX11_sheet_117 : decode cX11_sheet 117 = .ok (.iaload, 1) := by decide +kernel
theorem dX11_sheet_118 : decode cX11_sheet 118 = .ok (.ireturn, 1) := by decide +kernel
theorem dX11_narrowed_0 : decode cX11_narrowed 0 = .ok (.iload_n 0, 1) := by decide +kernel
theorem dX11_narrowed_1 : decode cX11_narrowed 1 = .ok (.bipush 8, 2) := by decide +kernel
theorem dX11_narrowed_3 : decode cX11_narrowed 3 = .ok (.if_icmp .ne 10, 3) := by decide +kernel
theorem dX11_narrowed_6 : decode cX11_narrowed 6 = .ok (.lload_n 1, 1) := by decide +kernel
theorem dX11_narrowed_7 : decode cX11_narrowed 7 = .ok (.l2i, 1) := by decide +kernel
theorem dX11_narrowed_8 : decode cX11_narrowed 8 = .ok (.i2b, 1) := by decide +kernel
theorem dX11_narrowed_9 : decode cX11_narrowed 9 = .ok (.i2l, 1) := by decide +kernel
theorem dX11_narrowed_10 : decode cX11_narrowed 10 = .ok (.goto 17, 3) := by decide +kernel
theorem dX11_narrowed_13 : decode cX11_narrowed 13 = .ok (.iload_n 0, 1) := by decide +kernel
theorem dX11_narrowed_14 : decode cX11_narrowed 14 = .ok (.bipush 16, 2) := by decide +kernel
theorem dX11_narrowed_16 : decode cX11_narrowed 16 = .ok (.if_icmp .ne 10, 3) := by decide +kernel
theorem dX11_narrowed_19 : decode cX11_narrowed 19 = .ok (.lload_n 1, 1) := by decide +kernel
theorem dX11_narrowed_20 : decode cX11_narrowed 20 = .ok (.l2i, 1) := by decide +kernel
theorem dX11_narrowed_21 : decode cX11_narrowed 21 = .ok (.i2s, 1) := by decide +kernel
theorem dX11_narrowed_22 : decode cX11_narrowed 22 = .ok (.i2l, 1) := by decide +kernel
theorem dX11_narrowed_23 : decode cX11_narrowed 23 = .ok (.goto 4, 3) := by decide +kernel
theorem dX11_narrowed_26 : decode cX11_narrowed 26 = .ok (.lload_n 1, 1) := by decide +kernel
theorem dX11_narrowed_27 : decode cX11_narrowed 27 = .ok (.lreturn, 1) := by decide +kernel
theorem dX11_wrongSheet_0 : decode cX11_wrongSheet 0 = .ok (.iload_n 1, 1) := by decide +kernel
theorem dX11_wrongSheet_1 : decode cX11_wrongSheet 1 = .ok (.invokestatic 282, 3) := by decide +kernel
theorem dX11_wrongSheet_4 : decode cX11_wrongSheet 4 = .ok (.ifCond .ne 8, 3) := by decide +kernel
theorem dX11_wrongSheet_7 : decode cX11_wrongSheet 7 = .ok (.ldc 44, 2) := by decide +kernel
theorem dX11_wrongSheet_9 : decode cX11_wrongSheet 9 = .ok (.goto 19, 3) := by decide +kernel
theorem dX11_wrongSheet_12 : decode cX11_wrongSheet 12 = .ok (.aload_n 0, 1) := by decide +kernel
theorem dX11_wrongSheet_13 : decode cX11_wrongSheet 13 = .ok (.getfield 31, 3) := by decide +kernel
theorem dX11_wrongSheet_16 : decode cX11_wrongSheet 16 = .ok (.iload_n 1, 1) := by decide +kernel
theorem dX11_wrongSheet_17 : decode cX11_wrongSheet 17 = .ok (.iaload, 1) := by decide +kernel
theorem dX11_wrongSheet_18 : decode cX11_wrongSheet 18 = .ok (.ifCond .ne 9, 3) := by decide +kernel
theorem dX11_wrongSheet_21 : decode cX11_wrongSheet 21 = .ok (.ldc_w 286, 3) := by decide +kernel
theorem dX11_wrongSheet_24 : decode cX11_wrongSheet 24 = .ok (.goto 4, 3) := by decide +kernel
theorem dX11_wrongSheet_27 : decode cX11_wrongSheet 27 = .ok (.iconst 0, 1) := by decide +kernel
theorem dX11_wrongSheet_28 : decode cX11_wrongSheet 28 = .ok (.ireturn, 1) := by decide +kernel
theorem dX11_write_0 : decode cX11_write 0 = .ok (.aload_n 0, 1) := by decide +kernel
theorem dX11_write_1 : decode cX11_write 1 = .ok (.iload_n 1, 1) := by decide +kernel
theorem dX11_write_2 : decode cX11_write 2 = .ok (.invokevirtual 287, 3) := by decide +kernel
theorem dX11_write_5 : decode cX11_write 5 = .ok (.istore 5, 2) := by decide +kernel
theorem dX11_write_7 : decode cX11_write 7 = .ok (.iload 5, 2) := by decide +kernel
theorem dX11_write_9 : decode cX11_write 9 = .ok (.ifCond .eq 11, 3) := by decide +kernel
theorem dX11_write_12 : decode cX11_write 12 = .ok (.aload_n 0, 1) := by decide +kernel
theorem dX11_write_13 : decode cX11_write 13 = .ok (.iload 5, 2) := by decide +kernel
theorem dX11_write_15 : decode cX11_write 15 = .ok (.invokevirtual 76, 3) := by decide +kernel
theorem dX11_write_18 : decode cX11_write 18 = .ok (.i2l, 1) := by decide +kernel
theorem dX11_write_19 : decode cX11_write 19 = .ok (.lreturn, 1) := by decide +kernel
theorem dX11_write_20 : decode cX11_write 20 = .ok (.iload_n 2, 1) := by decide +kernel
theorem dX11_write_21 : decode cX11_write 21 = .ok (.i2l, 1) := by decide +kernel
theorem dX11_write_22 : decode cX11_write 22 = .ok (.lconst 0, 1) := by decide +kernel
theorem dX11_write_23 : decode cX11_write 23 = .ok (.aload_n 0, 1) := by decide +kernel
theorem dX11_write_24 : decode cX11_write 24 = .ok (.getfield 34, 3) := by decide +kernel
theorem dX11_write_27 : decode cX11_write 27 = .ok (.iload_n 1, 1) := by decide +kernel
theorem dX11_write_28 : decode cX11_write 28 = .ok (.iaload, 1) := by decide +kernel
theorem dX11_write_29 : decode cX11_write 29 = .ok (.iconst 1, 1) := by decide +kernel
theorem dX11_write_30 : decode cX11_write 30 = .ok (.isub, 1) := by decide +kernel
theorem dX11_write_31 : decode cX11_write 31 = .ok (.i2l, 1) := by decide +kernel
theorem dX11_write_32 : decode cX11_write 32 = .ok (.invokestatic 49, 3) := by decide +kernel
theorem dX11_write_35 : decode cX11_write 35 = .ok (.ifCond .ne 11, 3) := by decide +kernel
theorem dX11_write_38 : decode cX11_write 38 = .ok (.aload_n 0, 1) := by decide +kernel
theorem dX11_write_39 : decode cX11_write 39 = .ok (.ldc 44, 2) := by decide +kernel
theorem dX11_write_41 : decode cX11_write 41 = .ok (.invokevirtual 76, 3) := by decide +kernel
theorem dX11_write_44 : decode cX11_write 44 = .ok (.i2l, 1) := by decide +kernel
theorem dX11_write_45 : decode cX11_write 45 = .ok (.lreturn, 1) := by decide +kernel
theorem dX11_write_46 : decode cX11_write 46 = .ok (.aload_n 0, 1) := by decide +kernel
theorem dX11_write_47 : decode cX11_write 47 = .ok (.getfield 37, 3) := by decide +kernel
theorem dX11_write_50 : decode cX11_write 50 = .ok (.bipush 40, 2) := by decide +kernel
theorem dX11_write_52 : decode cX11_write 52 = .ok (.iload_n 1, 1) := by decide +kernel
theorem dX11_write_53 : decode cX11_write 53 = .ok (.imul, 1) := by decide +kernel
theorem dX11_write_54 : decode cX11_write 54 = .ok (.iload_n 2, 1) := by decide +kernel
theorem dX11_write_55 : decode cX11_write 55 = .ok (.iadd, 1) := by decide +kernel
theorem dX11_write_56 : decode cX11_write 56 = .ok (.laload, 1) := by decide +kernel
theorem dX11_write_57 : decode cX11_write 57 = .ok (.lstore 6, 2) := by decide +kernel
theorem dX11_write_59 : decode cX11_write 59 = .ok (.aload_n 0, 1) := by decide +kernel
theorem dX11_write_60 : decode cX11_write 60 = .ok (.getfield 37, 3) := by decide +kernel
theorem dX11_write_63 : decode cX11_write 63 = .ok (.bipush 40, 2) := by decide +kernel
theorem dX11_write_65 : decode cX11_write 65 = .ok (.iload_n 1, 1) := by decide +kernel
theorem dX11_write_66 : decode cX11_write 66 = .ok (.imul, 1) := by decide +kernel
theorem dX11_write_67 : decode cX11_write 67 = .ok (.iload_n 2, 1) := by decide +kernel
theorem dX11_write_68 : decode cX11_write 68 = .ok (.iadd, 1) := by decide +kernel
theorem dX11_write_69 : decode cX11_write 69 = .ok (.aload_n 0, 1) := by decide +kernel
theorem dX11_write_70 : decode cX11_write 70 = .ok (.getfield 31, 3) := by decide +kernel
theorem dX11_write_73 : decode cX11_write 73 = .ok (.iload_n 1, 1) := by decide +kernel
theorem dX11_write_74 : decode cX11_write 74 = .ok (.iaload, 1) := by decide +kernel
theorem dX11_write_75 : decode cX11_write 75 = .ok (.lload_n 3, 1) := by decide +kernel
theorem dX11_write_76 : decode cX11_write 76 = .ok (.invokestatic 290, 3) := by decide +kernel
theorem dX11_write_79 : decode cX11_write 79 = .ok (.lastore, 1) := by decide +kernel
theorem dX11_write_80 : decode cX11_write 80 = .ok (.lload 6, 2) := by decide +kernel
theorem dX11_write_82 : decode cX11_write 82 = .ok (.lreturn, 1) := by decide +kernel
theorem dX11_copy_0 : decode cX11_copy 0 = .ok (.iload_n 1, 1) := by decide +kernel
theorem dX11_copy_1 : decode cX11_copy 1 = .ok (.invokestatic 282, 3) := by decide +kernel
theorem dX11_copy_4 : decode cX11_copy 4 = .ok (.ifCond .eq 10, 3) := by decide +kernel
theorem dX11_copy_7 : decode cX11_copy 7 = .ok (.iload_n 3, 1) := by decide +kernel
theorem dX11_copy_8 : decode cX11_copy 8 = .ok (.invokestatic 282, 3) := by decide +kernel
theorem dX11_copy_11 : decode cX11_copy 11 = .ok (.ifCond .ne 10, 3) := by decide +kernel
theorem dX11_copy_14 : decode cX11_copy 14 = .ok (.aload_n 0, 1) := by decide +kernel
theorem dX11_copy_15 : decode cX11_copy 15 = .ok (.ldc 44, 2) := by decide +kernel
theorem dX11_copy_17 : decode cX11_copy 17 = .ok (.invokevirtual 76, 3) := by decide +kernel
theorem dX11_copy_20 : decode cX11_copy 20 = .ok (.ireturn, 1) := by decide +kernel
theorem dX11_copy_21 : decode cX11_copy 21 = .ok (.aload_n 0, 1) := by decide +kernel
theorem dX11_copy_22 : decode cX11_copy 22 = .ok (.getfield 31, 3) := by decide +kernel
theorem dX11_copy_25 : decode cX11_copy 25 = .ok (.iload_n 1, 1) := by decide +kernel
theorem dX11_copy_26 : decode cX11_copy 26 = .ok (.iaload, 1) := by decide +kernel
theorem dX11_copy_27 : decode cX11_copy 27 = .ok (.ifCond .eq 12, 3) := by decide +kernel
theorem dX11_copy_30 : decode cX11_copy 30 = .ok (.aload_n 0, 1) := by decide +kernel
theorem dX11_copy_31 : decode cX11_copy 31 = .ok (.getfield 31, 3) := by decide +kernel
theorem dX11_copy_34 : decode cX11_copy 34 = .ok (.iload_n 3, 1) := by decide +kernel
theorem dX11_copy_35 : decode cX11_copy 35 = .ok (.iaload, 1) := by decide +kernel
theorem dX11_copy_36 : decode cX11_copy 36 = .ok (.ifCond .ne 11, 3) := by decide +kernel
theorem dX11_copy_39 : decode cX11_copy 39 = .ok (.aload_n 0, 1) := by decide +kernel
theorem dX11_copy_40 : decode cX11_copy 40 = .ok (.ldc_w 286, 3) := by decide +kernel
theorem dX11_copy_43 : decode cX11_copy 43 = .ok (.invokevirtual 76, 3) := by decide +kernel
theorem dX11_copy_46 : decode cX11_copy 46 = .ok (.ireturn, 1) := by decide +kernel
theorem dX11_copy_47 : decode cX11_copy 47 = .ok (.aload_n 0, 1) := by decide +kernel
theorem dX11_copy_48 : decode cX11_copy 48 = .ok (.getfield 31, 3) := by decide +kernel
theorem dX11_copy_51 : decode cX11_copy 51 = .ok (.iload_n 1, 1) := by decide +kernel
theorem dX11_copy_52 : decode cX11_copy 52 = .ok (.iaload, 1) := by decide +kernel
theorem dX11_copy_53 : decode cX11_copy 53 = .ok (.aload_n 0, 1) := by decide +kernel
theorem dX11_copy_54 : decode cX11_copy 54 = .ok (.getfield 31, 3) := by decide +kernel
theorem dX11_copy_57 : decode cX11_copy 57 = .ok (.iload_n 3, 1) := by decide +kernel
theorem dX11_copy_58 : decode cX11_copy 58 = .ok (.iaload, 1) := by decide +kernel
theorem dX11_copy_59 : decode cX11_copy 59 = .ok (.if_icmp .eq 10, 3) := by decide +kernel
theorem dX11_copy_62 : decode cX11_copy 62 = .ok (.aload_n 0, 1) := by decide +kernel
theorem dX11_copy_63 : decode cX11_copy 63 = .ok (.ldc 142, 2) := by decide +kernel
theorem dX11_copy_65 : decode cX11_copy 65 = .ok (.invokevirtual 76, 3) := by decide +kernel
theorem dX11_copy_68 : decode cX11_copy 68 = .ok (.ireturn, 1) := by decide +kernel
theorem dX11_copy_69 : decode cX11_copy 69 = .ok (.iload_n 2, 1) := by decide +kernel
theorem dX11_copy_70 : decode cX11_copy 70 = .ok (.ifCond .lt 40, 3) := by decide +kernel
theorem dX11_copy_73 : decode cX11_copy 73 = .ok (.iload 4, 2) := by decide +kernel
theorem dX11_copy_75 : decode cX11_copy 75 = .ok (.ifCond .lt 35, 3) := by decide +kernel
theorem dX11_copy_78 : decode cX11_copy 78 = .ok (.iload 5, 2) := by decide +kernel
theorem dX11_copy_80 : decode cX11_copy 80 = .ok (.ifCond .lt 30, 3) := by decide +kernel
theorem dX11_copy_83 : decode cX11_copy 83 = .ok (.iload 5, 2) := by decide +kernel
theorem dX11_copy_85 : decode cX11_copy 85 = .ok (.aload_n 0, 1) := by decide +kernel
theorem dX11_copy_86 : decode cX11_copy 86 = .ok (.getfield 34, 3) := by decide +kernel
theorem dX11_copy_89 : decode cX11_copy 89 = .ok (.iload_n 1, 1) := by decide +kernel
theorem dX11_copy_90 : decode cX11_copy 90 = .ok (.iaload, 1) := by decide +kernel
theorem dX11_copy_91 : decode cX11_copy 91 = .ok (.iload_n 2, 1) := by decide +kernel
theorem dX11_copy_92 : decode cX11_copy 92 = .ok (.isub, 1) := by decide +kernel
theorem dX11_copy_93 : decode cX11_copy 93 = .ok (.if_icmp .gt 17, 3) := by decide +kernel
theorem dX11_copy_96 : decode cX11_copy 96 = .ok (.iload 5, 2) := by decide +kernel
theorem dX11_copy_98 : decode cX11_copy 98 = .ok (.aload_n 0, 1) := by decide +kernel
theorem dX11_copy_99 : decode cX11_copy 99 = .ok (.getfield 34, 3) := by decide +kernel
theorem dX11_copy_102 : decode cX11_copy 102 = .ok (.iload_n 3, 1) := by decide +kernel
theorem dX11_copy_103 : decode cX11_copy 103 = .ok (.iaload, 1) := by decide +kernel
theorem dX11_copy_104 : decode cX11_copy 104 = .ok (.iload 4, 2) := by decide +kernel
theorem dX11_copy_106 : decode cX11_copy 106 = .ok (.isub, 1) := by decide +kernel
theorem dX11_copy_107 : decode cX11_copy 107 = .ok (.if_icmp .le 10, 3) := by decide +kernel
theorem dX11_copy_110 : decode cX11_copy 110 = .ok (.aload_n 0, 1) := by decide +kernel
theorem dX11_copy_111 : decode cX11_copy 111 = .ok (.ldc 44, 2) := by decide +kernel
theorem dX11_copy_113 : decode cX11_copy 113 = .ok (.invokevirtual 76, 3) := by decide +kernel
theorem dX11_copy_116 : decode cX11_copy 116 = .ok (.ireturn, 1) := by decide +kernel
theorem dX11_copy_117 : decode cX11_copy 117 = .ok (.iconst 0, 1) := by decide +kernel
theorem dX11_copy_118 : decode cX11_copy 118 = .ok (.istore 6, 2) := by decide +kernel
theorem dX11_copy_120 : decode cX11_copy 120 = .ok (.iload 6, 2) := by decide +kernel
theorem dX11_copy_122 : decode cX11_copy 122 = .ok (.iload 5, 2) := by decide +kernel
theorem dX11_copy_124 : decode cX11_copy 124 = .ok (.if_icmp .ge 30, 3) := by decide +kernel
theorem dX11_copy_127 : decode cX11_copy 127 = .ok (.aload_n 0, 1) := by decide +kernel
theorem dX11_copy_128 : decode cX11_copy 128 = .ok (.getfield 41, 3) := by decide +kernel
theorem dX11_copy_131 : decode cX11_copy 131 = .ok (.iload 6, 2) := by decide +kernel
theorem dX11_copy_133 : decode cX11_copy 133 = .ok (.aload_n 0, 1) := by decide +kernel
theorem dX11_copy_134 : decode cX11_copy 134 = .ok (.getfield 37, 3) := by decide +kernel
theorem dX11_copy_137 : decode cX11_copy 137 = .ok (.bipush 40, 2) := by decide +kernel
theorem dX11_copy_139 : decode cX11_copy 139 = .ok (.iload_n 1, 1) := by decide +kernel
theorem dX11_copy_140 : decode cX11_copy 140 = .ok (.imul, 1) := by decide +kernel
theorem dX11_copy_141 : decode cX11_copy 141 = .ok (.iload_n 2, 1) := by decide +kernel
theorem dX11_copy_142 : decode cX11_copy 142 = .ok (.iadd, 1) := by decide +kernel
theorem dX11_copy_143 : decode cX11_copy 143 = .ok (.iload 6, 2) := by decide +kernel
theorem dX11_copy_145 : decode cX11_copy 145 = .ok (.iadd, 1) := by decide +kernel
theorem dX11_copy_146 : decode cX11_copy 146 = .ok (.laload, 1) := by decide +kernel
theorem dX11_copy_147 : decode cX11_copy 147 = .ok (.lastore, 1) := by decide +kernel
theorem dX11_copy_148 : decode cX11_copy 148 = .ok (.iinc 6 1, 3) := by decide +kernel
theorem dX11_copy_151 : decode cX11_copy 151 = .ok (.goto (-31), 3) := by decide +kernel
theorem dX11_copy_154 : decode cX11_copy 154 = .ok (.iconst 0, 1) := by decide +kernel
theorem dX11_copy_155 : decode cX11_copy 155 = .ok (.istore 6, 2) := by decide +kernel
theorem dX11_copy_157 : decode cX11_copy 157 = .ok (.iload 6, 2) := by decide +kernel
theorem dX11_copy_159 : decode cX11_copy 159 = .ok (.iload 5, 2) := by decide +kernel
theorem dX11_copy_161 : decode cX11_copy 161 = .ok (.if_icmp .ge 31, 3) := by decide +kernel
theorem dX11_copy_164 : decode cX11_copy 164 = .ok (.aload_n 0, 1) := by decide +kernel
theorem dX11_copy_165 : decode cX11_copy 165 = .ok (.getfield 37, 3) := by decide +kernel
theorem dX11_copy_168 : decode cX11_copy 168 = .ok (.bipush 40, 2) := by decide +kernel
theorem dX11_copy_170 : decode cX11_copy 170 = .ok (.iload_n 3, 1) := by decide +kernel
theorem dX11_copy_171 : decode cX11_copy 171 = .ok (.imul, 1) := by decide +kernel
theorem dX11_copy_172 : decode cX11_copy 172 = .ok (.iload 4, 2) := by decide +kernel
theorem dX11_copy_174 : decode cX11_copy 174 = .ok (.iadd, 1) := by decide +kernel
theorem dX11_copy_175 : decode cX11_copy 175 = .ok (.iload 6, 2) := by decide +kernel
theorem dX11_copy_177 : decode cX11_copy 177 = .ok (.iadd, 1) := by decide +kernel
theorem dX11_copy_178 : decode cX11_copy 178 = .ok (.aload_n 0, 1) := by decide +kernel
theorem dX11_copy_179 : decode cX11_copy 179 = .ok (.getfield 41, 3) := by decide +kernel
theorem dX11_copy_182 : decode cX11_copy 182 = .ok (.iload 6, 2) := by decide +kernel
theorem dX11_copy_184 : decode cX11_copy 184 = .ok (.laload, 1) := by decide +kernel
theorem dX11_copy_185 : decode cX11_copy 185 = .ok (.lastore, 1) := by decide +kernel
theorem dX11_copy_186 : decode cX11_copy 186 = .ok (.iinc 6 1, 3) := by decide +kernel
theorem dX11_copy_189 : decode cX11_copy 189 = .ok (.goto (-32), 3) := by decide +kernel
theorem dX11_copy_192 : decode cX11_copy 192 = .ok (.iload 5, 2) := by decide +kernel
theorem dX11_copy_194 : decode cX11_copy 194 = .ok (.ireturn, 1) := by decide +kernel
theorem dX11_lays_0 : decode cX11_lays 0 = .ok (.aload_n 0, 1) := by decide +kernel
theorem dX11_lays_1 : decode cX11_lays 1 = .ok (.iload_n 1, 1) := by decide +kernel
theorem dX11_lays_2 : decode cX11_lays 2 = .ok (.invokevirtual 287, 3) := by decide +kernel
theorem dX11_lays_5 : decode cX11_lays 5 = .ok (.istore_n 2, 1) := by decide +kernel
theorem dX11_lays_6 : decode cX11_lays 6 = .ok (.iload_n 2, 1) := by decide +kernel
theorem dX11_lays_7 : decode cX11_lays 7 = .ok (.ifCond .eq 9, 3) := by decide +kernel
theorem dX11_lays_10 : decode cX11_lays 10 = .ok (.aload_n 0, 1) := by decide +kernel
theorem dX11_lays_11 : decode cX11_lays 11 = .ok (.iload_n 2, 1) := by decide +kernel
theorem dX11_lays_12 : decode cX11_lays 12 = .ok (.invokevirtual 76, 3) := by decide +kernel
theorem dX11_lays_15 : decode cX11_lays 15 = .ok (.ireturn, 1) := by decide +kernel
theorem dX11_lays_16 : decode cX11_lays 16 = .ok (.iconst 0, 1) := by decide +kernel
theorem dX11_lays_17 : decode cX11_lays 17 = .ok (.istore_n 3, 1) := by decide +kernel
theorem dX11_lays_18 : decode cX11_lays 18 = .ok (.iconst 0, 1) := by decide +kernel
theorem dX11_lays_19 : decode cX11_lays 19 = .ok (.istore 4, 2) := by decide +kernel
theorem dX11_lays_21 : decode cX11_lays 21 = .ok (.iload 4, 2) := by decide +kernel
theorem dX11_lays_23 : decode cX11_lays 23 = .ok (.aload_n 0, 1) := by decide +kernel
theorem dX11_lays_24 : decode cX11_lays 24 = .ok (.getfield 34, 3) := by decide +kernel
theorem dX11_lays_27 : decode cX11_lays 27 = .ok (.iload_n 1, 1) := by decide +kernel
theorem dX11_lays_28 : decode cX11_lays 28 = .ok (.iaload, 1) := by decide +kernel
theorem dX11_lays_29 : decode cX11_lays 29 = .ok (.if_icmp .ge 89, 3) := by decide +kernel
theorem dX11_lays_32 : decode cX11_lays 32 = .ok (.iload 4, 2) := by decide +kernel
theorem dX11_lays_34 : decode cX11_lays 34 = .ok (.bipush 6, 2) := by decide +kernel
theorem dX11_lays_36 : decode cX11_lays 36 = .ok (.if_icmp .ge 82, 3) := by decide +kernel
theorem dX11_lays_39 : decode cX11_lays 39 = .ok (.aload_n 0, 1) := by decide +kernel
theorem dX11_lays_40 : decode cX11_lays 40 = .ok (.getfield 37, 3) := by decide +kernel
theorem dX11_lays_43 : decode cX11_lays 43 = .ok (.bipush 40, 2) := by decide +kernel
theorem dX11_lays_45 : decode cX11_lays 45 = .ok (.iload_n 1, 1) := by decide +kernel
theorem dX11_lays_46 : decode cX11_lays 46 = .ok (.imul, 1) := by decide +kernel
theorem dX11_lays_47 : decode cX11_lays 47 = .ok (.iload 4, 2) := by decide +kernel
theorem dX11_lays_49 : decode cX11_lays 49 = .ok (.iadd, 1) := by decide +kernel
theorem dX11_lays_50 : decode cX11_lays 50 = .ok (.laload, 1) := by decide +kernel
theorem dX11_lays_51 : decode cX11_lays 51 = .ok (.lconst 0, 1) := by decide +kernel
theorem dX11_lays_52 : decode cX11_lays 52 = .ok (.ldc2_w 53, 3) := by decide +kernel
theorem dX11_lays_55 : decode cX11_lays 55 = .ok (.invokestatic 49, 3) := by decide +kernel
theorem dX11_lays_58 : decode cX11_lays 58 = .ok (.istore 5, 2) := by decide +kernel
theorem dX11_lays_60 : decode cX11_lays 60 = .ok (.aload_n 0, 1) := by decide +kernel
theorem dX11_lays_61 : decode cX11_lays 61 = .ok (.getfield 7, 3) := by decide +kernel
theorem dX11_lays_64 : decode cX11_lays 64 = .ok (.iconst 2, 1) := by decide +kernel
theorem dX11_lays_65 : decode cX11_lays 65 = .ok (.iload 4, 2) := by decide +kernel
theorem dX11_lays_67 : decode cX11_lays 67 = .ok (.iadd, 1) := by decide +kernel
theorem dX11_lays_68 : decode cX11_lays 68 = .ok (.iload 5, 2) := by decide +kernel
theorem dX11_lays_70 : decode cX11_lays 70 = .ok (.ifCond .eq 19, 3) := by decide +kernel
theorem dX11_lays_73 : decode cX11_lays 73 = .ok (.aload_n 0, 1) := by decide +kernel
theorem dX11_lays_74 : decode cX11_lays 74 = .ok (.getfield 37, 3) := by decide +kernel
theorem dX11_lays_77 : decode cX11_lays 77 = .ok (.bipush 40, 2) := by decide +kernel
theorem dX11_lays_79 : decode cX11_lays 79 = .ok (.iload_n 1, 1) := by decide +kernel
theorem dX11_lays_80 : decode cX11_lays 80 = .ok (.imul, 1) := by decide +kernel
theorem dX11_lays_81 : decode cX11_lays 81 = .ok (.iload 4, 2) := by decide +kernel
theorem dX11_lays_83 : decode cX11_lays 83 = .ok (.iadd, 1) := by decide +kernel
theorem dX11_lays_84 : decode cX11_lays 84 = .ok (.laload, 1) := by decide +kernel
theorem dX11_lays_85 : decode cX11_lays 85 = .ok (.l2i, 1) := by decide +kernel
theorem dX11_lays_86 : decode cX11_lays 86 = .ok (.goto 12, 3) := by decide +kernel
theorem dX11_lays_89 : decode cX11_lays 89 = .ok (.aload_n 0, 1) := by decide +kernel
theorem dX11_lays_90 : decode cX11_lays 90 = .ok (.getfield 7, 3) := by decide +kernel
theorem dX11_lays_93 : decode cX11_lays 93 = .ok (.iconst 2, 1) := by decide +kernel
theorem dX11_lays_94 : decode cX11_lays 94 = .ok (.iload 4, 2) := by decide +kernel
theorem dX11_lays_96 : decode cX11_lays 96 = .ok (.iadd, 1) := by decide +kernel
theorem dX11_lays_97 : decode cX11_lays 97 = .ok (.iaload, 1) := by decide +kernel
theorem dX11_lays_98 : decode cX11_lays 98 = .ok (.iastore, 1) := by decide +kernel
theorem dX11_lays_99 : decode cX11_lays 99 = .ok (.iload_n 3, 1) := by decide +kernel
theorem dX11_lays_100 : decode cX11_lays 100 = .ok (.iload 5, 2) := by decide +kernel
theorem dX11_lays_102 : decode cX11_lays 102 = .ok (.ifCond .eq 7, 3) := by decide +kernel
theorem dX11_lays_105 : decode cX11_lays 105 = .ok (.iconst 1, 1) := by decide +kernel
theorem dX11_lays_106 : decode cX11_lays 106 = .ok (.goto 4, 3) := by decide +kernel
theorem dX11_lays_109 : decode cX11_lays 109 = .ok (.iconst 0, 1) := by decide +kernel
theorem dX11_lays_110 : decode cX11_lays 110 = .ok (.iadd, 1) := by decide +kernel
theorem dX11_lays_111 : decode cX11_lays 111 = .ok (.istore_n 3, 1) := by decide +kernel
theorem dX11_lays_112 : decode cX11_lays 112 = .ok (.iinc 4 1, 3) := by decide +kernel
theorem dX11_lays_115 : decode cX11_lays 115 = .ok (.goto (-94), 3) := by decide +kernel
theorem dX11_lays_118 : decode cX11_lays 118 = .ok (.iload_n 3, 1) := by decide +kernel
theorem dX11_lays_119 : decode cX11_lays 119 = .ok (.ireturn, 1) := by decide +kernel
theorem dX11_book_0 : decode cX11_book 0 = .ok (.aload_n 0, 1) := by decide +kernel
theorem dX11_book_1 : decode cX11_book 1 = .ok (.iload_n 1, 1) := by decide +kernel
theorem dX11_book_2 : decode cX11_book 2 = .ok (.invokevirtual 287, 3) := by decide +kernel
theorem dX11_book_5 : decode cX11_book 5 = .ok (.istore_n 3, 1) := by decide +kernel
theorem dX11_book_6 : decode cX11_book 6 = .ok (.iload_n 3, 1) := by decide +kernel
theorem dX11_book_7 : decode cX11_book 7 = .ok (.ifCond .eq 9, 3) := by decide +kernel
theorem dX11_book_10 : decode cX11_book 10 = .ok (.aload_n 0, 1) := by decide +kernel
theorem dX11_book_11 : decode cX11_book 11 = .ok (.iload_n 3, 1) := by decide +kernel
theorem dX11_book_12 : decode cX11_book 12 = .ok (.invokevirtual 76, 3) := by decide +kernel
theorem dX11_book_15 : decode cX11_book 15 = .ok (.ireturn, 1) := by decide +kernel
theorem dX11_book_16 : decode cX11_book 16 = .ok (.aload_n 0, 1) := by decide +kernel
theorem dX11_book_17 : decode cX11_book 17 = .ok (.iload_n 2, 1) := by decide +kernel
theorem dX11_book_18 : decode cX11_book 18 = .ok (.invokevirtual 123, 3) := by decide +kernel
theorem dX11_book_21 : decode cX11_book 21 = .ok (.ifCond .ne 10, 3) := by decide +kernel
theorem dX11_book_24 : decode cX11_book 24 = .ok (.aload_n 0, 1) := by decide +kernel
theorem dX11_book_25 : decode cX11_book 25 = .ok (.ldc 44, 2) := by decide +kernel
theorem dX11_book_27 : decode cX11_book 27 = .ok (.invokevirtual 76, 3) := by decide +kernel
theorem dX11_book_30 : decode cX11_book 30 = .ok (.ireturn, 1) := by decide +kernel
theorem dX11_book_31 : decode cX11_book 31 = .ok (.aload_n 0, 1) := by decide +kernel
theorem dX11_book_32 : decode cX11_book 32 = .ok (.invokevirtual 163, 3) := by decide +kernel
theorem dX11_book_35 : decode cX11_book 35 = .ok (.iconst 0, 1) := by decide +kernel
theorem dX11_book_36 : decode cX11_book 36 = .ok (.istore 4, 2) := by decide +kernel
theorem dX11_book_38 : decode cX11_book 38 = .ok (.iload 4, 2) := by decide +kernel
theorem dX11_book_40 : decode cX11_book 40 = .ok (.aload_n 0, 1) := by decide +kernel
theorem dX11_book_41 : decode cX11_book 41 = .ok (.getfield 34, 3) := by decide +kernel
theorem dX11_book_44 : decode cX11_book 44 = .ok (.iload_n 1, 1) := by decide +kernel
theorem dX11_book_45 : decode cX11_book 45 = .ok (.iaload, 1) := by decide +kernel
theorem dX11_book_46 : decode cX11_book 46 = .ok (.if_icmp .ge 41, 3) := by decide +kernel
theorem dX11_book_49 : decode cX11_book 49 = .ok (.aload_n 0, 1) := by decide +kernel
theorem dX11_book_50 : decode cX11_book 50 = .ok (.getfield 37, 3) := by decide +kernel
theorem dX11_book_53 : decode cX11_book 53 = .ok (.bipush 40, 2) := by decide +kernel
theorem dX11_book_55 : decode cX11_book 55 = .ok (.iload_n 1, 1) := by decide +kernel
theorem dX11_book_56 : decode cX11_book 56 = .ok (.imul, 1) := by decide +kernel
theorem dX11_book_57 : decode cX11_book 57 = .ok (.iload 4, 2) := by decide +kernel
theorem dX11_book_59 : decode cX11_book 59 = .ok (.iadd, 1) := by decide +kernel
theorem dX11_book_60 : decode cX11_book 60 = .ok (.aload_n 0, 1) := by decide +kernel
theorem dX11_book_61 : decode cX11_book 61 = .ok (.getfield 31, 3) := by decide +kernel
theorem dX11_book_64 : decode cX11_book 64 = .ok (.iload_n 1, 1) := by decide +kernel
theorem dX11_book_65 : decode cX11_book 65 = .ok (.iaload, 1) := by decide +kernel
theorem dX11_book_66 : decode cX11_book 66 = .ok (.aload_n 0, 1) := by decide +kernel
theorem dX11_book_67 : decode cX11_book 67 = .ok (.iload_n 2, 1) := by decide +kernel
theorem dX11_book_68 : decode cX11_book 68 = .ok (.iconst 1, 1) := by decide +kernel
theorem dX11_book_69 : decode cX11_book 69 = .ok (.invokevirtual 59, 3) := by decide +kernel
theorem dX11_book_72 : decode cX11_book 72 = .ok (.i2l, 1) := by decide +kernel
theorem dX11_book_73 : decode cX11_book 73 = .ok (.invokestatic 290, 3) := by decide +kernel
theorem dX11_book_76 : decode cX11_book 76 = .ok (.lastore, 1) := by decide +kernel
theorem dX11_book_77 : decode cX11_book 77 = .ok (.aload_n 0, 1) := by decide +kernel
theorem dX11_book_78 : decode cX11_book 78 = .ok (.invokevirtual 151, 3) := by decide +kernel
theorem dX11_book_81 : decode cX11_book 81 = .ok (.iinc 4 1, 3) := by decide +kernel
theorem dX11_book_84 : decode cX11_book 84 = .ok (.goto (-46), 3) := by decide +kernel
theorem dX11_book_87 : decode cX11_book 87 = .ok (.aload_n 0, 1) := by decide +kernel
theorem dX11_book_88 : decode cX11_book 88 = .ok (.aload_n 0, 1) := by decide +kernel
theorem dX11_book_89 : decode cX11_book 89 = .ok (.getfield 34, 3) := by decide +kernel
theorem dX11_book_92 : decode cX11_book 92 = .ok (.iload_n 1, 1) := by decide +kernel
theorem dX11_book_93 : decode cX11_book 93 = .ok (.iaload, 1) := by decide +kernel
theorem dX11_book_94 : decode cX11_book 94 = .ok (.invokevirtual 166, 3) := by decide +kernel
theorem dX11_book_97 : decode cX11_book 97 = .ok (.ireturn, 1) := by decide +kernel
theorem dX11_isBook_0 : decode cX11_isBook 0 = .ok (.iconst 0, 1) := by decide +kernel
theorem dX11_isBook_1 : decode cX11_isBook 1 = .ok (.istore_n 3, 1) := by decide +kernel
theorem dX11_isBook_2 : decode cX11_isBook 2 = .ok (.iload_n 3, 1) := by decide +kernel
theorem dX11_isBook_3 : decode cX11_isBook 3 = .ok (.aload_n 0, 1) := by decide +kernel
theorem dX11_isBook_4 : decode cX11_isBook 4 = .ok (.getfield 34, 3) := by decide +kernel
theorem dX11_isBook_7 : decode cX11_isBook 7 = .ok (.iload_n 1, 1) := by decide +kernel
theorem dX11_isBook_8 : decode cX11_isBook 8 = .ok (.iaload, 1) := by decide +kernel
theorem dX11_isBook_9 : decode cX11_isBook 9 = .ok (.if_icmp .ge 37, 3) := by decide +kernel
theorem dX11_isBook_12 : decode cX11_isBook 12 = .ok (.aload_n 0, 1) := by decide +kernel
theorem dX11_isBook_13 : decode cX11_isBook 13 = .ok (.getfield 37, 3) := by decide +kernel
theorem dX11_isBook_16 : decode cX11_isBook 16 = .ok (.bipush 40, 2) := by decide +kernel
theorem dX11_isBook_18 : decode cX11_isBook 18 = .ok (.iload_n 1, 1) := by decide +kernel
theorem dX11_isBook_19 : decode cX11_isBook 19 = .ok (.imul, 1) := by decide +kernel
theorem dX11_isBook_20 : decode cX11_isBook 20 = .ok (.iload_n 3, 1) := by decide +kernel
theorem dX11_isBook_21 : decode cX11_isBook 21 = .ok (.iadd, 1) := by decide +kernel
theorem dX11_isBook_22 : decode cX11_isBook 22 = .ok (.laload, 1) := by decide +kernel
theorem dX11_isBook_23 : decode cX11_isBook 23 = .ok (.aload_n 0, 1) := by decide +kernel
theorem dX11_isBook_24 : decode cX11_isBook 24 = .ok (.iload_n 2, 1) := by decide +kernel
theorem dX11_isBook_25 : decode cX11_isBook 25 = .ok (.iconst 1, 1) := by decide +kernel
theorem dX11_isBook_26 : decode cX11_isBook 26 = .ok (.invokevirtual 59, 3) := by decide +kernel
theorem dX11_isBook_29 : decode cX11_isBook 29 = .ok (.i2l, 1) := by decide +kernel
theorem dX11_isBook_30 : decode cX11_isBook 30 = .ok (.lcmp, 1) := by decide +kernel
theorem dX11_isBook_31 : decode cX11_isBook 31 = .ok (.ifCond .eq 5, 3) := by decide +kernel
theorem dX11_isBook_34 : decode cX11_isBook 34 = .ok (.iconst 0, 1) := by decide +kernel
theorem dX11_isBook_35 : decode cX11_isBook 35 = .ok (.ireturn, 1) := by decide +kernel
theorem dX11_isBook_36 : decode cX11_isBook 36 = .ok (.aload_n 0, 1) := by decide +kernel
theorem dX11_isBook_37 : decode cX11_isBook 37 = .ok (.invokevirtual 151, 3) := by decide +kernel
theorem dX11_isBook_40 : decode cX11_isBook 40 = .ok (.iinc 3 1, 3) := by decide +kernel
theorem dX11_isBook_43 : decode cX11_isBook 43 = .ok (.goto (-41), 3) := by decide +kernel
theorem dX11_isBook_46 : decode cX11_isBook 46 = .ok (.iconst 1, 1) := by decide +kernel
theorem dX11_isBook_47 : decode cX11_isBook 47 = .ok (.ireturn, 1) := by decide +kernel
theorem dX11_read_0 : decode cX11_read 0 = .ok (.aload_n 0, 1) := by decide +kernel
theorem dX11_read_1 : decode cX11_read 1 = .ok (.iload_n 1, 1) := by decide +kernel
theorem dX11_read_2 : decode cX11_read 2 = .ok (.invokevirtual 287, 3) := by decide +kernel
theorem dX11_read_5 : decode cX11_read 5 = .ok (.istore_n 3, 1) := by decide +kernel
theorem dX11_read_6 : decode cX11_read 6 = .ok (.iload_n 3, 1) := by decide +kernel
theorem dX11_read_7 : decode cX11_read 7 = .ok (.ifCond .eq 9, 3) := by decide +kernel
theorem dX11_read_10 : decode cX11_read 10 = .ok (.aload_n 0, 1) := by decide +kernel
theorem dX11_read_11 : decode cX11_read 11 = .ok (.iload_n 3, 1) := by decide +kernel
theorem dX11_read_12 : decode cX11_read 12 = .ok (.invokevirtual 76, 3) := by decide +kernel
theorem dX11_read_15 : decode cX11_read 15 = .ok (.ireturn, 1) := by decide +kernel
theorem dX11_read_16 : decode cX11_read 16 = .ok (.aload_n 0, 1) := by decide +kernel
theorem dX11_read_17 : decode cX11_read 17 = .ok (.iload_n 2, 1) := by decide +kernel
theorem dX11_read_18 : decode cX11_read 18 = .ok (.invokevirtual 123, 3) := by decide +kernel
theorem dX11_read_21 : decode cX11_read 21 = .ok (.ifCond .ne 10, 3) := by decide +kernel
theorem dX11_read_24 : decode cX11_read 24 = .ok (.aload_n 0, 1) := by decide +kernel
theorem dX11_read_25 : decode cX11_read 25 = .ok (.ldc 44, 2) := by decide +kernel
theorem dX11_read_27 : decode cX11_read 27 = .ok (.invokevirtual 76, 3) := by decide +kernel
theorem dX11_read_30 : decode cX11_read 30 = .ok (.ireturn, 1) := by decide +kernel
theorem dX11_read_31 : decode cX11_read 31 = .ok (.aload_n 0, 1) := by decide +kernel
theorem dX11_read_32 : decode cX11_read 32 = .ok (.invokevirtual 163, 3) := by decide +kernel
theorem dX11_read_35 : decode cX11_read 35 = .ok (.iconst 0, 1) := by decide +kernel
theorem dX11_read_36 : decode cX11_read 36 = .ok (.istore 4, 2) := by decide +kernel
theorem dX11_read_38 : decode cX11_read 38 = .ok (.iconst 0, 1) := by decide +kernel
theorem dX11_read_39 : decode cX11_read 39 = .ok (.istore 5, 2) := by decide +kernel
theorem dX11_read_41 : decode cX11_read 41 = .ok (.iload 5, 2) := by decide +kernel
theorem dX11_read_43 : decode cX11_read 43 = .ok (.bipush 24, 2) := by decide +kernel
theorem dX11_read_45 : decode cX11_read 45 = .ok (.if_icmp .ge 62, 3) := by decide +kernel
theorem dX11_read_48 : decode cX11_read 48 = .ok (.aload_n 0, 1) := by decide +kernel
theorem dX11_read_49 : decode cX11_read 49 = .ok (.getfield 7, 3) := by decide +kernel
theorem dX11_read_52 : decode cX11_read 52 = .ok (.iload_n 2, 1) := by decide +kernel
theorem dX11_read_53 : decode cX11_read 53 = .ok (.iconst 0, 1) := by decide +kernel
theorem dX11_read_54 : decode cX11_read 54 = .ok (.invokestatic 45, 3) := by decide +kernel
theorem dX11_read_57 : decode cX11_read 57 = .ok (.iload 5, 2) := by decide +kernel
theorem dX11_read_59 : decode cX11_read 59 = .ok (.iconst 4, 1) := by decide +kernel
theorem dX11_read_60 : decode cX11_read 60 = .ok (.idiv, 1) := by decide +kernel
theorem dX11_read_61 : decode cX11_read 61 = .ok (.iastore, 1) := by decide +kernel
theorem dX11_read_62 : decode cX11_read 62 = .ok (.aload_n 0, 1) := by decide +kernel
theorem dX11_read_63 : decode cX11_read 63 = .ok (.getfield 7, 3) := by decide +kernel
theorem dX11_read_66 : decode cX11_read 66 = .ok (.iload_n 2, 1) := by decide +kernel
theorem dX11_read_67 : decode cX11_read 67 = .ok (.iconst 2, 1) := by decide +kernel
theorem dX11_read_68 : decode cX11_read 68 = .ok (.invokestatic 45, 3) := by decide +kernel
theorem dX11_read_71 : decode cX11_read 71 = .ok (.iload 5, 2) := by decide +kernel
theorem dX11_read_73 : decode cX11_read 73 = .ok (.iconst 4, 1) := by decide +kernel
theorem dX11_read_74 : decode cX11_read 74 = .ok (.irem, 1) := by decide +kernel
theorem dX11_read_75 : decode cX11_read 75 = .ok (.iconst 1, 1) := by decide +kernel
theorem dX11_read_76 : decode cX11_read 76 = .ok (.iadd, 1) := by decide +kernel
theorem dX11_read_77 : decode cX11_read 77 = .ok (.iastore, 1) := by decide +kernel
theorem dX11_read_78 : decode cX11_read 78 = .ok (.aload_n 0, 1) := by decide +kernel
theorem dX11_read_79 : decode cX11_read 79 = .ok (.iload 4, 2) := by decide +kernel
theorem dX11_read_81 : decode cX11_read 81 = .ok (.aload_n 0, 1) := by decide +kernel
theorem dX11_read_82 : decode cX11_read 82 = .ok (.iload_n 1, 1) := by decide +kernel
theorem dX11_read_83 : decode cX11_read 83 = .ok (.iload_n 2, 1) := by decide +kernel
theorem dX11_read_84 : decode cX11_read 84 = .ok (.invokevirtual 294, 3) := by decide +kernel
theorem dX11_read_87 : decode cX11_read 87 = .ok (.ifCond .eq 7, 3) := by decide +kernel
theorem dX11_read_90 : decode cX11_read 90 = .ok (.iconst 1, 1) := by decide +kernel
theorem dX11_read_91 : decode cX11_read 91 = .ok (.goto 4, 3) := by decide +kernel
theorem dX11_read_94 : decode cX11_read 94 = .ok (.iconst 0, 1) := by decide +kernel
theorem dX11_read_95 : decode cX11_read 95 = .ok (.iadd, 1) := by decide +kernel
theorem dX11_read_96 : decode cX11_read 96 = .ok (.invokevirtual 166, 3) := by decide +kernel
theorem dX11_read_99 : decode cX11_read 99 = .ok (.istore 4, 2) := by decide +kernel
theorem dX11_read_101 : decode cX11_read 101 = .ok (.iinc 5 1, 3) := by decide +kernel
theorem dX11_read_104 : decode cX11_read 104 = .ok (.goto (-63), 3) := by decide +kernel
theorem dX11_read_107 : decode cX11_read 107 = .ok (.iload 4, 2) := by decide +kernel
theorem dX11_read_109 : decode cX11_read 109 = .ok (.ireturn, 1) := by decide +kernel
theorem dX11_image_0 : decode cX11_image 0 = .ok (.iconst 0, 1) := by decide +kernel
theorem dX11_image_1 : decode cX11_image 1 = .ok (.istore_n 1, 1) := by decide +kernel
theorem dX11_image_2 : decode cX11_image 2 = .ok (.iload_n 1, 1) := by decide +kernel
theorem dX11_image_3 : decode cX11_image 3 = .ok (.bipush 51, 2) := by decide +kernel
theorem dX11_image_5 : decode cX11_image 5 = .ok (.if_icmp .ge 21, 3) := by decide +kernel
theorem dX11_image_8 : decode cX11_image 8 = .ok (.aload_n 0, 1) := by decide +kernel
theorem dX11_image_9 : decode cX11_image 9 = .ok (.getfield 13, 3) := by decide +kernel
theorem dX11_image_12 : decode cX11_image 12 = .ok (.iload_n 1, 1) := by decide +kernel
theorem dX11_image_13 : decode cX11_image 13 = .ok (.aload_n 0, 1) := by decide +kernel
theorem dX11_image_14 : decode cX11_image 14 = .ok (.getfield 7, 3) := by decide +kernel
theorem dX11_image_17 : decode cX11_image 17 = .ok (.iload_n 1, 1) := by decide +kernel
theorem dX11_image_18 : decode cX11_image 18 = .ok (.iaload, 1) := by decide +kernel
theorem dX11_image_19 : decode cX11_image 19 = .ok (.iastore, 1) := by decide +kernel
theorem dX11_image_20 : decode cX11_image 20 = .ok (.iinc 1 1, 3) := by decide +kernel
theorem dX11_image_23 : decode cX11_image 23 = .ok (.goto (-21), 3) := by decide +kernel
theorem dX11_image_26 : decode cX11_image 26 = .ok (.aload_n 0, 1) := by decide +kernel
theorem dX11_image_27 : decode cX11_image 27 = .ok (.iconst 1, 1) := by decide +kernel
theorem dX11_image_28 : decode cX11_image 28 = .ok (.putfield 297, 3) := by decide +kernel
theorem dX11_image_31 : decode cX11_image 31 = .ok (.iconst 1, 1) := by decide +kernel
theorem dX11_image_32 : decode cX11_image 32 = .ok (.ireturn, 1) := by decide +kernel
theorem dX11_undo_0 : decode cX11_undo 0 = .ok (.aload_n 0, 1) := by decide +kernel
theorem dX11_undo_1 : decode cX11_undo 1 = .ok (.getfield 297, 3) := by decide +kernel
theorem dX11_undo_4 : decode cX11_undo 4 = .ok (.ifCond .ne 10, 3) := by decide +kernel
theorem dX11_undo_7 : decode cX11_undo 7 = .ok (.aload_n 0, 1) := by decide +kernel
theorem dX11_undo_8 : decode cX11_undo 8 = .ok (.ldc 175, 2) := by decide +kernel
theorem dX11_undo_10 : decode cX11_undo 10 = .ok (.invokevirtual 76, 3) := by decide +kernel
theorem dX11_undo_13 : decode cX11_undo 13 = .ok (.ireturn, 1) := by decide +kernel
theorem dX11_undo_14 : decode cX11_undo 14 = .ok (.iconst 0, 1) := by decide +kernel
theorem dX11_undo_15 : decode cX11_undo 15 = .ok (.istore_n 1, 1) := by decide +kernel
theorem dX11_undo_16 : decode cX11_undo 16 = .ok (.iload_n 1, 1) := by decide +kernel
theorem dX11_undo_17 : decode cX11_undo 17 = .ok (.bipush 51, 2) := by decide +kernel
theorem dX11_undo_19 : decode cX11_undo 19 = .ok (.if_icmp .ge 21, 3) := by decide +kernel
theorem dX11_undo_22 : decode cX11_undo 22 = .ok (.aload_n 0, 1) := by decide +kernel
theorem dX11_undo_23 : decode cX11_undo 23 = .ok (.getfield 7, 3) := by decide +kernel
theorem dX11_undo_26 : decode cX11_undo 26 = .ok (.iload_n 1, 1) := by decide +kernel
theorem dX11_undo_27 : decode cX11_undo 27 = .ok (.aload_n 0, 1) := by decide +kernel
theorem dX11_undo_28 : decode cX11_undo 28 = .ok (.getfield 13, 3) := by decide +kernel
theorem dX11_undo_31 : decode cX11_undo 31 = .ok (.iload_n 1, 1) := by decide +kernel
theorem dX11_undo_32 : decode cX11_undo 32 = .ok (.iaload, 1) := by decide +kernel
theorem dX11_undo_33 : decode cX11_undo 33 = .ok (.iastore, 1) := by decide +kernel
theorem dX11_undo_34 : decode cX11_undo 34 = .ok (.iinc 1 1, 3) := by decide +kernel
theorem dX11_undo_37 : decode cX11_undo 37 = .ok (.goto (-21), 3) := by decide +kernel
theorem dX11_undo_40 : decode cX11_undo 40 = .ok (.aload_n 0, 1) := by decide +kernel
theorem dX11_undo_41 : decode cX11_undo 41 = .ok (.getfield 7, 3) := by decide +kernel
theorem dX11_undo_44 : decode cX11_undo 44 = .ok (.iconst 1, 1) := by decide +kernel
theorem dX11_undo_45 : decode cX11_undo 45 = .ok (.iaload, 1) := by decide +kernel
theorem dX11_undo_46 : decode cX11_undo 46 = .ok (.ireturn, 1) := by decide +kernel
theorem dX11_tear_0 : decode cX11_tear 0 = .ok (.aload_n 0, 1) := by decide +kernel
theorem dX11_tear_1 : decode cX11_tear 1 = .ok (.getfield 297, 3) := by decide +kernel
theorem dX11_tear_4 : decode cX11_tear 4 = .ok (.ifCond .eq 7, 3) := by decide +kernel
theorem dX11_tear_7 : decode cX11_tear 7 = .ok (.iconst 1, 1) := by decide +kernel
theorem dX11_tear_8 : decode cX11_tear 8 = .ok (.goto 4, 3) := by decide +kernel
theorem dX11_tear_11 : decode cX11_tear 11 = .ok (.iconst 0, 1) := by decide +kernel
theorem dX11_tear_12 : decode cX11_tear 12 = .ok (.istore_n 1, 1) := by decide +kernel
theorem dX11_tear_13 : decode cX11_tear 13 = .ok (.aload_n 0, 1) := by decide +kernel
theorem dX11_tear_14 : decode cX11_tear 14 = .ok (.iconst 0, 1) := by decide +kernel
theorem dX11_tear_15 : decode cX11_tear 15 = .ok (.putfield 297, 3) := by decide +kernel
theorem dX11_tear_18 : decode cX11_tear 18 = .ok (.iload_n 1, 1) := by decide +kernel
theorem dX11_tear_19 : decode cX11_tear 19 = .ok (.ireturn, 1) := by decide +kernel
theorem dX11_count_0 : decode cX11_count 0 = .ok (.iload_n 1, 1) := by decide +kernel
theorem dX11_count_1 : decode cX11_count 1 = .ok (.tableswitch 55 0 3 #[31, 38, 43, 49], 31) := by decide +kernel
theorem dX11_count_32 : decode cX11_count 32 = .ok (.aload_n 0, 1) := by decide +kernel
theorem dX11_count_33 : decode cX11_count 33 = .ok (.getfield 7, 3) := by decide +kernel
theorem dX11_count_36 : decode cX11_count 36 = .ok (.iconst 1, 1) := by decide +kernel
theorem dX11_count_37 : decode cX11_count 37 = .ok (.iaload, 1) := by decide +kernel
theorem dX11_count_38 : decode cX11_count 38 = .ok (.ireturn, 1) := by decide +kernel
theorem dX11_count_39 : decode cX11_count 39 = .ok (.aload_n 0, 1) := by decide +kernel
theorem dX11_count_40 : decode cX11_count 40 = .ok (.getfield 191, 3) := by decide +kernel
theorem dX11_count_43 : decode cX11_count 43 = .ok (.ireturn, 1) := by decide +kernel
theorem dX11_count_44 : decode cX11_count 44 = .ok (.aload_n 0, 1) := by decide +kernel
theorem dX11_count_45 : decode cX11_count 45 = .ok (.iconst 3, 1) := by decide +kernel
theorem dX11_count_46 : decode cX11_count 46 = .ok (.invokevirtual 62, 3) := by decide +kernel
theorem dX11_count_49 : decode cX11_count 49 = .ok (.ireturn, 1) := by decide +kernel
theorem dX11_count_50 : decode cX11_count 50 = .ok (.aload_n 0, 1) := by decide +kernel
theorem dX11_count_51 : decode cX11_count 51 = .ok (.iconst 4, 1) := by decide +kernel
theorem dX11_count_52 : decode cX11_count 52 = .ok (.invokevirtual 62, 3) := by decide +kernel
theorem dX11_count_55 : decode cX11_count 55 = .ok (.ireturn, 1) := by decide +kernel
theorem dX11_count_56 : decode cX11_count 56 = .ok (.aload_n 0, 1) := by decide +kernel
theorem dX11_count_57 : decode cX11_count 57 = .ok (.ldc 44, 2) := by decide +kernel
theorem dX11_count_59 : decode cX11_count 59 = .ok (.invokevirtual 76, 3) := by decide +kernel
theorem dX11_count_62 : decode cX11_count 62 = .ok (.ireturn, 1) := by decide +kernel
theorem dX11_status_0 : decode cX11_status 0 = .ok (.iload_n 1, 1) := by decide +kernel
theorem dX11_status_1 : decode cX11_status 1 = .ok (.i2l, 1) := by decide +kernel
theorem dX11_status_2 : decode cX11_status 2 = .ok (.ldc2_w 300, 3) := by decide +kernel
theorem dX11_status_5 : decode cX11_status 5 = .ok (.ldc2_w 302, 3) := by decide +kernel
theorem dX11_status_8 : decode cX11_status 8 = .ok (.invokestatic 49, 3) := by decide +kernel
theorem dX11_status_11 : decode cX11_status 11 = .ok (.ifCond .ne 10, 3) := by decide +kernel
theorem dX11_status_14 : decode cX11_status 14 = .ok (.aload_n 0, 1) := by decide +kernel
theorem dX11_status_15 : decode cX11_status 15 = .ok (.ldc 44, 2) := by decide +kernel
theorem dX11_status_17 : decode cX11_status 17 = .ok (.invokevirtual 76, 3) := by decide +kernel
theorem dX11_status_20 : decode cX11_status 20 = .ok (.ireturn, 1) := by decide +kernel
theorem dX11_status_21 : decode cX11_status 21 = .ok (.iconst 0, 1) := by decide +kernel
theorem dX11_status_22 : decode cX11_status 22 = .ok (.istore_n 2, 1) := by decide +kernel
theorem dX11_status_23 : decode cX11_status 23 = .ok (.iconst 0, 1) := by decide +kernel
theorem dX11_status_24 : decode cX11_status 24 = .ok (.istore_n 3, 1) := by decide +kernel
theorem dX11_status_25 : decode cX11_status 25 = .ok (.iload_n 3, 1) := by decide +kernel
theorem dX11_status_26 : decode cX11_status 26 = .ok (.bipush 7, 2) := by decide +kernel
theorem dX11_status_28 : decode cX11_status 28 = .ok (.if_icmp .ge 31, 3) := by decide +kernel
theorem dX11_status_31 : decode cX11_status 31 = .ok (.iload_n 2, 1) := by decide +kernel
theorem dX11_status_32 : decode cX11_status 32 = .ok (.iload_n 1, 1) := by decide +kernel
theorem dX11_status_33 : decode cX11_status 33 = .ok (.ifCond .lt 8, 3) := by decide +kernel
theorem dX11_status_36 : decode cX11_status 36 = .ok (.iload_n 3, 1) := by decide +kernel
theorem dX11_status_37 : decode cX11_status 37 = .ok (.iload_n 1, 1) := by decide +kernel
theorem dX11_status_38 : decode cX11_status 38 = .ok (.if_icmp .ne 12, 3) := by decide +kernel
theorem dX11_status_41 : decode cX11_status 41 = .ok (.aload_n 0, 1) := by decide +kernel
theorem dX11_status_42 : decode cX11_status 42 = .ok (.getfield 22, 3) := by decide +kernel
theorem dX11_status_45 : decode cX11_status 45 = .ok (.iload_n 3, 1) := by decide +kernel
theorem dX11_status_46 : decode cX11_status 46 = .ok (.iaload, 1) := by decide +kernel
theorem dX11_status_47 : decode cX11_status 47 = .ok (.goto 4, 3) := by decide +kernel
theorem dX11_status_50 : decode cX11_status 50 = .ok (.iconst 0, 1) := by decide +kernel
theorem dX11_status_51 : decode cX11_status 51 = .ok (.iadd, 1) := by decide +kernel
theorem dX11_status_52 : decode cX11_status 52 = .ok (.istore_n 2, 1) := by decide +kernel
theorem dX11_status_53 : decode cX11_status 53 = .ok (.iinc 3 1, 3) := by decide +kernel
theorem dX11_status_56 : decode cX11_status 56 = .ok (.goto (-31), 3) := by decide +kernel
theorem dX11_status_59 : decode cX11_status 59 = .ok (.iload_n 2, 1) := by decide +kernel
theorem dX11_status_60 : decode cX11_status 60 = .ok (.ireturn, 1) := by decide +kernel
theorem dL_law_0 : decode cL_law 0 = .ok (.new 7, 3) := by decide +kernel
theorem dL_law_3 : decode cL_law 3 = .ok (.dup, 1) := by decide +kernel
theorem dL_law_4 : decode cL_law 4 = .ok (.invokespecial 9, 3) := by decide +kernel
theorem dL_law_7 : decode cL_law 7 = .ok (.astore_n 1, 1) := by decide +kernel
theorem dL_law_8 : decode cL_law 8 = .ok (.new 10, 3) := by decide +kernel
theorem dL_law_11 : decode cL_law 11 = .ok (.dup, 1) := by decide +kernel
theorem dL_law_12 : decode cL_law 12 = .ok (.invokespecial 12, 3) := by decide +kernel
theorem dL_law_15 : decode cL_law 15 = .ok (.astore_n 2, 1) := by decide +kernel
theorem dL_law_16 : decode cL_law 16 = .ok (.iconst 0, 1) := by decide +kernel
theorem dL_law_17 : decode cL_law 17 = .ok (.istore_n 3, 1) := by decide +kernel
theorem dL_law_18 : decode cL_law 18 = .ok (.iload_n 3, 1) := by decide +kernel
theorem dL_law_19 : decode cL_law 19 = .ok (.aload_n 0, 1) := by decide +kernel
theorem dL_law_20 : decode cL_law 20 = .ok (.arraylength, 1) := by decide +kernel
theorem dL_law_21 : decode cL_law 21 = .ok (.bipush 6, 2) := by decide +kernel
theorem dL_law_23 : decode cL_law 23 = .ok (.isub, 1) := by decide +kernel
theorem dL_law_24 : decode cL_law 24 = .ok (.if_icmp .gt 1246, 3) := by decide +kernel
theorem dL_law_27 : decode cL_law 27 = .ok (.aload_n 0, 1) := by decide +kernel
theorem dL_law_28 : decode cL_law 28 = .ok (.iload_n 3, 1) := by decide +kernel
theorem dL_law_29 : decode cL_law 29 = .ok (.iaload, 1) := by decide +kernel
theorem dL_law_30 : decode cL_law 30 = .ok (.bipush 63, 2) := by decide +kernel
theorem dL_law_32 : decode cL_law 32 = .ok (.iand, 1) := by decide +kernel
theorem dL_law_33 : decode cL_law 33 = .ok (.tableswitch 1231 0 34 #[155, 188, 221, 244, 267, 300, 333, 376, 409, 442, 465, 508, 531, 564, 587, 620, 653, 686, 729, 762, 795, 818, 851, 864, 877, 920, 994, 1057, 1080, 1113, 1146, 1159, 1172, 1185, 1208], 155) := by decide +kernel
theorem dL_law_188 : decode cL_law 188 = .ok (.aload_n 1, 1) := by decide +kernel
theorem dL_law_189 : decode cL_law 189 = .ok (.aload_n 0, 1) := by decide +kernel
theorem dL_law_190 : decode cL_law 190 = .ok (.iload_n 3, 1) := by decide +kernel
theorem dL_law_191 : decode cL_law 191 = .ok (.iconst 1, 1) := by decide +kernel
theorem dL_law_192 : decode cL_law 192 = .ok (.iadd, 1) := by decide +kernel
theorem dL_law_193 : decode cL_law 193 = .ok (.iaload, 1) := by decide +kernel
theorem dL_law_194 : decode cL_law 194 = .ok (.aload_n 0, 1) := by decide +kernel
theorem dL_law_195 : decode cL_law 195 = .ok (.iload_n 3, 1) := by decide +kernel
theorem dL_law_196 : decode cL_law 196 = .ok (.iconst 2, 1) := by decide +kernel
theorem dL_law_197 : decode cL_law 197 = .ok (.iadd, 1) := by decide +kernel
theorem dL_law_198 : decode cL_law 198 = .ok (.iaload, 1) := by decide +kernel
theorem dL_law_199 : decode cL_law 199 = .ok (.invokevirtual 13, 3) := by decide +kernel
theorem dL_law_202 : decode cL_law 202 = .ok (.aload_n 2, 1) := by decide +kernel
theorem dL_law_203 : decode cL_law 203 = .ok (.aload_n 0, 1) := by decide +kernel
theorem dL_law_204 : decode cL_law 204 = .ok (.iload_n 3, 1) := by decide +kernel
theorem dL_law_205 : decode cL_law 205 = .ok (.iconst 1, 1) := by decide +kernel
theorem dL_law_206 : decode cL_law 206 = .ok (.iadd, 1) := by decide +kernel
theorem dL_law_207 : decode cL_law 207 = .ok (.iaload, 1) := by decide +kernel
theorem dL_law_208 : decode cL_law 208 = .ok (.aload_n 0, 1) := by decide +kernel
theorem dL_law_209 : decode cL_law 209 = .ok (.iload_n 3, 1) := by decide +kernel
theorem dL_law_210 : decode cL_law 210 = .ok (.iconst 2, 1) := by decide +kernel
theorem dL_law_211 : decode cL_law 211 = .ok (.iadd, 1) := by decide +kernel
theorem dL_law_212 : decode cL_law 212 = .ok (.iaload, 1) := by decide +kernel
theorem dL_law_213 : decode cL_law 213 = .ok (.invokevirtual 17, 3) := by decide +kernel
theorem dL_law_216 : decode cL_law 216 = .ok (.if_icmp .eq 1048, 3) := by decide +kernel
theorem dL_law_219 : decode cL_law 219 = .ok (.iconst 0, 1) := by decide +kernel
theorem dL_law_220 : decode cL_law 220 = .ok (.ireturn, 1) := by decide +kernel
theorem dL_law_221 : decode cL_law 221 = .ok (.aload_n 1, 1) := by decide +kernel
theorem dL_law_222 : decode cL_law 222 = .ok (.aload_n 0, 1) := by decide +kernel
theorem dL_law_223 : decode cL_law 223 = .ok (.iload_n 3, 1) := by decide +kernel
theorem dL_law_224 : decode cL_law 224 = .ok (.iconst 1, 1) := by decide +kernel
theorem dL_law_225 : decode cL_law 225 = .ok (.iadd, 1) := by decide +kernel
theorem dL_law_226 : decode cL_law 226 = .ok (.iaload, 1) := by decide +kernel
theorem dL_law_227 : decode cL_law 227 = .ok (.aload_n 0, 1) := by decide +kernel
theorem dL_law_228 : decode cL_law 228 = .ok (.iload_n 3, 1) := by decide +kernel
theorem dL_law_229 : decode cL_law 229 = .ok (.iconst 2, 1) := by decide +kernel
theorem dL_law_230 : decode cL_law 230 = .ok (.iadd, 1) := by decide +kernel
theorem dL_law_231 : decode cL_law 231 = .ok (.iaload, 1) := by decide +kernel
theorem dL_law_232 : decode cL_law 232 = .ok (.invokevirtual 18, 3) := by decide +kernel
theorem dL_law_235 : decode cL_law 235 = .ok (.aload_n 2, 1) := by decide +kernel
theorem dL_law_236 : decode cL_law 236 = .ok (.aload_n 0, 1) := by decide +kernel
theorem dL_law_237 : decode cL_law 237 = .ok (.iload_n 3, 1) := by decide +kernel
theorem dL_law_238 : decode cL_law 238 = .ok (.iconst 1, 1) := by decide +kernel
theorem dL_law_239 : decode cL_law 239 = .ok (.iadd, 1) := by decide +kernel
theorem dL_law_240 : decode cL_law 240 = .ok (.iaload, 1) := by decide +kernel
theorem dL_law_241 : decode cL_law 241 = .ok (.aload_n 0, 1) := by decide +kernel
theorem dL_law_242 : decode cL_law 242 = .ok (.iload_n 3, 1) := by decide +kernel
theorem dL_law_243 : decode cL_law 243 = .ok (.iconst 2, 1) := by decide +kernel
theorem dL_law_244 : decode cL_law 244 = .ok (.iadd, 1) := by decide +kernel
theorem dL_law_245 : decode cL_law 245 = .ok (.iaload, 1) := by decide +kernel
theorem dL_law_246 : decode cL_law 246 = .ok (.invokevirtual 21, 3) := by decide +kernel
theorem dL_law_249 : decode cL_law 249 = .ok (.if_icmp .eq 1015, 3) := by decide +kernel
theorem dL_law_252 : decode cL_law 252 = .ok (.iconst 0, 1) := by decide +kernel
theorem dL_law_253 : decode cL_law 253 = .ok (.ireturn, 1) := by decide +kernel
theorem dL_law_254 : decode cL_law 254 = .ok (.aload_n 1, 1) := by decide +kernel
theorem dL_law_255 : decode cL_law 255 = .ok (.aload_n 0, 1) := by decide +kernel
theorem dL_law_256 : decode cL_law 256 = .ok (.iload_n 3, 1) := by decide +kernel
theorem dL_law_257 : decode cL_law 257 = .ok (.iconst 1, 1) := by decide +kernel
theorem dL_law_258 : decode cL_law 258 = .ok (.iadd, 1) := by decide +kernel
theorem dL_law_259 : decode cL_law 259 = .ok (.iaload, 1) := by decide +kernel
theorem dL_law_260 : decode cL_law 260 = .ok (.invokevirtual 22, 3) := by decide +kernel
theorem dL_law_263 : decode cL_law 263 = .ok (.aload_n 2, 1) := by decide +kernel
theorem dL_law_264 : decode cL_law 264 = .ok (.aload_n 0, 1) := by decide +kernel
theorem dL_law_265 : decode cL_law 265 = .ok (.iload_n 3, 1) := by decide +kernel
theorem dL_law_266 : decode cL_law 266 = .ok (.iconst 1, 1) := by decide +kernel
theorem dL_law_267 : decode cL_law 267 = .ok (.iadd, 1) := by decide +kernel
theorem dL_law_268 : decode cL_law 268 = .ok (.iaload, 1) := by decide +kernel
theorem dL_law_269 : decode cL_law 269 = .ok (.invokevirtual 26, 3) := by decide +kernel
theorem dL_law_272 : decode cL_law 272 = .ok (.if_icmp .eq 992, 3) := by decide +kernel
theorem dL_law_275 : decode cL_law 275 = .ok (.iconst 0, 1) := by decide +kernel
theorem dL_law_276 : decode cL_law 276 = .ok (.ireturn, 1) := by decide +kernel
theorem dL_law_277 : decode cL_law 277 = .ok (.aload_n 1, 1) := by decide +kernel
theorem dL_law_278 : decode cL_law 278 = .ok (.aload_n 0, 1) := by decide +kernel
theorem dL_law_279 : decode cL_law 279 = .ok (.iload_n 3, 1) := by decide +kernel
theorem dL_law_280 : decode cL_law 280 = .ok (.iconst 1, 1) := by decide +kernel
theorem dL_law_281 : decode cL_law 281 = .ok (.iadd, 1) := by decide +kernel
theorem dL_law_282 : decode cL_law 282 = .ok (.iaload, 1) := by decide +kernel
theorem dL_law_283 : decode cL_law 283 = .ok (.invokevirtual 27, 3) := by decide +kernel
theorem dL_law_286 : decode cL_law 286 = .ok (.aload_n 2, 1) := by decide +kernel
theorem dL_law_287 : decode cL_law 287 = .ok (.aload_n 0, 1) := by decide +kernel
theorem dL_law_288 : decode cL_law 288 = .ok (.iload_n 3, 1) := by decide +kernel
theorem dL_law_289 : decode cL_law 289 = .ok (.iconst 1, 1) := by decide +kernel
theorem dL_law_290 : decode cL_law 290 = .ok (.iadd, 1) := by decide +kernel
theorem dL_law_291 : decode cL_law 291 = .ok (.iaload, 1) := by decide +kernel
theorem dL_law_292 : decode cL_law 292 = .ok (.invokevirtual 30, 3) := by decide +kernel
theorem dL_law_295 : decode cL_law 295 = .ok (.if_icmp .eq 969, 3) := by decide +kernel
theorem dL_law_298 : decode cL_law 298 = .ok (.iconst 0, 1) := by decide +kernel
theorem dL_law_299 : decode cL_law 299 = .ok (.ireturn, 1) := by decide +kernel
theorem dL_law_300 : decode cL_law 300 = .ok (.aload_n 1, 1) := by decide +kernel
theorem dL_law_301 : decode cL_law 301 = .ok (.aload_n 0, 1) := by decide +kernel
theorem dL_law_302 : decode cL_law 302 = .ok (.iload_n 3, 1) := by decide +kernel
theorem dL_law_303 : decode cL_law 303 = .ok (.iconst 1, 1) := by decide +kernel
theorem dL_law_304 : decode cL_law 304 = .ok (.iadd, 1) := by decide +kernel
theorem dL_law_305 : decode cL_law 305 = .ok (.iaload, 1) := by decide +kernel
theorem dL_law_306 : decode cL_law 306 = .ok (.aload_n 0, 1) := by decide +kernel
theorem dL_law_307 : decode cL_law 307 = .ok (.iload_n 3, 1) := by decide +kernel
theorem dL_law_308 : decode cL_law 308 = .ok (.iconst 2, 1) := by decide +kernel
theorem dL_law_309 : decode cL_law 309 = .ok (.iadd, 1) := by decide +kernel
theorem dL_law_310 : decode cL_law 310 = .ok (.iaload, 1) := by decide +kernel
theorem dL_law_311 : decode cL_law 311 = .ok (.invokevirtual 31, 3) := by decide +kernel
theorem dL_law_314 : decode cL_law 314 = .ok (.aload_n 2, 1) := by decide +kernel
theorem dL_law_315 : decode cL_law 315 = .ok (.aload_n 0, 1) := by decide +kernel
theorem dL_law_316 : decode cL_law 316 = .ok (.iload_n 3, 1) := by decide +kernel
theorem dL_law_317 : decode cL_law 317 = .ok (.iconst 1, 1) := by decide +kernel
theorem dL_law_318 : decode cL_law 318 = .ok (.iadd, 1) := by decide +kernel
theorem dL_law_319 : decode cL_law 319 = .ok (.iaload, 1) := by decide +kernel
theorem dL_law_320 : decode cL_law 320 = .ok (.aload_n 0, 1) := by decide +kernel
theorem dL_law_321 : decode cL_law 321 = .ok (.iload_n 3, 1) := by decide +kernel
theorem dL_law_322 : decode cL_law 322 = .ok (.iconst 2, 1) := by decide +kernel
theorem dL_law_323 : decode cL_law 323 = .ok (.iadd, 1) := by decide +kernel
theorem dL_law_324 : decode cL_law 324 = .ok (.iaload, 1) := by decide +kernel
theorem dL_law_325 : decode cL_law 325 = .ok (.invokevirtual 34, 3) := by decide +kernel
theorem dL_law_328 : decode cL_law 328 = .ok (.if_icmp .eq 936, 3) := by decide +kernel
theorem dL_law_331 : decode cL_law 331 = .ok (.iconst 0, 1) := by decide +kernel
theorem dL_law_332 : decode cL_law 332 = .ok (.ireturn, 1) := by decide +kernel
theorem dL_law_333 : decode cL_law 333 = .ok (.aload_n 1, 1) := by decide +kernel
theorem dL_law_334 : decode cL_law 334 = .ok (.aload_n 0, 1) := by decide +kernel
theorem dL_law_335 : decode cL_law 335 = .ok (.iload_n 3, 1) := by decide +kernel
theorem dL_law_336 : decode cL_law 336 = .ok (.iconst 1, 1) := by decide +kernel
theorem dL_law_337 : decode cL_law 337 = .ok (.iadd, 1) := by decide +kernel
theorem dL_law_338 : decode cL_law 338 = .ok (.iaload, 1) := by decide +kernel
theorem dL_law_339 : decode cL_law 339 = .ok (.aload_n 0, 1) := by decide +kernel
theorem dL_law_340 : decode cL_law 340 = .ok (.iload_n 3, 1) := by decide +kernel
theorem dL_law_341 : decode cL_law 341 = .ok (.iconst 2, 1) := by decide +kernel
theorem dL_law_342 : decode cL_law 342 = .ok (.iadd, 1) := by decide +kernel
theorem dL_law_343 : decode cL_law 343 = .ok (.iaload, 1) := by decide +kernel
theorem dL_law_344 : decode cL_law 344 = .ok (.invokevirtual 35, 3) := by decide +kernel
theorem dL_law_347 : decode cL_law 347 = .ok (.aload_n 2, 1) := by decide +kernel
theorem dL_law_348 : decode cL_law 348 = .ok (.aload_n 0, 1) := by decide +kernel
theorem dL_law_349 : decode cL_law 349 = .ok (.iload_n 3, 1) := by decide +kernel
theorem dL_law_350 : decode cL_law 350 = .ok (.iconst 1, 1) := by decide +kernel
theorem dL_law_351 : decode cL_law 351 = .ok (.iadd, 1) := by decide +kernel
theorem dL_law_352 : decode cL_law 352 = .ok (.iaload, 1) := by decide +kernel
theorem dL_law_353 : decode cL_law 353 = .ok (.aload_n 0, 1) := by decide +kernel
theorem dL_law_354 : decode cL_law 354 = .ok (.iload_n 3, 1) := by decide +kernel
theorem dL_law_355 : decode cL_law 355 = .ok (.iconst 2, 1) := by decide +kernel
theorem dL_law_356 : decode cL_law 356 = .ok (.iadd, 1) := by decide +kernel
theorem dL_law_357 : decode cL_law 357 = .ok (.iaload, 1) := by decide +kernel
theorem dL_law_358 : decode cL_law 358 = .ok (.invokevirtual 38, 3) := by decide +kernel
theorem dL_law_361 : decode cL_law 361 = .ok (.if_icmp .eq 903, 3) := by decide +kernel
theorem dL_law_364 : decode cL_law 364 = .ok (.iconst 0, 1) := by decide +kernel
theorem dL_law_365 : decode cL_law 365 = .ok (.ireturn, 1) := by decide +kernel
theorem dL_law_366 : decode cL_law 366 = .ok (.aload_n 1, 1) := by decide +kernel
theorem dL_law_367 : decode cL_law 367 = .ok (.aload_n 0, 1) := by decide +kernel
theorem dL_law_368 : decode cL_law 368 = .ok (.iload_n 3, 1) := by decide +kernel
theorem dL_law_369 : decode cL_law 369 = .ok (.iconst 1, 1) := by decide +kernel
theorem dL_law_370 : decode cL_law 370 = .ok (.iadd, 1) := by decide +kernel
theorem dL_law_371 : decode cL_law 371 = .ok (.iaload, 1) := by decide +kernel
theorem dL_law_372 : decode cL_law 372 = .ok (.aload_n 0, 1) := by decide +kernel
theorem dL_law_373 : decode cL_law 373 = .ok (.iload_n 3, 1) := by decide +kernel
theorem dL_law_374 : decode cL_law 374 = .ok (.iconst 2, 1) := by decide +kernel
theorem dL_law_375 : decode cL_law 375 = .ok (.iadd, 1) := by decide +kernel
theorem dL_law_376 : decode cL_law 376 = .ok (.iaload, 1) := by decide +kernel
theorem dL_law_377 : decode cL_law 377 = .ok (.aload_n 0, 1) := by decide +kernel
theorem dL_law_378 : decode cL_law 378 = .ok (.iload_n 3, 1) := by decide +kernel
theorem dL_law_379 : decode cL_law 379 = .ok (.iconst 3, 1) := by decide +kernel
theorem dL_law_380 : decode cL_law 380 = .ok (.iadd, 1) := by decide +kernel
theorem dL_law_381 : decode cL_law 381 = .ok (.iaload, 1) := by decide +kernel
theorem dL_law_382 : decode cL_law 382 = .ok (.invokevirtual 39, 3) := by decide +kernel
theorem dL_law_385 : decode cL_law 385 = .ok (.aload_n 2, 1) := by decide +kernel
theorem dL_law_386 : decode cL_law 386 = .ok (.aload_n 0, 1) := by decide +kernel
theorem dL_law_387 : decode cL_law 387 = .ok (.iload_n 3, 1) := by decide +kernel
theorem dL_law_388 : decode cL_law 388 = .ok (.iconst 1, 1) := by decide +kernel
theorem dL_law_389 : decode cL_law 389 = .ok (.iadd, 1) := by decide +kernel
theorem dL_law_390 : decode cL_law 390 = .ok (.iaload, 1) := by decide +kernel
theorem dL_law_391 : decode cL_law 391 = .ok (.aload_n 0, 1) := by decide +kernel
theorem dL_law_392 : decode cL_law 392 = .ok (.iload_n 3, 1) := by decide +kernel
theorem dL_law_393 : decode cL_law 393 = .ok (.iconst 2, 1) := by decide +kernel
theorem dL_law_394 : decode cL_law 394 = .ok (.iadd, 1) := by decide +kernel
theorem dL_law_395 : decode cL_law 395 = .ok (.iaload, 1) := by decide +kernel
theorem dL_law_396 : decode cL_law 396 = .ok (.aload_n 0, 1) := by decide +kernel
theorem dL_law_397 : decode cL_law 397 = .ok (.iload_n 3, 1) := by decide +kernel
theorem dL_law_398 : decode cL_law 398 = .ok (.iconst 3, 1) := by decide +kernel
theorem dL_law_399 : decode cL_law 399 = .ok (.iadd, 1) := by decide +kernel
theorem dL_law_400 : decode cL_law 400 = .ok (.iaload, 1) := by decide +kernel
theorem dL_law_401 : decode cL_law 401 = .ok (.invokevirtual 43, 3) := by decide +kernel
theorem dL_law_404 : decode cL_law 404 = .ok (.if_icmp .eq 860, 3) := by decide +kernel
theorem dL_law_407 : decode cL_law 407 = .ok (.iconst 0, 1) := by decide +kernel
theorem dL_law_408 : decode cL_law 408 = .ok (.ireturn, 1) := by decide +kernel
theorem dL_law_409 : decode cL_law 409 = .ok (.aload_n 1, 1) := by decide +kernel
theorem dL_law_410 : decode cL_law 410 = .ok (.aload_n 0, 1) := by decide +kernel
theorem dL_law_411 : decode cL_law 411 = .ok (.iload_n 3, 1) := by decide +kernel
theorem dL_law_412 : decode cL_law 412 = .ok (.iconst 1, 1) := by decide +kernel
theorem dL_law_413 : decode cL_law 413 = .ok (.iadd, 1) := by decide +kernel
theorem dL_law_414 : decode cL_law 414 = .ok (.iaload, 1) := by decide +kernel
theorem dL_law_415 : decode cL_law 415 = .ok (.aload_n 0, 1) := by decide +kernel
theorem dL_law_416 : decode cL_law 416 = .ok (.iload_n 3, 1) := by decide +kernel
theorem dL_law_417 : decode cL_law 417 = .ok (.iconst 2, 1) := by decide +kernel
theorem dL_law_418 : decode cL_law 418 = .ok (.iadd, 1) := by decide +kernel
theorem dL_law_419 : decode cL_law 419 = .ok (.iaload, 1) := by decide +kernel
theorem dL_law_420 : decode cL_law 420 = .ok (.invokevirtual 44, 3) := by decide +kernel
theorem dL_law_423 : decode cL_law 423 = .ok (.aload_n 2, 1) := by decide +kernel
theorem dL_law_424 : decode cL_law 424 = .ok (.aload_n 0, 1) := by decide +kernel
theorem dL_law_425 : decode cL_law 425 = .ok (.iload_n 3, 1) := by decide +kernel
theorem dL_law_426 : decode cL_law 426 = .ok (.iconst 1, 1) := by decide +kernel
theorem dL_law_427 : decode cL_law 427 = .ok (.iadd, 1) := by decide +kernel
theorem dL_law_428 : decode cL_law 428 = .ok (.iaload, 1) := by decide +kernel
theorem dL_law_429 : decode cL_law 429 = .ok (.aload_n 0, 1) := by decide +kernel
theorem dL_law_430 : decode cL_law 430 = .ok (.iload_n 3, 1) := by decide +kernel
theorem dL_law_431 : decode cL_law 431 = .ok (.iconst 2, 1) := by decide +kernel
theorem dL_law_432 : decode cL_law 432 = .ok (.iadd, 1) := by decide +kernel
theorem dL_law_433 : decode cL_law 433 = .ok (.iaload, 1) := by decide +kernel
theorem dL_law_434 : decode cL_law 434 = .ok (.invokevirtual 47, 3) := by decide +kernel
theorem dL_law_437 : decode cL_law 437 = .ok (.if_icmp .eq 827, 3) := by decide +kernel
theorem dL_law_440 : decode cL_law 440 = .ok (.iconst 0, 1) := by decide +kernel
theorem dL_law_441 : decode cL_law 441 = .ok (.ireturn, 1) := by decide +kernel
theorem dL_law_442 : decode cL_law 442 = .ok (.aload_n 1, 1) := by decide +kernel
theorem dL_law_443 : decode cL_law 443 = .ok (.aload_n 0, 1) := by decide +kernel
theorem dL_law_444 : decode cL_law 444 = .ok (.iload_n 3, 1) := by decide +kernel
theorem dL_law_445 : decode cL_law 445 = .ok (.iconst 1, 1) := by decide +kernel
theorem dL_law_446 : decode cL_law 446 = .ok (.iadd, 1) := by decide +kernel
theorem dL_law_447 : decode cL_law 447 = .ok (.iaload, 1) := by decide +kernel
theorem dL_law_448 : decode cL_law 448 = .ok (.aload_n 0, 1) := by decide +kernel
theorem dL_law_449 : decode cL_law 449 = .ok (.iload_n 3, 1) := by decide +kernel
theorem dL_law_450 : decode cL_law 450 = .ok (.iconst 2, 1) := by decide +kernel
theorem dL_law_451 : decode cL_law 451 = .ok (.iadd, 1) := by decide +kernel
theorem dL_law_452 : decode cL_law 452 = .ok (.iaload, 1) := by decide +kernel
theorem dL_law_453 : decode cL_law 453 = .ok (.invokevirtual 48, 3) := by decide +kernel
theorem dL_law_456 : decode cL_law 456 = .ok (.aload_n 2, 1) := by decide +kernel
theorem dL_law_457 : decode cL_law 457 = .ok (.aload_n 0, 1) := by decide +kernel
theorem dL_law_458 : decode cL_law 458 = .ok (.iload_n 3, 1) := by decide +kernel
theorem dL_law_459 : decode cL_law 459 = .ok (.iconst 1, 1) := by decide +kernel
theorem dL_law_460 : decode cL_law 460 = .ok (.iadd, 1) := by decide +kernel
theorem dL_law_461 : decode cL_law 461 = .ok (.iaload, 1) := by decide +kernel
theorem dL_law_462 : decode cL_law 462 = .ok (.aload_n 0, 1) := by decide +kernel
theorem dL_law_463 : decode cL_law 463 = .ok (.iload_n 3, 1) := by decide +kernel
theorem dL_law_464 : decode cL_law 464 = .ok (.iconst 2, 1) := by decide +kernel
theorem dL_law_465 : decode cL_law 465 = .ok (.iadd, 1) := by decide +kernel
theorem dL_law_466 : decode cL_law 466 = .ok (.iaload, 1) := by decide +kernel
theorem dL_law_467 : decode cL_law 467 = .ok (.invokevirtual 51, 3) := by decide +kernel
theorem dL_law_470 : decode cL_law 470 = .ok (.if_icmp .eq 794, 3) := by decide +kernel
theorem dL_law_473 : decode cL_law 473 = .ok (.iconst 0, 1) := by decide +kernel
theorem dL_law_474 : decode cL_law 474 = .ok (.ireturn, 1) := by decide +kernel
theorem dL_law_475 : decode cL_law 475 = .ok (.aload_n 1, 1) := by decide +kernel
theorem dL_law_476 : decode cL_law 476 = .ok (.aload_n 0, 1) := by decide +kernel
theorem dL_law_477 : decode cL_law 477 = .ok (.iload_n 3, 1) := by decide +kernel
theorem dL_law_478 : decode cL_law 478 = .ok (.iconst 1, 1) := by decide +kernel
theorem dL_law_479 : decode cL_law 479 = .ok (.iadd, 1) := by decide +kernel
theorem dL_law_480 : decode cL_law 480 = .ok (.iaload, 1) := by decide +kernel
theorem dL_law_481 : decode cL_law 481 = .ok (.invokevirtual 52, 3) := by decide +kernel
theorem dL_law_484 : decode cL_law 484 = .ok (.aload_n 2, 1) := by decide +kernel
theorem dL_law_485 : decode cL_law 485 = .ok (.aload_n 0, 1) := by decide +kernel
theorem dL_law_486 : decode cL_law 486 = .ok (.iload_n 3, 1) := by decide +kernel
theorem dL_law_487 : decode cL_law 487 = .ok (.iconst 1, 1) := by decide +kernel
theorem dL_law_488 : decode cL_law 488 = .ok (.iadd, 1) := by decide +kernel
theorem dL_law_489 : decode cL_law 489 = .ok (.iaload, 1) := by decide +kernel
theorem dL_law_490 : decode cL_law 490 = .ok (.invokevirtual 55, 3) := by decide +kernel
theorem dL_law_493 : decode cL_law 493 = .ok (.if_icmp .eq 771, 3) := by decide +kernel
theorem dL_law_496 : decode cL_law 496 = .ok (.iconst 0, 1) := by decide +kernel
theorem dL_law_497 : decode cL_law 497 = .ok (.ireturn, 1) := by decide +kernel
theorem dL_law_498 : decode cL_law 498 = .ok (.aload_n 1, 1) := by decide +kernel
theorem dL_law_499 : decode cL_law 499 = .ok (.aload_n 0, 1) := by decide +kernel
theorem dL_law_500 : decode cL_law 500 = .ok (.iload_n 3, 1) := by decide +kernel
theorem dL_law_501 : decode cL_law 501 = .ok (.iconst 1, 1) := by decide +kernel
theorem dL_law_502 : decode cL_law 502 = .ok (.iadd, 1) := by decide +kernel
theorem dL_law_503 : decode cL_law 503 = .ok (.iaload, 1) := by decide +kernel
theorem dL_law_504 : decode cL_law 504 = .ok (.aload_n 0, 1) := by decide +kernel
theorem dL_law_505 : decode cL_law 505 = .ok (.iload_n 3, 1) := by decide +kernel
theorem dL_law_506 : decode cL_law 506 = .ok (.iconst 2, 1) := by decide +kernel
theorem dL_law_507 : decode cL_law 507 = .ok (.iadd, 1) := by decide +kernel
theorem dL_law_508 : decode cL_law 508 = .ok (.iaload, 1) := by decide +kernel
theorem dL_law_509 : decode cL_law 509 = .ok (.aload_n 0, 1) := by decide +kernel
theorem dL_law_510 : decode cL_law 510 = .ok (.iload_n 3, 1) := by decide +kernel
theorem dL_law_511 : decode cL_law 511 = .ok (.iconst 3, 1) := by decide +kernel
theorem dL_law_512 : decode cL_law 512 = .ok (.iadd, 1) := by decide +kernel
theorem dL_law_513 : decode cL_law 513 = .ok (.iaload, 1) := by decide +kernel
theorem dL_law_514 : decode cL_law 514 = .ok (.invokevirtual 56, 3) := by decide +kernel
theorem dL_law_517 : decode cL_law 517 = .ok (.aload_n 2, 1) := by decide +kernel
theorem dL_law_518 : decode cL_law 518 = .ok (.aload_n 0, 1) := by decide +kernel
theorem dL_law_519 : decode cL_law 519 = .ok (.iload_n 3, 1) := by decide +kernel
theorem dL_law_520 : decode cL_law 520 = .ok (.iconst 1, 1) := by decide +kernel
theorem dL_law_521 : decode cL_law 521 = .ok (.iadd, 1) := by decide +kernel
theorem dL_law_522 : decode cL_law 522 = .ok (.iaload, 1) := by decide +kernel
theorem dL_law_523 : decode cL_law 523 = .ok (.aload_n 0, 1) := by decide +kernel
theorem dL_law_524 : decode cL_law 524 = .ok (.iload_n 3, 1) := by decide +kernel
theorem dL_law_525 : decode cL_law 525 = .ok (.iconst 2, 1) := by decide +kernel
theorem dL_law_526 : decode cL_law 526 = .ok (.iadd, 1) := by decide +kernel
theorem dL_law_527 : decode cL_law 527 = .ok (.iaload, 1) := by decide +kernel
theorem dL_law_528 : decode cL_law 528 = .ok (.aload_n 0, 1) := by decide +kernel
theorem dL_law_529 : decode cL_law 529 = .ok (.iload_n 3, 1) := by decide +kernel
theorem dL_law_530 : decode cL_law 530 = .ok (.iconst 3, 1) := by decide +kernel
theorem dL_law_531 : decode cL_law 531 = .ok (.iadd, 1) := by decide +kernel
theorem dL_law_532 : decode cL_law 532 = .ok (.iaload, 1) := by decide +kernel
theorem dL_law_533 : decode cL_law 533 = .ok (.invokevirtual 59, 3) := by decide +kernel
theorem dL_law_536 : decode cL_law 536 = .ok (.if_icmp .eq 728, 3) := by decide +kernel
theorem dL_law_539 : decode cL_law 539 = .ok (.iconst 0, 1) := by decide +kernel
theorem dL_law_540 : decode cL_law 540 = .ok (.ireturn, 1) := by decide +kernel
theorem dL_law_541 : decode cL_law 541 = .ok (.aload_n 1, 1) := by decide +kernel
theorem dL_law_542 : decode cL_law 542 = .ok (.aload_n 0, 1) := by decide +kernel
theorem dL_law_543 : decode cL_law 543 = .ok (.iload_n 3, 1) := by decide +kernel
theorem dL_law_544 : decode cL_law 544 = .ok (.iconst 1, 1) := by decide +kernel
theorem dL_law_545 : decode cL_law 545 = .ok (.iadd, 1) := by decide +kernel
theorem dL_law_546 : decode cL_law 546 = .ok (.iaload, 1) := by decide +kernel
theorem dL_law_547 : decode cL_law 547 = .ok (.invokevirtual 60, 3) := by decide +kernel
theorem dL_law_550 : decode cL_law 550 = .ok (.aload_n 2, 1) := by decide +kernel
theorem dL_law_551 : decode cL_law 551 = .ok (.aload_n 0, 1) := by decide +kernel
theorem dL_law_552 : decode cL_law 552 = .ok (.iload_n 3, 1) := by decide +kernel
theorem dL_law_553 : decode cL_law 553 = .ok (.iconst 1, 1) := by decide +kernel
theorem dL_law_554 : decode cL_law 554 = .ok (.iadd, 1) := by decide +kernel
theorem dL_law_555 : decode cL_law 555 = .ok (.iaload, 1) := by decide +kernel
theorem dL_law_556 : decode cL_law 556 = .ok (.invokevirtual 63, 3) := by decide +kernel
theorem dL_law_559 : decode cL_law 559 = .ok (.if_icmp .eq 705, 3) := by decide +kernel
theorem dL_law_562 : decode cL_law 562 = .ok (.iconst 0, 1) := by decide +kernel
theorem dL_law_563 : decode cL_law 563 = .ok (.ireturn, 1) := by decide +kernel
theorem dL_law_564 : decode cL_law 564 = .ok (.aload_n 1, 1) := by decide +kernel
theorem dL_law_565 : decode cL_law 565 = .ok (.aload_n 0, 1) := by decide +kernel
theorem dL_law_566 : decode cL_law 566 = .ok (.iload_n 3, 1) := by decide +kernel
theorem dL_law_567 : decode cL_law 567 = .ok (.iconst 1, 1) := by decide +kernel
theorem dL_law_568 : decode cL_law 568 = .ok (.iadd, 1) := by decide +kernel
theorem dL_law_569 : decode cL_law 569 = .ok (.iaload, 1) := by decide +kernel
theorem dL_law_570 : decode cL_law 570 = .ok (.aload_n 0, 1) := by decide +kernel
theorem dL_law_571 : decode cL_law 571 = .ok (.iload_n 3, 1) := by decide +kernel
theorem dL_law_572 : decode cL_law 572 = .ok (.iconst 2, 1) := by decide +kernel
theorem dL_law_573 : decode cL_law 573 = .ok (.iadd, 1) := by decide +kernel
theorem dL_law_574 : decode cL_law 574 = .ok (.iaload, 1) := by decide +kernel
theorem dL_law_575 : decode cL_law 575 = .ok (.invokevirtual 64, 3) := by decide +kernel
theorem dL_law_578 : decode cL_law 578 = .ok (.aload_n 2, 1) := by decide +kernel
theorem dL_law_579 : decode cL_law 579 = .ok (.aload_n 0, 1) := by decide +kernel
theorem dL_law_580 : decode cL_law 580 = .ok (.iload_n 3, 1) := by decide +kernel
theorem dL_law_581 : decode cL_law 581 = .ok (.iconst 1, 1) := by decide +kernel
theorem dL_law_582 : decode cL_law 582 = .ok (.iadd, 1) := by decide +kernel
theorem dL_law_583 : decode cL_law 583 = .ok (.iaload, 1) := by decide +kernel
theorem dL_law_584 : decode cL_law 584 = .ok (.aload_n 0, 1) := by decide +kernel
theorem dL_law_585 : decode cL_law 585 = .ok (.iload_n 3, 1) := by decide +kernel
theorem dL_law_586 : decode cL_law 586 = .ok (.iconst 2, 1) := by decide +kernel
theorem dL_law_587 : decode cL_law 587 = .ok (.iadd, 1) := by decide +kernel
theorem dL_law_588 : decode cL_law 588 = .ok (.iaload, 1) := by decide +kernel
theorem dL_law_589 : decode cL_law 589 = .ok (.invokevirtual 67, 3) := by decide +kernel
theorem dL_law_592 : decode cL_law 592 = .ok (.if_icmp .eq 672, 3) := by decide +kernel
theorem dL_law_595 : decode cL_law 595 = .ok (.iconst 0, 1) := by decide +kernel
theorem dL_law_596 : decode cL_law 596 = .ok (.ireturn, 1) := by decide +kernel
theorem dL_law_597 : decode cL_law 597 = .ok (.aload_n 1, 1) := by decide +kernel
theorem dL_law_598 : decode cL_law 598 = .ok (.aload_n 0, 1) := by decide +kernel
theorem dL_law_599 : decode cL_law 599 = .ok (.iload_n 3, 1) := by decide +kernel
theorem dL_law_600 : decode cL_law 600 = .ok (.iconst 1, 1) := by decide +kernel
theorem dL_law_601 : decode cL_law 601 = .ok (.iadd, 1) := by decide +kernel
theorem dL_law_602 : decode cL_law 602 = .ok (.iaload, 1) := by decide +kernel
theorem dL_law_603 : decode cL_law 603 = .ok (.invokevirtual 68, 3) := by decide +kernel
theorem dL_law_606 : decode cL_law 606 = .ok (.aload_n 2, 1) := by decide +kernel
theorem dL_law_607 : decode cL_law 607 = .ok (.aload_n 0, 1) := by decide +kernel
theorem dL_law_608 : decode cL_law 608 = .ok (.iload_n 3, 1) := by decide +kernel
theorem dL_law_609 : decode cL_law 609 = .ok (.iconst 1, 1) := by decide +kernel
theorem dL_law_610 : decode cL_law 610 = .ok (.iadd, 1) := by decide +kernel
theorem dL_law_611 : decode cL_law 611 = .ok (.iaload, 1) := by decide +kernel
theorem dL_law_612 : decode cL_law 612 = .ok (.invokevirtual 71, 3) := by decide +kernel
theorem dL_law_615 : decode cL_law 615 = .ok (.if_icmp .eq 649, 3) := by decide +kernel
theorem dL_law_618 : decode cL_law 618 = .ok (.iconst 0, 1) := by decide +kernel
theorem dL_law_619 : decode cL_law 619 = .ok (.ireturn, 1) := by decide +kernel
theorem dL_law_620 : decode cL_law 620 = .ok (.aload_n 1, 1) := by decide +kernel
theorem dL_law_621 : decode cL_law 621 = .ok (.aload_n 0, 1) := by decide +kernel
theorem dL_law_622 : decode cL_law 622 = .ok (.iload_n 3, 1) := by decide +kernel
theorem dL_law_623 : decode cL_law 623 = .ok (.iconst 1, 1) := by decide +kernel
theorem dL_law_624 : decode cL_law 624 = .ok (.iadd, 1) := by decide +kernel
theorem dL_law_625 : decode cL_law 625 = .ok (.iaload, 1) := by decide +kernel
theorem dL_law_626 : decode cL_law 626 = .ok (.aload_n 0, 1) := by decide +kernel
theorem dL_law_627 : decode cL_law 627 = .ok (.iload_n 3, 1) := by decide +kernel
theorem dL_law_628 : decode cL_law 628 = .ok (.iconst 2, 1) := by decide +kernel
theorem dL_law_629 : decode cL_law 629 = .ok (.iadd, 1) := by decide +kernel
theorem dL_law_630 : decode cL_law 630 = .ok (.iaload, 1) := by decide +kernel
theorem dL_law_631 : decode cL_law 631 = .ok (.invokevirtual 72, 3) := by decide +kernel
theorem dL_law_634 : decode cL_law 634 = .ok (.aload_n 2, 1) := by decide +kernel
theorem dL_law_635 : decode cL_law 635 = .ok (.aload_n 0, 1) := by decide +kernel
theorem dL_law_636 : decode cL_law 636 = .ok (.iload_n 3, 1) := by decide +kernel
theorem dL_law_637 : decode cL_law 637 = .ok (.iconst 1, 1) := by decide +kernel
theorem dL_law_638 : decode cL_law 638 = .ok (.iadd, 1) := by decide +kernel
theorem dL_law_639 : decode cL_law 639 = .ok (.iaload, 1) := by decide +kernel
theorem dL_law_640 : decode cL_law 640 = .ok (.aload_n 0, 1) := by decide +kernel
theorem dL_law_641 : decode cL_law 641 = .ok (.iload_n 3, 1) := by decide +kernel
theorem dL_law_642 : decode cL_law 642 = .ok (.iconst 2, 1) := by decide +kernel
theorem dL_law_643 : decode cL_law 643 = .ok (.iadd, 1) := by decide +kernel
theorem dL_law_644 : decode cL_law 644 = .ok (.iaload, 1) := by decide +kernel
theorem dL_law_645 : decode cL_law 645 = .ok (.invokevirtual 75, 3) := by decide +kernel
theorem dL_law_648 : decode cL_law 648 = .ok (.if_icmp .eq 616, 3) := by decide +kernel
theorem dL_law_651 : decode cL_law 651 = .ok (.iconst 0, 1) := by decide +kernel
theorem dL_law_652 : decode cL_law 652 = .ok (.ireturn, 1) := by decide +kernel
theorem dL_law_653 : decode cL_law 653 = .ok (.aload_n 1, 1) := by decide +kernel
theorem dL_law_654 : decode cL_law 654 = .ok (.aload_n 0, 1) := by decide +kernel
theorem dL_law_655 : decode cL_law 655 = .ok (.iload_n 3, 1) := by decide +kernel
theorem dL_law_656 : decode cL_law 656 = .ok (.iconst 1, 1) := by decide +kernel
theorem dL_law_657 : decode cL_law 657 = .ok (.iadd, 1) := by decide +kernel
theorem dL_law_658 : decode cL_law 658 = .ok (.iaload, 1) := by decide +kernel
theorem dL_law_659 : decode cL_law 659 = .ok (.aload_n 0, 1) := by decide +kernel
theorem dL_law_660 : decode cL_law 660 = .ok (.iload_n 3, 1) := by decide +kernel
theorem dL_law_661 : decode cL_law 661 = .ok (.iconst 2, 1) := by decide +kernel
theorem dL_law_662 : decode cL_law 662 = .ok (.iadd, 1) := by decide +kernel
theorem dL_law_663 : decode cL_law 663 = .ok (.iaload, 1) := by decide +kernel
theorem dL_law_664 : decode cL_law 664 = .ok (.invokevirtual 76, 3) := by decide +kernel
theorem dL_law_667 : decode cL_law 667 = .ok (.aload_n 2, 1) := by decide +kernel
theorem dL_law_668 : decode cL_law 668 = .ok (.aload_n 0, 1) := by decide +kernel
theorem dL_law_669 : decode cL_law 669 = .ok (.iload_n 3, 1) := by decide +kernel
theorem dL_law_670 : decode cL_law 670 = .ok (.iconst 1, 1) := by decide +kernel
theorem dL_law_671 : decode cL_law 671 = .ok (.iadd, 1) := by decide +kernel
theorem dL_law_672 : decode cL_law 672 = .ok (.iaload, 1) := by decide +kernel
theorem dL_law_673 : decode cL_law 673 = .ok (.aload_n 0, 1) := by decide +kernel
theorem dL_law_674 : decode cL_law 674 = .ok (.iload_n 3, 1) := by decide +kernel
theorem dL_law_675 : decode cL_law 675 = .ok (.iconst 2, 1) := by decide +kernel
theorem dL_law_676 : decode cL_law 676 = .ok (.iadd, 1) := by decide +kernel
theorem dL_law_677 : decode cL_law 677 = .ok (.iaload, 1) := by decide +kernel
theorem dL_law_678 : decode cL_law 678 = .ok (.invokevirtual 79, 3) := by decide +kernel
theorem dL_law_681 : decode cL_law 681 = .ok (.if_icmp .eq 583, 3) := by decide +kernel
theorem dL_law_684 : decode cL_law 684 = .ok (.iconst 0, 1) := by decide +kernel
theorem dL_law_685 : decode cL_law 685 = .ok (.ireturn, 1) := by decide +kernel
theorem dL_law_686 : decode cL_law 686 = .ok (.aload_n 1, 1) := by decide +kernel
theorem dL_law_687 : decode cL_law 687 = .ok (.aload_n 0, 1) := by decide +kernel
theorem dL_law_688 : decode cL_law 688 = .ok (.iload_n 3, 1) := by decide +kernel
theorem dL_law_689 : decode cL_law 689 = .ok (.iconst 1, 1) := by decide +kernel
theorem dL_law_690 : decode cL_law 690 = .ok (.iadd, 1) := by decide +kernel
theorem dL_law_691 : decode cL_law 691 = .ok (.iaload, 1) := by decide +kernel
theorem dL_law_692 : decode cL_law 692 = .ok (.aload_n 0, 1) := by decide +kernel
theorem dL_law_693 : decode cL_law 693 = .ok (.iload_n 3, 1) := by decide +kernel
theorem dL_law_694 : decode cL_law 694 = .ok (.iconst 2, 1) := by decide +kernel
theorem dL_law_695 : decode cL_law 695 = .ok (.iadd, 1) := by decide +kernel
theorem dL_law_696 : decode cL_law 696 = .ok (.iaload, 1) := by decide +kernel
theorem dL_law_697 : decode cL_law 697 = .ok (.invokevirtual 80, 3) := by decide +kernel
theorem dL_law_700 : decode cL_law 700 = .ok (.aload_n 2, 1) := by decide +kernel
theorem dL_law_701 : decode cL_law 701 = .ok (.aload_n 0, 1) := by decide +kernel
theorem dL_law_702 : decode cL_law 702 = .ok (.iload_n 3, 1) := by decide +kernel
theorem dL_law_703 : decode cL_law 703 = .ok (.iconst 1, 1) := by decide +kernel
theorem dL_law_704 : decode cL_law 704 = .ok (.iadd, 1) := by decide +kernel
theorem dL_law_705 : decode cL_law 705 = .ok (.iaload, 1) := by decide +kernel
theorem dL_law_706 : decode cL_law 706 = .ok (.aload_n 0, 1) := by decide +kernel
theorem dL_law_707 : decode cL_law 707 = .ok (.iload_n 3, 1) := by decide +kernel
theorem dL_law_708 : decode cL_law 708 = .ok (.iconst 2, 1) := by decide +kernel
theorem dL_law_709 : decode cL_law 709 = .ok (.iadd, 1) := by decide +kernel
theorem dL_law_710 : decode cL_law 710 = .ok (.iaload, 1) := by decide +kernel
theorem dL_law_711 : decode cL_law 711 = .ok (.invokevirtual 83, 3) := by decide +kernel
theorem dL_law_714 : decode cL_law 714 = .ok (.if_icmp .eq 550, 3) := by decide +kernel
theorem dL_law_717 : decode cL_law 717 = .ok (.iconst 0, 1) := by decide +kernel
theorem dL_law_718 : decode cL_law 718 = .ok (.ireturn, 1) := by decide +kernel
theorem dL_law_719 : decode cL_law 719 = .ok (.aload_n 1, 1) := by decide +kernel
theorem dL_law_720 : decode cL_law 720 = .ok (.aload_n 0, 1) := by decide +kernel
theorem dL_law_721 : decode cL_law 721 = .ok (.iload_n 3, 1) := by decide +kernel
theorem dL_law_722 : decode cL_law 722 = .ok (.iconst 1, 1) := by decide +kernel
theorem dL_law_723 : decode cL_law 723 = .ok (.iadd, 1) := by decide +kernel
theorem dL_law_724 : decode cL_law 724 = .ok (.iaload, 1) := by decide +kernel
theorem dL_law_725 : decode cL_law 725 = .ok (.aload_n 0, 1) := by decide +kernel
theorem dL_law_726 : decode cL_law 726 = .ok (.iload_n 3, 1) := by decide +kernel
theorem dL_law_727 : decode cL_law 727 = .ok (.iconst 2, 1) := by decide +kernel
theorem dL_law_728 : decode cL_law 728 = .ok (.iadd, 1) := by decide +kernel
theorem dL_law_729 : decode cL_law 729 = .ok (.iaload, 1) := by decide +kernel
theorem dL_law_730 : decode cL_law 730 = .ok (.aload_n 0, 1) := by decide +kernel
theorem dL_law_731 : decode cL_law 731 = .ok (.iload_n 3, 1) := by decide +kernel
theorem dL_law_732 : decode cL_law 732 = .ok (.iconst 3, 1) := by decide +kernel
theorem dL_law_733 : decode cL_law 733 = .ok (.iadd, 1) := by decide +kernel
theorem dL_law_734 : decode cL_law 734 = .ok (.iaload, 1) := by decide +kernel
theorem dL_law_735 : decode cL_law 735 = .ok (.invokevirtual 84, 3) := by decide +kernel
theorem dL_law_738 : decode cL_law 738 = .ok (.aload_n 2, 1) := by decide +kernel
theorem dL_law_739 : decode cL_law 739 = .ok (.aload_n 0, 1) := by decide +kernel
theorem dL_law_740 : decode cL_law 740 = .ok (.iload_n 3, 1) := by decide +kernel
theorem dL_law_741 : decode cL_law 741 = .ok (.iconst 1, 1) := by decide +kernel
theorem dL_law_742 : decode cL_law 742 = .ok (.iadd, 1) := by decide +kernel
theorem dL_law_743 : decode cL_law 743 = .ok (.iaload, 1) := by decide +kernel
theorem dL_law_744 : decode cL_law 744 = .ok (.aload_n 0, 1) := by decide +kernel
theorem dL_law_745 : decode cL_law 745 = .ok (.iload_n 3, 1) := by decide +kernel
theorem dL_law_746 : decode cL_law 746 = .ok (.iconst 2, 1) := by decide +kernel
theorem dL_law_747 : decode cL_law 747 = .ok (.iadd, 1) := by decide +kernel
theorem dL_law_748 : decode cL_law 748 = .ok (.iaload, 1) := by decide +kernel
theorem dL_law_749 : decode cL_law 749 = .ok (.aload_n 0, 1) := by decide +kernel
theorem dL_law_750 : decode cL_law 750 = .ok (.iload_n 3, 1) := by decide +kernel
theorem dL_law_751 : decode cL_law 751 = .ok (.iconst 3, 1) := by decide +kernel
theorem dL_law_752 : decode cL_law 752 = .ok (.iadd, 1) := by decide +kernel
theorem dL_law_753 : decode cL_law 753 = .ok (.iaload, 1) := by decide +kernel
theorem dL_law_754 : decode cL_law 754 = .ok (.invokevirtual 87, 3) := by decide +kernel
theorem dL_law_757 : decode cL_law 757 = .ok (.if_icmp .eq 507, 3) := by decide +kernel
theorem dL_law_760 : decode cL_law 760 = .ok (.iconst 0, 1) := by decide +kernel
theorem dL_law_761 : decode cL_law 761 = .ok (.ireturn, 1) := by decide +kernel
theorem dL_law_762 : decode cL_law 762 = .ok (.aload_n 1, 1) := by decide +kernel
theorem dL_law_763 : decode cL_law 763 = .ok (.aload_n 0, 1) := by decide +kernel
theorem dL_law_764 : decode cL_law 764 = .ok (.iload_n 3, 1) := by decide +kernel
theorem dL_law_765 : decode cL_law 765 = .ok (.iconst 1, 1) := by decide +kernel
theorem dL_law_766 : decode cL_law 766 = .ok (.iadd, 1) := by decide +kernel
theorem dL_law_767 : decode cL_law 767 = .ok (.iaload, 1) := by decide +kernel
theorem dL_law_768 : decode cL_law 768 = .ok (.aload_n 0, 1) := by decide +kernel
theorem dL_law_769 : decode cL_law 769 = .ok (.iload_n 3, 1) := by decide +kernel
theorem dL_law_770 : decode cL_law 770 = .ok (.iconst 2, 1) := by decide +kernel
theorem dL_law_771 : decode cL_law 771 = .ok (.iadd, 1) := by decide +kernel
theorem dL_law_772 : decode cL_law 772 = .ok (.iaload, 1) := by decide +kernel
theorem dL_law_773 : decode cL_law 773 = .ok (.invokevirtual 88, 3) := by decide +kernel
theorem dL_law_776 : decode cL_law 776 = .ok (.aload_n 2, 1) := by decide +kernel
theorem dL_law_777 : decode cL_law 777 = .ok (.aload_n 0, 1) := by decide +kernel
theorem dL_law_778 : decode cL_law 778 = .ok (.iload_n 3, 1) := by decide +kernel
theorem dL_law_779 : decode cL_law 779 = .ok (.iconst 1, 1) := by decide +kernel
theorem dL_law_780 : decode cL_law 780 = .ok (.iadd, 1) := by decide +kernel
theorem dL_law_781 : decode cL_law 781 = .ok (.iaload, 1) := by decide +kernel
theorem dL_law_782 : decode cL_law 782 = .ok (.aload_n 0, 1) := by decide +kernel
theorem dL_law_783 : decode cL_law 783 = .ok (.iload_n 3, 1) := by decide +kernel
theorem dL_law_784 : decode cL_law 784 = .ok (.iconst 2, 1) := by decide +kernel
theorem dL_law_785 : decode cL_law 785 = .ok (.iadd, 1) := by decide +kernel
theorem dL_law_786 : decode cL_law 786 = .ok (.iaload, 1) := by decide +kernel
theorem dL_law_787 : decode cL_law 787 = .ok (.invokevirtual 91, 3) := by decide +kernel
theorem dL_law_790 : decode cL_law 790 = .ok (.if_icmp .eq 474, 3) := by decide +kernel
theorem dL_law_793 : decode cL_law 793 = .ok (.iconst 0, 1) := by decide +kernel
theorem dL_law_794 : decode cL_law 794 = .ok (.ireturn, 1) := by decide +kernel
theorem dL_law_795 : decode cL_law 795 = .ok (.aload_n 1, 1) := by decide +kernel
theorem dL_law_796 : decode cL_law 796 = .ok (.aload_n 0, 1) := by decide +kernel
theorem dL_law_797 : decode cL_law 797 = .ok (.iload_n 3, 1) := by decide +kernel
theorem dL_law_798 : decode cL_law 798 = .ok (.iconst 1, 1) := by decide +kernel
theorem dL_law_799 : decode cL_law 799 = .ok (.iadd, 1) := by decide +kernel
theorem dL_law_800 : decode cL_law 800 = .ok (.iaload, 1) := by decide +kernel
theorem dL_law_801 : decode cL_law 801 = .ok (.aload_n 0, 1) := by decide +kernel
theorem dL_law_802 : decode cL_law 802 = .ok (.iload_n 3, 1) := by decide +kernel
theorem dL_law_803 : decode cL_law 803 = .ok (.iconst 2, 1) := by decide +kernel
theorem dL_law_804 : decode cL_law 804 = .ok (.iadd, 1) := by decide +kernel
theorem dL_law_805 : decode cL_law 805 = .ok (.iaload, 1) := by decide +kernel
theorem dL_law_806 : decode cL_law 806 = .ok (.invokevirtual 92, 3) := by decide +kernel
theorem dL_law_809 : decode cL_law 809 = .ok (.aload_n 2, 1) := by decide +kernel
theorem dL_law_810 : decode cL_law 810 = .ok (.aload_n 0, 1) := by decide +kernel
theorem dL_law_811 : decode cL_law 811 = .ok (.iload_n 3, 1) := by decide +kernel
theorem dL_law_812 : decode cL_law 812 = .ok (.iconst 1, 1) := by decide +kernel
theorem dL_law_813 : decode cL_law 813 = .ok (.iadd, 1) := by decide +kernel
theorem dL_law_814 : decode cL_law 814 = .ok (.iaload, 1) := by decide +kernel
theorem dL_law_815 : decode cL_law 815 = .ok (.aload_n 0, 1) := by decide +kernel
theorem dL_law_816 : decode cL_law 816 = .ok (.iload_n 3, 1) := by decide +kernel
theorem dL_law_817 : decode cL_law 817 = .ok (.iconst 2, 1) := by decide +kernel
theorem dL_law_818 : decode cL_law 818 = .ok (.iadd, 1) := by decide +kernel
theorem dL_law_819 : decode cL_law 819 = .ok (.iaload, 1) := by decide +kernel
theorem dL_law_820 : decode cL_law 820 = .ok (.invokevirtual 95, 3) := by decide +kernel
theorem dL_law_823 : decode cL_law 823 = .ok (.if_icmp .eq 441, 3) := by decide +kernel
theorem dL_law_826 : decode cL_law 826 = .ok (.iconst 0, 1) := by decide +kernel
theorem dL_law_827 : decode cL_law 827 = .ok (.ireturn, 1) := by decide +kernel
theorem dL_law_828 : decode cL_law 828 = .ok (.aload_n 1, 1) := by decide +kernel
theorem dL_law_829 : decode cL_law 829 = .ok (.aload_n 0, 1) := by decide +kernel
theorem dL_law_830 : decode cL_law 830 = .ok (.iload_n 3, 1) := by decide +kernel
theorem dL_law_831 : decode cL_law 831 = .ok (.iconst 1, 1) := by decide +kernel
theorem dL_law_832 : decode cL_law 832 = .ok (.iadd, 1) := by decide +kernel
theorem dL_law_833 : decode cL_law 833 = .ok (.iaload, 1) := by decide +kernel
theorem dL_law_834 : decode cL_law 834 = .ok (.invokevirtual 96, 3) := by decide +kernel
theorem dL_law_837 : decode cL_law 837 = .ok (.aload_n 2, 1) := by decide +kernel
theorem dL_law_838 : decode cL_law 838 = .ok (.aload_n 0, 1) := by decide +kernel
theorem dL_law_839 : decode cL_law 839 = .ok (.iload_n 3, 1) := by decide +kernel
theorem dL_law_840 : decode cL_law 840 = .ok (.iconst 1, 1) := by decide +kernel
theorem dL_law_841 : decode cL_law 841 = .ok (.iadd, 1) := by decide +kernel
theorem dL_law_842 : decode cL_law 842 = .ok (.iaload, 1) := by decide +kernel
theorem dL_law_843 : decode cL_law 843 = .ok (.invokevirtual 99, 3) := by decide +kernel
theorem dL_law_846 : decode cL_law 846 = .ok (.if_icmp .eq 418, 3) := by decide +kernel
theorem dL_law_849 : decode cL_law 849 = .ok (.iconst 0, 1) := by decide +kernel
theorem dL_law_850 : decode cL_law 850 = .ok (.ireturn, 1) := by decide +kernel
theorem dL_law_851 : decode cL_law 851 = .ok (.aload_n 1, 1) := by decide +kernel
theorem dL_law_852 : decode cL_law 852 = .ok (.aload_n 0, 1) := by decide +kernel
theorem dL_law_853 : decode cL_law 853 = .ok (.iload_n 3, 1) := by decide +kernel
theorem dL_law_854 : decode cL_law 854 = .ok (.iconst 1, 1) := by decide +kernel
theorem dL_law_855 : decode cL_law 855 = .ok (.iadd, 1) := by decide +kernel
theorem dL_law_856 : decode cL_law 856 = .ok (.iaload, 1) := by decide +kernel
theorem dL_law_857 : decode cL_law 857 = .ok (.aload_n 0, 1) := by decide +kernel
theorem dL_law_858 : decode cL_law 858 = .ok (.iload_n 3, 1) := by decide +kernel
theorem dL_law_859 : decode cL_law 859 = .ok (.iconst 2, 1) := by decide +kernel
theorem dL_law_860 : decode cL_law 860 = .ok (.iadd, 1) := by decide +kernel
theorem dL_law_861 : decode cL_law 861 = .ok (.iaload, 1) := by decide +kernel
theorem dL_law_862 : decode cL_law 862 = .ok (.invokevirtual 100, 3) := by decide +kernel
theorem dL_law_865 : decode cL_law 865 = .ok (.aload_n 2, 1) := by decide +kernel
theorem dL_law_866 : decode cL_law 866 = .ok (.aload_n 0, 1) := by decide +kernel
theorem dL_law_867 : decode cL_law 867 = .ok (.iload_n 3, 1) := by decide +kernel
theorem dL_law_868 : decode cL_law 868 = .ok (.iconst 1, 1) := by decide +kernel
theorem dL_law_869 : decode cL_law 869 = .ok (.iadd, 1) := by decide +kernel
theorem dL_law_870 : decode cL_law 870 = .ok (.iaload, 1) := by decide +kernel
theorem dL_law_871 : decode cL_law 871 = .ok (.aload_n 0, 1) := by decide +kernel
theorem dL_law_872 : decode cL_law 872 = .ok (.iload_n 3, 1) := by decide +kernel
theorem dL_law_873 : decode cL_law 873 = .ok (.iconst 2, 1) := by decide +kernel
theorem dL_law_874 : decode cL_law 874 = .ok (.iadd, 1) := by decide +kernel
theorem dL_law_875 : decode cL_law 875 = .ok (.iaload, 1) := by decide +kernel
theorem dL_law_876 : decode cL_law 876 = .ok (.invokevirtual 103, 3) := by decide +kernel
theorem dL_law_879 : decode cL_law 879 = .ok (.if_icmp .eq 385, 3) := by decide +kernel
theorem dL_law_882 : decode cL_law 882 = .ok (.iconst 0, 1) := by decide +kernel
theorem dL_law_883 : decode cL_law 883 = .ok (.ireturn, 1) := by decide +kernel
theorem dL_law_884 : decode cL_law 884 = .ok (.aload_n 1, 1) := by decide +kernel
theorem dL_law_885 : decode cL_law 885 = .ok (.invokevirtual 104, 3) := by decide +kernel
theorem dL_law_888 : decode cL_law 888 = .ok (.aload_n 2, 1) := by decide +kernel
theorem dL_law_889 : decode cL_law 889 = .ok (.invokevirtual 108, 3) := by decide +kernel
theorem dL_law_892 : decode cL_law 892 = .ok (.if_icmp .eq 372, 3) := by decide +kernel
theorem dL_law_895 : decode cL_law 895 = .ok (.iconst 0, 1) := by decide +kernel
theorem dL_law_896 : decode cL_law 896 = .ok (.ireturn, 1) := by decide +kernel
theorem dL_law_897 : decode cL_law 897 = .ok (.aload_n 1, 1) := by decide +kernel
theorem dL_law_898 : decode cL_law 898 = .ok (.invokevirtual 109, 3) := by decide +kernel
theorem dL_law_901 : decode cL_law 901 = .ok (.aload_n 2, 1) := by decide +kernel
theorem dL_law_902 : decode cL_law 902 = .ok (.invokevirtual 112, 3) := by decide +kernel
theorem dL_law_905 : decode cL_law 905 = .ok (.if_icmp .eq 359, 3) := by decide +kernel
theorem dL_law_908 : decode cL_law 908 = .ok (.iconst 0, 1) := by decide +kernel
theorem dL_law_909 : decode cL_law 909 = .ok (.ireturn, 1) := by decide +kernel
theorem dL_law_910 : decode cL_law 910 = .ok (.aload_n 1, 1) := by decide +kernel
theorem dL_law_911 : decode cL_law 911 = .ok (.aload_n 0, 1) := by decide +kernel
theorem dL_law_912 : decode cL_law 912 = .ok (.iload_n 3, 1) := by decide +kernel
theorem dL_law_913 : decode cL_law 913 = .ok (.iconst 1, 1) := by decide +kernel
theorem dL_law_914 : decode cL_law 914 = .ok (.iadd, 1) := by decide +kernel
theorem dL_law_915 : decode cL_law 915 = .ok (.iaload, 1) := by decide +kernel
theorem dL_law_916 : decode cL_law 916 = .ok (.aload_n 0, 1) := by decide +kernel
theorem dL_law_917 : decode cL_law 917 = .ok (.iload_n 3, 1) := by decide +kernel
theorem dL_law_918 : decode cL_law 918 = .ok (.iconst 2, 1) := by decide +kernel
theorem dL_law_919 : decode cL_law 919 = .ok (.iadd, 1) := by decide +kernel
theorem dL_law_920 : decode cL_law 920 = .ok (.iaload, 1) := by decide +kernel
theorem dL_law_921 : decode cL_law 921 = .ok (.aload_n 0, 1) := by decide +kernel
theorem dL_law_922 : decode cL_law 922 = .ok (.iload_n 3, 1) := by decide +kernel
theorem dL_law_923 : decode cL_law 923 = .ok (.iconst 3, 1) := by decide +kernel
theorem dL_law_924 : decode cL_law 924 = .ok (.iadd, 1) := by decide +kernel
theorem dL_law_925 : decode cL_law 925 = .ok (.iaload, 1) := by decide +kernel
theorem dL_law_926 : decode cL_law 926 = .ok (.invokevirtual 113, 3) := by decide +kernel
theorem dL_law_929 : decode cL_law 929 = .ok (.aload_n 2, 1) := by decide +kernel
theorem dL_law_930 : decode cL_law 930 = .ok (.aload_n 0, 1) := by decide +kernel
theorem dL_law_931 : decode cL_law 931 = .ok (.iload_n 3, 1) := by decide +kernel
theorem dL_law_932 : decode cL_law 932 = .ok (.iconst 1, 1) := by decide +kernel
theorem dL_law_933 : decode cL_law 933 = .ok (.iadd, 1) := by decide +kernel
theorem dL_law_934 : decode cL_law 934 = .ok (.iaload, 1) := by decide +kernel
theorem dL_law_935 : decode cL_law 935 = .ok (.aload_n 0, 1) := by decide +kernel
theorem dL_law_936 : decode cL_law 936 = .ok (.iload_n 3, 1) := by decide +kernel
theorem dL_law_937 : decode cL_law 937 = .ok (.iconst 2, 1) := by decide +kernel
theorem dL_law_938 : decode cL_law 938 = .ok (.iadd, 1) := by decide +kernel
theorem dL_law_939 : decode cL_law 939 = .ok (.iaload, 1) := by decide +kernel
theorem dL_law_940 : decode cL_law 940 = .ok (.aload_n 0, 1) := by decide +kernel
theorem dL_law_941 : decode cL_law 941 = .ok (.iload_n 3, 1) := by decide +kernel
theorem dL_law_942 : decode cL_law 942 = .ok (.iconst 3, 1) := by decide +kernel
theorem dL_law_943 : decode cL_law 943 = .ok (.iadd, 1) := by decide +kernel
theorem dL_law_944 : decode cL_law 944 = .ok (.iaload, 1) := by decide +kernel
theorem dL_law_945 : decode cL_law 945 = .ok (.invokevirtual 116, 3) := by decide +kernel
theorem dL_law_948 : decode cL_law 948 = .ok (.if_icmp .eq 316, 3) := by decide +kernel
theorem dL_law_951 : decode cL_law 951 = .ok (.iconst 0, 1) := by decide +kernel
theorem dL_law_952 : decode cL_law 952 = .ok (.ireturn, 1) := by decide +kernel
theorem dL_law_953 : decode cL_law 953 = .ok (.aload_n 1, 1) := by decide +kernel
theorem dL_law_954 : decode cL_law 954 = .ok (.aload_n 0, 1) := by decide +kernel
theorem dL_law_955 : decode cL_law 955 = .ok (.iload_n 3, 1) := by decide +kernel
theorem dL_law_956 : decode cL_law 956 = .ok (.iconst 1, 1) := by decide +kernel
theorem dL_law_957 : decode cL_law 957 = .ok (.iadd, 1) := by decide +kernel
theorem dL_law_958 : decode cL_law 958 = .ok (.iaload, 1) := by decide +kernel
theorem dL_law_959 : decode cL_law 959 = .ok (.aload_n 0, 1) := by decide +kernel
theorem dL_law_960 : decode cL_law 960 = .ok (.iload_n 3, 1) := by decide +kernel
theorem dL_law_961 : decode cL_law 961 = .ok (.iconst 2, 1) := by decide +kernel
theorem dL_law_962 : decode cL_law 962 = .ok (.iadd, 1) := by decide +kernel
theorem dL_law_963 : decode cL_law 963 = .ok (.iaload, 1) := by decide +kernel
theorem dL_law_964 : decode cL_law 964 = .ok (.aload_n 0, 1) := by decide +kernel
theorem dL_law_965 : decode cL_law 965 = .ok (.iload_n 3, 1) := by decide +kernel
theorem dL_law_966 : decode cL_law 966 = .ok (.iconst 3, 1) := by decide +kernel
theorem dL_law_967 : decode cL_law 967 = .ok (.iadd, 1) := by decide +kernel
theorem dL_law_968 : decode cL_law 968 = .ok (.iaload, 1) := by decide +kernel
theorem dL_law_969 : decode cL_law 969 = .ok (.i2l, 1) := by decide +kernel
theorem dL_law_970 : decode cL_law 970 = .ok (.bipush 32, 2) := by decide +kernel
theorem dL_law_972 : decode cL_law 972 = .ok (.lshl, 1) := by decide +kernel
theorem dL_law_973 : decode cL_law 973 = .ok (.aload_n 0, 1) := by decide +kernel
theorem dL_law_974 : decode cL_law 974 = .ok (.iload_n 3, 1) := by decide +kernel
theorem dL_law_975 : decode cL_law 975 = .ok (.iconst 4, 1) := by decide +kernel
theorem dL_law_976 : decode cL_law 976 = .ok (.iadd, 1) := by decide +kernel
theorem dL_law_977 : decode cL_law 977 = .ok (.iaload, 1) := by decide +kernel
theorem dL_law_978 : decode cL_law 978 = .ok (.i2l, 1) := by decide +kernel
theorem dL_law_979 : decode cL_law 979 = .ok (.ldc2_w 117, 3) := by decide +kernel
theorem dL_law_982 : decode cL_law 982 = .ok (.land, 1) := by decide +kernel
theorem dL_law_983 : decode cL_law 983 = .ok (.lor, 1) := by decide +kernel
theorem dL_law_984 : decode cL_law 984 = .ok (.invokevirtual 119, 3) := by decide +kernel
theorem dL_law_987 : decode cL_law 987 = .ok (.aload_n 2, 1) := by decide +kernel
theorem dL_law_988 : decode cL_law 988 = .ok (.aload_n 0, 1) := by decide +kernel
theorem dL_law_989 : decode cL_law 989 = .ok (.iload_n 3, 1) := by decide +kernel
theorem dL_law_990 : decode cL_law 990 = .ok (.iconst 1, 1) := by decide +kernel
theorem dL_law_991 : decode cL_law 991 = .ok (.iadd, 1) := by decide +kernel
theorem dL_law_992 : decode cL_law 992 = .ok (.iaload, 1) := by decide +kernel
theorem dL_law_993 : decode cL_law 993 = .ok (.aload_n 0, 1) := by decide +kernel
theorem dL_law_994 : decode cL_law 994 = .ok (.iload_n 3, 1) := by decide +kernel
theorem dL_law_995 : decode cL_law 995 = .ok (.iconst 2, 1) := by decide +kernel
theorem dL_law_996 : decode cL_law 996 = .ok (.iadd, 1) := by decide +kernel
theorem dL_law_997 : decode cL_law 997 = .ok (.iaload, 1) := by decide +kernel
theorem dL_law_998 : decode cL_law 998 = .ok (.aload_n 0, 1) := by decide +kernel
theorem dL_law_999 : decode cL_law 999 = .ok (.iload_n 3, 1) := by decide +kernel
theorem dL_law_1000 : decode cL_law 1000 = .ok (.iconst 3, 1) := by decide +kernel
theorem dL_law_1001 : decode cL_law 1001 = .ok (.iadd, 1) := by decide +kernel
theorem dL_law_1002 : decode cL_law 1002 = .ok (.iaload, 1) := by decide +kernel
theorem dL_law_1003 : decode cL_law 1003 = .ok (.i2l, 1) := by decide +kernel
theorem dL_law_1004 : decode cL_law 1004 = .ok (.bipush 32, 2) := by decide +kernel
theorem dL_law_1006 : decode cL_law 1006 = .ok (.lshl, 1) := by decide +kernel
theorem dL_law_1007 : decode cL_law 1007 = .ok (.aload_n 0, 1) := by decide +kernel
theorem dL_law_1008 : decode cL_law 1008 = .ok (.iload_n 3, 1) := by decide +kernel
theorem dL_law_1009 : decode cL_law 1009 = .ok (.iconst 4, 1) := by decide +kernel
theorem dL_law_1010 : decode cL_law 1010 = .ok (.iadd, 1) := by decide +kernel
theorem dL_law_1011 : decode cL_law 1011 = .ok (.iaload, 1) := by decide +kernel
theorem dL_law_1012 : decode cL_law 1012 = .ok (.i2l, 1) := by decide +kernel
theorem dL_law_1013 : decode cL_law 1013 = .ok (.ldc2_w 117, 3) := by decide +kernel
theorem dL_law_1016 : decode cL_law 1016 = .ok (.land, 1) := by decide +kernel
theorem dL_law_1017 : decode cL_law 1017 = .ok (.lor, 1) := by decide +kernel
theorem dL_law_1018 : decode cL_law 1018 = .ok (.invokevirtual 123, 3) := by decide +kernel
theorem dL_law_1021 : decode cL_law 1021 = .ok (.lcmp, 1) := by decide +kernel
theorem dL_law_1022 : decode cL_law 1022 = .ok (.ifCond .eq 242, 3) := by decide +kernel
theorem dL_law_1025 : decode cL_law 1025 = .ok (.iconst 0, 1) := by decide +kernel
theorem dL_law_1026 : decode cL_law 1026 = .ok (.ireturn, 1) := by decide +kernel
theorem dL_law_1027 : decode cL_law 1027 = .ok (.aload_n 1, 1) := by decide +kernel
theorem dL_law_1028 : decode cL_law 1028 = .ok (.aload_n 0, 1) := by decide +kernel
theorem dL_law_1029 : decode cL_law 1029 = .ok (.iload_n 3, 1) := by decide +kernel
theorem dL_law_1030 : decode cL_law 1030 = .ok (.iconst 1, 1) := by decide +kernel
theorem dL_law_1031 : decode cL_law 1031 = .ok (.iadd, 1) := by decide +kernel
theorem dL_law_1032 : decode cL_law 1032 = .ok (.iaload, 1) := by decide +kernel
theorem dL_law_1033 : decode cL_law 1033 = .ok (.aload_n 0, 1) := by decide +kernel
theorem dL_law_1034 : decode cL_law 1034 = .ok (.iload_n 3, 1) := by decide +kernel
theorem dL_law_1035 : decode cL_law 1035 = .ok (.iconst 2, 1) := by decide +kernel
theorem dL_law_1036 : decode cL_law 1036 = .ok (.iadd, 1) := by decide +kernel
theorem dL_law_1037 : decode cL_law 1037 = .ok (.iaload, 1) := by decide +kernel
theorem dL_law_1038 : decode cL_law 1038 = .ok (.aload_n 0, 1) := by decide +kernel
theorem dL_law_1039 : decode cL_law 1039 = .ok (.iload_n 3, 1) := by decide +kernel
theorem dL_law_1040 : decode cL_law 1040 = .ok (.iconst 3, 1) := by decide +kernel
theorem dL_law_1041 : decode cL_law 1041 = .ok (.iadd, 1) := by decide +kernel
theorem dL_law_1042 : decode cL_law 1042 = .ok (.iaload, 1) := by decide +kernel
theorem dL_law_1043 : decode cL_law 1043 = .ok (.aload_n 0, 1) := by decide +kernel
theorem dL_law_1044 : decode cL_law 1044 = .ok (.iload_n 3, 1) := by decide +kernel
theorem dL_law_1045 : decode cL_law 1045 = .ok (.iconst 4, 1) := by decide +kernel
theorem dL_law_1046 : decode cL_law 1046 = .ok (.iadd, 1) := by decide +kernel
theorem dL_law_1047 : decode cL_law 1047 = .ok (.iaload, 1) := by decide +kernel
theorem dL_law_1048 : decode cL_law 1048 = .ok (.aload_n 0, 1) := by decide +kernel
theorem dL_law_1049 : decode cL_law 1049 = .ok (.iload_n 3, 1) := by decide +kernel
theorem dL_law_1050 : decode cL_law 1050 = .ok (.iconst 5, 1) := by decide +kernel
theorem dL_law_1051 : decode cL_law 1051 = .ok (.iadd, 1) := by decide +kernel
theorem dL_law_1052 : decode cL_law 1052 = .ok (.iaload, 1) := by decide +kernel
theorem dL_law_1053 : decode cL_law 1053 = .ok (.invokevirtual 124, 3) := by decide +kernel
theorem dL_law_1056 : decode cL_law 1056 = .ok (.aload_n 2, 1) := by decide +kernel
theorem dL_law_1057 : decode cL_law 1057 = .ok (.aload_n 0, 1) := by decide +kernel
theorem dL_law_1058 : decode cL_law 1058 = .ok (.iload_n 3, 1) := by decide +kernel
theorem dL_law_1059 : decode cL_law 1059 = .ok (.iconst 1, 1) := by decide +kernel
theorem dL_law_1060 : decode cL_law 1060 = .ok (.iadd, 1) := by decide +kernel
theorem dL_law_1061 : decode cL_law 1061 = .ok (.iaload, 1) := by decide +kernel
theorem dL_law_1062 : decode cL_law 1062 = .ok (.aload_n 0, 1) := by decide +kernel
theorem dL_law_1063 : decode cL_law 1063 = .ok (.iload_n 3, 1) := by decide +kernel
theorem dL_law_1064 : decode cL_law 1064 = .ok (.iconst 2, 1) := by decide +kernel
theorem dL_law_1065 : decode cL_law 1065 = .ok (.iadd, 1) := by decide +kernel
theorem dL_law_1066 : decode cL_law 1066 = .ok (.iaload, 1) := by decide +kernel
theorem dL_law_1067 : decode cL_law 1067 = .ok (.aload_n 0, 1) := by decide +kernel
theorem dL_law_1068 : decode cL_law 1068 = .ok (.iload_n 3, 1) := by decide +kernel
theorem dL_law_1069 : decode cL_law 1069 = .ok (.iconst 3, 1) := by decide +kernel
theorem dL_law_1070 : decode cL_law 1070 = .ok (.iadd, 1) := by decide +kernel
theorem dL_law_1071 : decode cL_law 1071 = .ok (.iaload, 1) := by decide +kernel
theorem dL_law_1072 : decode cL_law 1072 = .ok (.aload_n 0, 1) := by decide +kernel
theorem dL_law_1073 : decode cL_law 1073 = .ok (.iload_n 3, 1) := by decide +kernel
theorem dL_law_1074 : decode cL_law 1074 = .ok (.iconst 4, 1) := by decide +kernel
theorem dL_law_1075 : decode cL_law 1075 = .ok (.iadd, 1) := by decide +kernel
theorem dL_law_1076 : decode cL_law 1076 = .ok (.iaload, 1) := by decide +kernel
theorem dL_law_1077 : decode cL_law 1077 = .ok (.aload_n 0, 1) := by decide +kernel
theorem dL_law_1078 : decode cL_law 1078 = .ok (.iload_n 3, 1) := by decide +kernel
theorem dL_law_1079 : decode cL_law 1079 = .ok (.iconst 5, 1) := by decide +kernel
theorem dL_law_1080 : decode cL_law 1080 = .ok (.iadd, 1) := by decide +kernel
theorem dL_law_1081 : decode cL_law 1081 = .ok (.iaload, 1) := by decide +kernel
theorem dL_law_1082 : decode cL_law 1082 = .ok (.invokevirtual 128, 3) := by decide +kernel
theorem dL_law_1085 : decode cL_law 1085 = .ok (.if_icmp .eq 179, 3) := by decide +kernel
theorem dL_law_1088 : decode cL_law 1088 = .ok (.iconst 0, 1) := by decide +kernel
theorem dL_law_1089 : decode cL_law 1089 = .ok (.ireturn, 1) := by decide +kernel
theorem dL_law_1090 : decode cL_law 1090 = .ok (.aload_n 1, 1) := by decide +kernel
theorem dL_law_1091 : decode cL_law 1091 = .ok (.aload_n 0, 1) := by decide +kernel
theorem dL_law_1092 : decode cL_law 1092 = .ok (.iload_n 3, 1) := by decide +kernel
theorem dL_law_1093 : decode cL_law 1093 = .ok (.iconst 1, 1) := by decide +kernel
theorem dL_law_1094 : decode cL_law 1094 = .ok (.iadd, 1) := by decide +kernel
theorem dL_law_1095 : decode cL_law 1095 = .ok (.iaload, 1) := by decide +kernel
theorem dL_law_1096 : decode cL_law 1096 = .ok (.invokevirtual 129, 3) := by decide +kernel
theorem dL_law_1099 : decode cL_law 1099 = .ok (.aload_n 2, 1) := by decide +kernel
theorem dL_law_1100 : decode cL_law 1100 = .ok (.aload_n 0, 1) := by decide +kernel
theorem dL_law_1101 : decode cL_law 1101 = .ok (.iload_n 3, 1) := by decide +kernel
theorem dL_law_1102 : decode cL_law 1102 = .ok (.iconst 1, 1) := by decide +kernel
theorem dL_law_1103 : decode cL_law 1103 = .ok (.iadd, 1) := by decide +kernel
theorem dL_law_1104 : decode cL_law 1104 = .ok (.iaload, 1) := by decide +kernel
theorem dL_law_1105 : decode cL_law 1105 = .ok (.invokevirtual 132, 3) := by decide +kernel
theorem dL_law_1108 : decode cL_law 1108 = .ok (.if_icmp .eq 156, 3) := by decide +kernel
theorem dL_law_1111 : decode cL_law 1111 = .ok (.iconst 0, 1) := by decide +kernel
theorem dL_law_1112 : decode cL_law 1112 = .ok (.ireturn, 1) := by decide +kernel
theorem dL_law_1113 : decode cL_law 1113 = .ok (.aload_n 1, 1) := by decide +kernel
theorem dL_law_1114 : decode cL_law 1114 = .ok (.aload_n 0, 1) := by decide +kernel
theorem dL_law_1115 : decode cL_law 1115 = .ok (.iload_n 3, 1) := by decide +kernel
theorem dL_law_1116 : decode cL_law 1116 = .ok (.iconst 1, 1) := by decide +kernel
theorem dL_law_1117 : decode cL_law 1117 = .ok (.iadd, 1) := by decide +kernel
theorem dL_law_1118 : decode cL_law 1118 = .ok (.iaload, 1) := by decide +kernel
theorem dL_law_1119 : decode cL_law 1119 = .ok (.aload_n 0, 1) := by decide +kernel
theorem dL_law_1120 : decode cL_law 1120 = .ok (.iload_n 3, 1) := by decide +kernel
theorem dL_law_1121 : decode cL_law 1121 = .ok (.iconst 2, 1) := by decide +kernel
theorem dL_law_1122 : decode cL_law 1122 = .ok (.iadd, 1) := by decide +kernel
theorem dL_law_1123 : decode cL_law 1123 = .ok (.iaload, 1) := by decide +kernel
theorem dL_law_1124 : decode cL_law 1124 = .ok (.invokevirtual 133, 3) := by decide +kernel
theorem dL_law_1127 : decode cL_law 1127 = .ok (.aload_n 2, 1) := by decide +kernel
theorem dL_law_1128 : decode cL_law 1128 = .ok (.aload_n 0, 1) := by decide +kernel
theorem dL_law_1129 : decode cL_law 1129 = .ok (.iload_n 3, 1) := by decide +kernel
theorem dL_law_1130 : decode cL_law 1130 = .ok (.iconst 1, 1) := by decide +kernel
theorem dL_law_1131 : decode cL_law 1131 = .ok (.iadd, 1) := by decide +kernel
theorem dL_law_1132 : decode cL_law 1132 = .ok (.iaload, 1) := by decide +kernel
theorem dL_law_1133 : decode cL_law 1133 = .ok (.aload_n 0, 1) := by decide +kernel
theorem dL_law_1134 : decode cL_law 1134 = .ok (.iload_n 3, 1) := by decide +kernel
theorem dL_law_1135 : decode cL_law 1135 = .ok (.iconst 2, 1) := by decide +kernel
theorem dL_law_1136 : decode cL_law 1136 = .ok (.iadd, 1) := by decide +kernel
theorem dL_law_1137 : decode cL_law 1137 = .ok (.iaload, 1) := by decide +kernel
theorem dL_law_1138 : decode cL_law 1138 = .ok (.invokevirtual 136, 3) := by decide +kernel
theorem dL_law_1141 : decode cL_law 1141 = .ok (.if_icmp .eq 123, 3) := by decide +kernel
theorem dL_law_1144 : decode cL_law 1144 = .ok (.iconst 0, 1) := by decide +kernel
theorem dL_law_1145 : decode cL_law 1145 = .ok (.ireturn, 1) := by decide +kernel
theorem dL_law_1146 : decode cL_law 1146 = .ok (.aload_n 1, 1) := by decide +kernel
theorem dL_law_1147 : decode cL_law 1147 = .ok (.aload_n 0, 1) := by decide +kernel
theorem dL_law_1148 : decode cL_law 1148 = .ok (.iload_n 3, 1) := by decide +kernel
theorem dL_law_1149 : decode cL_law 1149 = .ok (.iconst 1, 1) := by decide +kernel
theorem dL_law_1150 : decode cL_law 1150 = .ok (.iadd, 1) := by decide +kernel
theorem dL_law_1151 : decode cL_law 1151 = .ok (.iaload, 1) := by decide +kernel
theorem dL_law_1152 : decode cL_law 1152 = .ok (.aload_n 0, 1) := by decide +kernel
theorem dL_law_1153 : decode cL_law 1153 = .ok (.iload_n 3, 1) := by decide +kernel
theorem dL_law_1154 : decode cL_law 1154 = .ok (.iconst 2, 1) := by decide +kernel
theorem dL_law_1155 : decode cL_law 1155 = .ok (.iadd, 1) := by decide +kernel
theorem dL_law_1156 : decode cL_law 1156 = .ok (.iaload, 1) := by decide +kernel
theorem dL_law_1157 : decode cL_law 1157 = .ok (.invokevirtual 137, 3) := by decide +kernel
theorem dL_law_1160 : decode cL_law 1160 = .ok (.aload_n 2, 1) := by decide +kernel
theorem dL_law_1161 : decode cL_law 1161 = .ok (.aload_n 0, 1) := by decide +kernel
theorem dL_law_1162 : decode cL_law 1162 = .ok (.iload_n 3, 1) := by decide +kernel
theorem dL_law_1163 : decode cL_law 1163 = .ok (.iconst 1, 1) := by decide +kernel
theorem dL_law_1164 : decode cL_law 1164 = .ok (.iadd, 1) := by decide +kernel
theorem dL_law_1165 : decode cL_law 1165 = .ok (.iaload, 1) := by decide +kernel
theorem dL_law_1166 : decode cL_law 1166 = .ok (.aload_n 0, 1) := by decide +kernel
theorem dL_law_1167 : decode cL_law 1167 = .ok (.iload_n 3, 1) := by decide +kernel
theorem dL_law_1168 : decode cL_law 1168 = .ok (.iconst 2, 1) := by decide +kernel
theorem dL_law_1169 : decode cL_law 1169 = .ok (.iadd, 1) := by decide +kernel
theorem dL_law_1170 : decode cL_law 1170 = .ok (.iaload, 1) := by decide +kernel
theorem dL_law_1171 : decode cL_law 1171 = .ok (.invokevirtual 140, 3) := by decide +kernel
theorem dL_law_1174 : decode cL_law 1174 = .ok (.if_icmp .eq 90, 3) := by decide +kernel
theorem dL_law_1177 : decode cL_law 1177 = .ok (.iconst 0, 1) := by decide +kernel
theorem dL_law_1178 : decode cL_law 1178 = .ok (.ireturn, 1) := by decide +kernel
theorem dL_law_1179 : decode cL_law 1179 = .ok (.aload_n 1, 1) := by decide +kernel
theorem dL_law_1180 : decode cL_law 1180 = .ok (.invokevirtual 141, 3) := by decide +kernel
theorem dL_law_1183 : decode cL_law 1183 = .ok (.aload_n 2, 1) := by decide +kernel
theorem dL_law_1184 : decode cL_law 1184 = .ok (.invokevirtual 144, 3) := by decide +kernel
theorem dL_law_1187 : decode cL_law 1187 = .ok (.if_icmp .eq 77, 3) := by decide +kernel
theorem dL_law_1190 : decode cL_law 1190 = .ok (.iconst 0, 1) := by decide +kernel
theorem dL_law_1191 : decode cL_law 1191 = .ok (.ireturn, 1) := by decide +kernel
theorem dL_law_1192 : decode cL_law 1192 = .ok (.aload_n 1, 1) := by decide +kernel
theorem dL_law_1193 : decode cL_law 1193 = .ok (.invokevirtual 145, 3) := by decide +kernel
theorem dL_law_1196 : decode cL_law 1196 = .ok (.aload_n 2, 1) := by decide +kernel
theorem dL_law_1197 : decode cL_law 1197 = .ok (.invokevirtual 148, 3) := by decide +kernel
theorem dL_law_1200 : decode cL_law 1200 = .ok (.if_icmp .eq 64, 3) := by decide +kernel
theorem dL_law_1203 : decode cL_law 1203 = .ok (.iconst 0, 1) := by decide +kernel
theorem dL_law_1204 : decode cL_law 1204 = .ok (.ireturn, 1) := by decide +kernel
theorem dL_law_1205 : decode cL_law 1205 = .ok (.aload_n 1, 1) := by decide +kernel
theorem dL_law_1206 : decode cL_law 1206 = .ok (.invokevirtual 149, 3) := by decide +kernel
theorem dL_law_1209 : decode cL_law 1209 = .ok (.aload_n 2, 1) := by decide +kernel
theorem dL_law_1210 : decode cL_law 1210 = .ok (.invokevirtual 152, 3) := by decide +kernel
theorem dL_law_1213 : decode cL_law 1213 = .ok (.if_icmp .eq 51, 3) := by decide +kernel
theorem dL_law_1216 : decode cL_law 1216 = .ok (.iconst 0, 1) := by decide +kernel
theorem dL_law_1217 : decode cL_law 1217 = .ok (.ireturn, 1) := by decide +kernel
theorem dL_law_1218 : decode cL_law 1218 = .ok (.aload_n 1, 1) := by decide +kernel
theorem dL_law_1219 : decode cL_law 1219 = .ok (.aload_n 0, 1) := by decide +kernel
theorem dL_law_1220 : decode cL_law 1220 = .ok (.iload_n 3, 1) := by decide +kernel
theorem dL_law_1221 : decode cL_law 1221 = .ok (.iconst 1, 1) := by decide +kernel
theorem dL_law_1222 : decode cL_law 1222 = .ok (.iadd, 1) := by decide +kernel
theorem dL_law_1223 : decode cL_law 1223 = .ok (.iaload, 1) := by decide +kernel
theorem dL_law_1224 : decode cL_law 1224 = .ok (.invokevirtual 153, 3) := by decide +kernel
theorem dL_law_1227 : decode cL_law 1227 = .ok (.aload_n 2, 1) := by decide +kernel
theorem dL_law_1228 : decode cL_law 1228 = .ok (.aload_n 0, 1) := by decide +kernel
theorem dL_law_1229 : decode cL_law 1229 = .ok (.iload_n 3, 1) := by decide +kernel
theorem dL_law_1230 : decode cL_law 1230 = .ok (.iconst 1, 1) := by decide +kernel
theorem dL_law_1231 : decode cL_law 1231 = .ok (.iadd, 1) := by decide +kernel
theorem dL_law_1232 : decode cL_law 1232 = .ok (.iaload, 1) := by decide +kernel
theorem dL_law_1233 : decode cL_law 1233 = .ok (.invokevirtual 156, 3) := by decide +kernel
theorem dL_law_1236 : decode cL_law 1236 = .ok (.if_icmp .eq 28, 3) := by decide +kernel
theorem dL_law_1239 : decode cL_law 1239 = .ok (.iconst 0, 1) := by decide +kernel
theorem dL_law_1240 : decode cL_law 1240 = .ok (.ireturn, 1) := by decide +kernel
theorem dL_law_1241 : decode cL_law 1241 = .ok (.aload_n 1, 1) := by decide +kernel
theorem dL_law_1242 : decode cL_law 1242 = .ok (.aload_n 0, 1) := by decide +kernel
theorem dL_law_1243 : decode cL_law 1243 = .ok (.iload_n 3, 1) := by decide +kernel
theorem dL_law_1244 : decode cL_law 1244 = .ok (.iconst 1, 1) := by decide +kernel
theorem dL_law_1245 : decode cL_law 1245 = .ok (.iadd, 1) := by decide +kernel
theorem dL_law_1246 : decode cL_law 1246 = .ok (.iaload, 1) := by decide +kernel
theorem dL_law_1247 : decode cL_law 1247 = .ok (.invokevirtual 157, 3) := by decide +kernel
theorem dL_law_1250 : decode cL_law 1250 = .ok (.aload_n 2, 1) := by decide +kernel
theorem dL_law_1251 : decode cL_law 1251 = .ok (.aload_n 0, 1) := by decide +kernel
theorem dL_law_1252 : decode cL_law 1252 = .ok (.iload_n 3, 1) := by decide +kernel
theorem dL_law_1253 : decode cL_law 1253 = .ok (.iconst 1, 1) := by decide +kernel
theorem dL_law_1254 : decode cL_law 1254 = .ok (.iadd, 1) := by decide +kernel
theorem dL_law_1255 : decode cL_law 1255 = .ok (.iaload, 1) := by decide +kernel
theorem dL_law_1256 : decode cL_law 1256 = .ok (.invokevirtual 160, 3) := by decide +kernel
theorem dL_law_1259 : decode cL_law 1259 = .ok (.if_icmp .eq 5, 3) := by decide +kernel
theorem dL_law_1262 : decode cL_law 1262 = .ok (.iconst 0, 1) := by decide +kernel
theorem dL_law_1263 : decode cL_law 1263 = .ok (.ireturn, 1) := by decide +kernel
theorem dL_law_1264 : decode cL_law 1264 = .ok (.iinc 3 6, 3) := by decide +kernel
theorem dL_law_1267 : decode cL_law 1267 = .ok (.goto (-1249), 3) := by decide +kernel
theorem dL_law_1270 : decode cL_law 1270 = .ok (.iconst 1, 1) := by decide +kernel
theorem dL_law_1271 : decode cL_law 1271 = .ok (.ireturn, 1) := by decide +kernel
