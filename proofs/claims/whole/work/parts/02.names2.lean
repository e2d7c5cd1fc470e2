theorem dX0_init_0 : decode cX0_init 0 = .ok (.aload_n 0, 1) := by decide +kernel
theorem dX0_init_1 : decode cX0_init 1 = .ok (.invokespecial 1, 3) := by decide +kernel
theorem dX0_init_4 : decode cX0_init 4 = .ok (.aload_n 0, 1) := by decide +kernel
theorem dX0_init_5 : decode cX0_init 5 = .ok (.new 7, 3) := by decide +kernel
theorem dX0_init_8 : decode cX0_init 8 = .ok (.dup, 1) := by decide +kernel
theorem dX0_init_9 : decode cX0_init 9 = .ok (.invokespecial 9, 3) := by decide +kernel
theorem dX0_init_12 : decode cX0_init 12 = .ok (.putfield 10, 3) := by decide +kernel
theorem dX0_init_15 : decode cX0_init 15 = .ok (.aload_n 0, 1) := by decide +kernel
theorem dX0_init_16 : decode cX0_init 16 = .ok (.new 16, 3) := by decide +kernel
theorem dX0_init_19 : decode cX0_init 19 = .ok (.dup, 1) := by decide +kernel
theorem dX0_init_20 : decode cX0_init 20 = .ok (.invokespecial 18, 3) := by decide +kernel
theorem dX0_init_23 : decode cX0_init 23 = .ok (.putfield 19, 3) := by decide +kernel
theorem dX0_init_26 : decode cX0_init 26 = .ok (.aload_n 0, 1) := by decide +kernel
theorem dX0_init_27 : decode cX0_init 27 = .ok (.new 22, 3) := by decide +kernel
theorem dX0_init_30 : decode cX0_init 30 = .ok (.dup, 1) := by decide +kernel
theorem dX0_init_31 : decode cX0_init 31 = .ok (.invokespecial 24, 3) := by decide +kernel
theorem dX0_init_34 : decode cX0_init 34 = .ok (.putfield 25, 3) := by decide +kernel
theorem dX0_init_37 : decode cX0_init 37 = .ok (.aload_n 0, 1) := by decide +kernel
theorem dX0_init_38 : decode cX0_init 38 = .ok (.new 28, 3) := by decide +kernel
theorem dX0_init_41 : decode cX0_init 41 = .ok (.dup, 1) := by decide +kernel
theorem dX0_init_42 : decode cX0_init 42 = .ok (.invokespecial 30, 3) := by decide +kernel
theorem dX0_init_45 : decode cX0_init 45 = .ok (.putfield 31, 3) := by decide +kernel
theorem dX0_init_48 : decode cX0_init 48 = .ok (.aload_n 0, 1) := by decide +kernel
theorem dX0_init_49 : decode cX0_init 49 = .ok (.new 34, 3) := by decide +kernel
theorem dX0_init_52 : decode cX0_init 52 = .ok (.dup, 1) := by decide +kernel
theorem dX0_init_53 : decode cX0_init 53 = .ok (.invokespecial 36, 3) := by decide +kernel
theorem dX0_init_56 : decode cX0_init 56 = .ok (.putfield 37, 3) := by decide +kernel
theorem dX0_init_59 : decode cX0_init 59 = .ok (.aload_n 0, 1) := by decide +kernel
theorem dX0_init_60 : decode cX0_init 60 = .ok (.new 40, 3) := by decide +kernel
theorem dX0_init_63 : decode cX0_init 63 = .ok (.dup, 1) := by decide +kernel
theorem dX0_init_64 : decode cX0_init 64 = .ok (.invokespecial 42, 3) := by decide +kernel
theorem dX0_init_67 : decode cX0_init 67 = .ok (.putfield 43, 3) := by decide +kernel
theorem dX0_init_70 : decode cX0_init 70 = .ok (.return_, 1) := by decide +kernel
theorem dX0_numbered_0 : decode cX0_numbered 0 = .ok (.iload_n 1, 1) := by decide +kernel
theorem dX0_numbered_1 : decode cX0_numbered 1 = .ok (.tableswitch 60 1 5 #[35, 40, 45, 50, 55], 35) := by decide +kernel
theorem dX0_numbered_36 : decode cX0_numbered 36 = .ok (.aload_n 0, 1) := by decide +kernel
theorem dX0_numbered_37 : decode cX0_numbered 37 = .ok (.getfield 19, 3) := by decide +kernel
theorem dX0_numbered_40 : decode cX0_numbered 40 = .ok (.areturn, 1) := by decide +kernel
theorem dX0_numbered_41 : decode cX0_numbered 41 = .ok (.aload_n 0, 1) := by decide +kernel
theorem dX0_numbered_42 : decode cX0_numbered 42 = .ok (.getfield 25, 3) := by decide +kernel
theorem dX0_numbered_45 : decode cX0_numbered 45 = .ok (.areturn, 1) := by decide +kernel
theorem dX0_numbered_46 : decode cX0_numbered 46 = .ok (.aload_n 0, 1) := by decide +kernel
theorem dX0_numbered_47 : decode cX0_numbered 47 = .ok (.getfield 31, 3) := by decide +kernel
theorem dX0_numbered_50 : decode cX0_numbered 50 = .ok (.areturn, 1) := by decide +kernel
theorem dX0_numbered_51 : decode cX0_numbered 51 = .ok (.aload_n 0, 1) := by decide +kernel
theorem dX0_numbered_52 : decode cX0_numbered 52 = .ok (.getfield 37, 3) := by decide +kernel
theorem dX0_numbered_55 : decode cX0_numbered 55 = .ok (.areturn, 1) := by decide +kernel
theorem dX0_numbered_56 : decode cX0_numbered 56 = .ok (.aload_n 0, 1) := by decide +kernel
theorem dX0_numbered_57 : decode cX0_numbered 57 = .ok (.getfield 43, 3) := by decide +kernel
theorem dX0_numbered_60 : decode cX0_numbered 60 = .ok (.areturn, 1) := by decide +kernel
theorem dX0_numbered_61 : decode cX0_numbered 61 = .ok (.aload_n 0, 1) := by decide +kernel
theorem dX0_numbered_62 : decode cX0_numbered 62 = .ok (.getfield 10, 3) := by decide +kernel
theorem dX0_numbered_65 : decode cX0_numbered 65 = .ok (.areturn, 1) := by decide +kernel
theorem dX0_nameOf_0 : decode cX0_nameOf 0 = .ok (.iload_n 0, 1) := by decide +kernel
theorem dX0_nameOf_1 : decode cX0_nameOf 1 = .ok (.tableswitch 50 1 5 #[35, 38, 41, 44, 47], 35) := by decide +kernel
theorem dX0_nameOf_36 : decode cX0_nameOf 36 = .ok (.ldc 46, 2) := by decide +kernel
theorem dX0_nameOf_38 : decode cX0_nameOf 38 = .ok (.areturn, 1) := by decide +kernel
theorem dX0_nameOf_39 : decode cX0_nameOf 39 = .ok (.ldc 47, 2) := by decide +kernel
theorem dX0_nameOf_41 : decode cX0_nameOf 41 = .ok (.areturn, 1) := by decide +kernel
theorem dX0_nameOf_42 : decode cX0_nameOf 42 = .ok (.ldc 48, 2) := by decide +kernel
theorem dX0_nameOf_44 : decode cX0_nameOf 44 = .ok (.areturn, 1) := by decide +kernel
theorem dX0_nameOf_45 : decode cX0_nameOf 45 = .ok (.ldc 49, 2) := by decide +kernel
theorem dX0_nameOf_47 : decode cX0_nameOf 47 = .ok (.areturn, 1) := by decide +kernel
theorem dX0_nameOf_48 : decode cX0_nameOf 48 = .ok (.ldc 50, 2) := by decide +kernel
theorem dX0_nameOf_50 : decode cX0_nameOf 50 = .ok (.areturn, 1) := by decide +kernel
theorem dX0_nameOf_51 : decode cX0_nameOf 51 = .ok (.ldc 51, 2) := by decide +kernel
theorem dX0_nameOf_53 : decode cX0_nameOf 53 = .ok (.areturn, 1) := by decide +kernel
theorem dX1_init_0 : decode cX1_init 0 = .ok (.aload_n 0, 1) := by decide +kernel
theorem dX1_init_1 : decode cX1_init 1 = .ok (.invokespecial 3, 3) := by decide +kernel
theorem dX1_init_4 : decode cX1_init 4 = .ok (.return_, 1) := by decide +kernel
theorem dX1_due_0 : decode cX1_due 0 = .ok (.aload_n 1, 1) := by decide +kernel
theorem dX1_due_1 : decode cX1_due 1 = .ok (.getfield 9, 3) := by decide +kernel
theorem dX1_due_4 : decode cX1_due 4 = .ok (.bipush 8, 2) := by decide +kernel
theorem dX1_due_6 : decode cX1_due 6 = .ok (.irem, 1) := by decide +kernel
theorem dX1_due_7 : decode cX1_due 7 = .ok (.bipush 7, 2) := by decide +kernel
theorem dX1_due_9 : decode cX1_due 9 = .ok (.if_icmp .ne 7, 3) := by decide +kernel
theorem dX1_due_12 : decode cX1_due 12 = .ok (.iconst 1, 1) := by decide +kernel
theorem dX1_due_13 : decode cX1_due 13 = .ok (.goto 4, 3) := by decide +kernel
theorem dX1_due_16 : decode cX1_due 16 = .ok (.iconst 0, 1) := by decide +kernel
theorem dX1_due_17 : decode cX1_due 17 = .ok (.istore_n 3, 1) := by decide +kernel
theorem dX1_due_18 : decode cX1_due 18 = .ok (.iload_n 3, 1) := by decide +kernel
theorem dX1_due_19 : decode cX1_due 19 = .ok (.ifCond .eq 7, 3) := by decide +kernel
theorem dX1_due_22 : decode cX1_due 22 = .ok (.iconst 5, 1) := by decide +kernel
theorem dX1_due_23 : decode cX1_due 23 = .ok (.goto 9, 3) := by decide +kernel
theorem dX1_due_26 : decode cX1_due 26 = .ok (.aload_n 0, 1) := by decide +kernel
theorem dX1_due_27 : decode cX1_due 27 = .ok (.aload_n 1, 1) := by decide +kernel
theorem dX1_due_28 : decode cX1_due 28 = .ok (.iload_n 2, 1) := by decide +kernel
theorem dX1_due_29 : decode cX1_due 29 = .ok (.invokespecial 15, 3) := by decide +kernel
theorem dX1_due_32 : decode cX1_due 32 = .ok (.ireturn, 1) := by decide +kernel
theorem dX1_hears_0 : decode cX1_hears 0 = .ok (.iconst 0, 1) := by decide +kernel
theorem dX1_hears_1 : decode cX1_hears 1 = .ok (.ireturn, 1) := by decide +kernel
theorem dX1_walks_0 : decode cX1_walks 0 = .ok (.aload_n 0, 1) := by decide +kernel
theorem dX1_walks_1 : decode cX1_walks 1 = .ok (.aload_n 1, 1) := by decide +kernel
theorem dX1_walks_2 : decode cX1_walks 2 = .ok (.iload_n 2, 1) := by decide +kernel
theorem dX1_walks_3 : decode cX1_walks 3 = .ok (.iload_n 3, 1) := by decide +kernel
theorem dX1_walks_4 : decode cX1_walks 4 = .ok (.invokespecial 19, 3) := by decide +kernel
theorem dX1_walks_7 : decode cX1_walks 7 = .ok (.aload_n 1, 1) := by decide +kernel
theorem dX1_walks_8 : decode cX1_walks 8 = .ok (.getfield 23, 3) := by decide +kernel
theorem dX1_walks_11 : decode cX1_walks 11 = .ok (.iload_n 2, 1) := by decide +kernel
theorem dX1_walks_12 : decode cX1_walks 12 = .ok (.iaload, 1) := by decide +kernel
theorem dX1_walks_13 : decode cX1_walks 13 = .ok (.iadd, 1) := by decide +kernel
theorem dX1_walks_14 : decode cX1_walks 14 = .ok (.ireturn, 1) := by decide +kernel
theorem dX1_spoils_0 : decode cX1_spoils 0 = .ok (.aload_n 0, 1) := by decide +kernel
theorem dX1_spoils_1 : decode cX1_spoils 1 = .ok (.invokespecial 27, 3) := by decide +kernel
theorem dX1_spoils_4 : decode cX1_spoils 4 = .ok (.iconst 3, 1) := by decide +kernel
theorem dX1_spoils_5 : decode cX1_spoils 5 = .ok (.iadd, 1) := by decide +kernel
theorem dX1_spoils_6 : decode cX1_spoils 6 = .ok (.ireturn, 1) := by decide +kernel
theorem dX2_init_0 : decode cX2_init 0 = .ok (.aload_n 0, 1) := by decide +kernel
theorem dX2_init_1 : decode cX2_init 1 = .ok (.invokespecial 3, 3) := by decide +kernel
theorem dX2_init_4 : decode cX2_init 4 = .ok (.return_, 1) := by decide +kernel
theorem dX2_due_0 : decode cX2_due 0 = .ok (.bipush 11, 2) := by decide +kernel
theorem dX2_due_2 : decode cX2_due 2 = .ok (.aload_n 1, 1) := by decide +kernel
theorem dX2_due_3 : decode cX2_due 3 = .ok (.getfield 9, 3) := by decide +kernel
theorem dX2_due_6 : decode cX2_due 6 = .ok (.isub, 1) := by decide +kernel
theorem dX2_due_7 : decode cX2_due 7 = .ok (.ireturn, 1) := by decide +kernel
theorem dX2_walks_0 : decode cX2_walks 0 = .ok (.aload_n 1, 1) := by decide +kernel
theorem dX2_walks_1 : decode cX2_walks 1 = .ok (.iload_n 2, 1) := by decide +kernel
theorem dX2_walks_2 : decode cX2_walks 2 = .ok (.iload_n 3, 1) := by decide +kernel
theorem dX2_walks_3 : decode cX2_walks 3 = .ok (.invokevirtual 15, 3) := by decide +kernel
theorem dX2_walks_6 : decode cX2_walks 6 = .ok (.ifCond .eq 7, 3) := by decide +kernel
theorem dX2_walks_9 : decode cX2_walks 9 = .ok (.iconst 0, 1) := by decide +kernel
theorem dX2_walks_10 : decode cX2_walks 10 = .ok (.goto 10, 3) := by decide +kernel
theorem dX2_walks_13 : decode cX2_walks 13 = .ok (.aload_n 0, 1) := by decide +kernel
theorem dX2_walks_14 : decode cX2_walks 14 = .ok (.aload_n 1, 1) := by decide +kernel
theorem dX2_walks_15 : decode cX2_walks 15 = .ok (.iload_n 2, 1) := by decide +kernel
theorem dX2_walks_16 : decode cX2_walks 16 = .ok (.iload_n 3, 1) := by decide +kernel
theorem dX2_walks_17 : decode cX2_walks 17 = .ok (.invokespecial 19, 3) := by decide +kernel
theorem dX2_walks_20 : decode cX2_walks 20 = .ok (.ireturn, 1) := by decide +kernel
theorem dX2_spoils_0 : decode cX2_spoils 0 = .ok (.aload_n 0, 1) := by decide +kernel
theorem dX2_spoils_1 : decode cX2_spoils 1 = .ok (.invokespecial 23, 3) := by decide +kernel
theorem dX2_spoils_4 : decode cX2_spoils 4 = .ok (.iconst 1, 1) := by decide +kernel
theorem dX2_spoils_5 : decode cX2_spoils 5 = .ok (.iadd, 1) := by decide +kernel
theorem dX2_spoils_6 : decode cX2_spoils 6 = .ok (.ireturn, 1) := by decide +kernel
theorem dX3_init_0 : decode cX3_init 0 = .ok (.aload_n 0, 1) := by decide +kernel
theorem dX3_init_1 : decode cX3_init 1 = .ok (.invokespecial 3, 3) := by decide +kernel
theorem dX3_init_4 : decode cX3_init 4 = .ok (.aload_n 0, 1) := by decide +kernel
theorem dX3_init_5 : decode cX3_init 5 = .ok (.bipush 6, 2) := by decide +kernel
theorem dX3_init_7 : decode cX3_init 7 = .ok (.newarray .int, 2) := by decide +kernel
theorem dX3_init_9 : decode cX3_init 9 = .ok (.putfield 9, 3) := by decide +kernel
theorem dX3_init_12 : decode cX3_init 12 = .ok (.aload_n 0, 1) := by decide +kernel
theorem dX3_init_13 : decode cX3_init 13 = .ok (.iconst 3, 1) := by decide +kernel
theorem dX3_init_14 : decode cX3_init 14 = .ok (.newarray .int, 2) := by decide +kernel
theorem dX3_init_16 : decode cX3_init 16 = .ok (.putfield 15, 3) := by decide +kernel
theorem dX3_init_19 : decode cX3_init 19 = .ok (.aload_n 0, 1) := by decide +kernel
theorem dX3_init_20 : decode cX3_init 20 = .ok (.bipush 8, 2) := by decide +kernel
theorem dX3_init_22 : decode cX3_init 22 = .ok (.newarray .int, 2) := by decide +kernel
theorem dX3_init_24 : decode cX3_init 24 = .ok (.putfield 18, 3) := by decide +kernel
theorem dX3_init_27 : decode cX3_init 27 = .ok (.aload_n 0, 1) := by decide +kernel
theorem dX3_init_28 : decode cX3_init 28 = .ok (.bipush 8, 2) := by decide +kernel
theorem dX3_init_30 : decode cX3_init 30 = .ok (.newarray .int, 2) := by decide +kernel
theorem dX3_init_32 : decode cX3_init 32 = .ok (.putfield 21, 3) := by decide +kernel
theorem dX3_init_35 : decode cX3_init 35 = .ok (.aload_n 0, 1) := by decide +kernel
theorem dX3_init_36 : decode cX3_init 36 = .ok (.bipush 8, 2) := by decide +kernel
theorem dX3_init_38 : decode cX3_init 38 = .ok (.newarray .int, 2) := by decide +kernel
theorem dX3_init_40 : decode cX3_init 40 = .ok (.putfield 24, 3) := by decide +kernel
theorem dX3_init_43 : decode cX3_init 43 = .ok (.aload_n 0, 1) := by decide +kernel
theorem dX3_init_44 : decode cX3_init 44 = .ok (.bipush 8, 2) := by decide +kernel
theorem dX3_init_46 : decode cX3_init 46 = .ok (.newarray .int, 2) := by decide +kernel
theorem dX3_init_48 : decode cX3_init 48 = .ok (.putfield 27, 3) := by decide +kernel
theorem dX3_init_51 : decode cX3_init 51 = .ok (.aload_n 0, 1) := by decide +kernel
theorem dX3_init_52 : decode cX3_init 52 = .ok (.bipush 8, 2) := by decide +kernel
theorem dX3_init_54 : decode cX3_init 54 = .ok (.newarray .int, 2) := by decide +kernel
theorem dX3_init_56 : decode cX3_init 56 = .ok (.putfield 30, 3) := by decide +kernel
theorem dX3_init_59 : decode cX3_init 59 = .ok (.aload_n 0, 1) := by decide +kernel
theorem dX3_init_60 : decode cX3_init 60 = .ok (.iconst 0, 1) := by decide +kernel
theorem dX3_init_61 : decode cX3_init 61 = .ok (.putfield 33, 3) := by decide +kernel
theorem dX3_init_64 : decode cX3_init 64 = .ok (.aload_n 0, 1) := by decide +kernel
theorem dX3_init_65 : decode cX3_init 65 = .ok (.iconst 0, 1) := by decide +kernel
theorem dX3_init_66 : decode cX3_init 66 = .ok (.putfield 37, 3) := by decide +kernel
theorem dX3_init_69 : decode cX3_init 69 = .ok (.aload_n 0, 1) := by decide +kernel
theorem dX3_init_70 : decode cX3_init 70 = .ok (.iconst 0, 1) := by decide +kernel
theorem dX3_init_71 : decode cX3_init 71 = .ok (.putfield 40, 3) := by decide +kernel
theorem dX3_init_74 : decode cX3_init 74 = .ok (.aload_n 0, 1) := by decide +kernel
theorem dX3_init_75 : decode cX3_init 75 = .ok (.iconst 0, 1) := by decide +kernel
theorem dX3_init_76 : decode cX3_init 76 = .ok (.putfield 43, 3) := by decide +kernel
theorem dX3_init_79 : decode cX3_init 79 = .ok (.aload_n 0, 1) := by decide +kernel
theorem dX3_init_80 : decode cX3_init 80 = .ok (.iconst (-1), 1) := by decide +kernel
theorem dX3_init_81 : decode cX3_init 81 = .ok (.putfield 46, 3) := by decide +kernel
theorem dX3_init_84 : decode cX3_init 84 = .ok (.aload_n 0, 1) := by decide +kernel
theorem dX3_init_85 : decode cX3_init 85 = .ok (.bipush 8, 2) := by decide +kernel
theorem dX3_init_87 : decode cX3_init 87 = .ok (.newarray .int, 2) := by decide +kernel
theorem dX3_init_89 : decode cX3_init 89 = .ok (.putfield 49, 3) := by decide +kernel
theorem dX3_init_92 : decode cX3_init 92 = .ok (.aload_n 0, 1) := by decide +kernel
theorem dX3_init_93 : decode cX3_init 93 = .ok (.iconst 0, 1) := by decide +kernel
theorem dX3_init_94 : decode cX3_init 94 = .ok (.putfield 52, 3) := by decide +kernel
theorem dX3_init_97 : decode cX3_init 97 = .ok (.aload_n 0, 1) := by decide +kernel
theorem dX3_init_98 : decode cX3_init 98 = .ok (.aload_n 1, 1) := by decide +kernel
theorem dX3_init_99 : decode cX3_init 99 = .ok (.putfield 55, 3) := by decide +kernel
theorem dX3_init_102 : decode cX3_init 102 = .ok (.iconst 0, 1) := by decide +kernel
theorem dX3_init_103 : decode cX3_init 103 = .ok (.istore_n 2, 1) := by decide +kernel
theorem dX3_init_104 : decode cX3_init 104 = .ok (.iload_n 2, 1) := by decide +kernel
theorem dX3_init_105 : decode cX3_init 105 = .ok (.bipush 6, 2) := by decide +kernel
theorem dX3_init_107 : decode cX3_init 107 = .ok (.if_icmp .ge 21, 3) := by decide +kernel
theorem dX3_init_110 : decode cX3_init 110 = .ok (.aload_n 0, 1) := by decide +kernel
theorem dX3_init_111 : decode cX3_init 111 = .ok (.getfield 9, 3) := by decide +kernel
theorem dX3_init_114 : decode cX3_init 114 = .ok (.iload_n 2, 1) := by decide +kernel
theorem dX3_init_115 : decode cX3_init 115 = .ok (.iconst 5, 1) := by decide +kernel
theorem dX3_init_116 : decode cX3_init 116 = .ok (.iload_n 2, 1) := by decide +kernel
theorem dX3_init_117 : decode cX3_init 117 = .ok (.imul, 1) := by decide +kernel
theorem dX3_init_118 : decode cX3_init 118 = .ok (.bipush 12, 2) := by decide +kernel
theorem dX3_init_120 : decode cX3_init 120 = .ok (.irem, 1) := by decide +kernel
theorem dX3_init_121 : decode cX3_init 121 = .ok (.iastore, 1) := by decide +kernel
theorem dX3_init_122 : decode cX3_init 122 = .ok (.iinc 2 1, 3) := by decide +kernel
theorem dX3_init_125 : decode cX3_init 125 = .ok (.goto (-21), 3) := by decide +kernel
theorem dX3_init_128 : decode cX3_init 128 = .ok (.iconst 0, 1) := by decide +kernel
theorem dX3_init_129 : decode cX3_init 129 = .ok (.istore_n 2, 1) := by decide +kernel
theorem dX3_init_130 : decode cX3_init 130 = .ok (.iload_n 2, 1) := by decide +kernel
theorem dX3_init_131 : decode cX3_init 131 = .ok (.iconst 3, 1) := by decide +kernel
theorem dX3_init_132 : decode cX3_init 132 = .ok (.if_icmp .ge 21, 3) := by decide +kernel
theorem dX3_init_135 : decode cX3_init 135 = .ok (.aload_n 0, 1) := by decide +kernel
theorem dX3_init_136 : decode cX3_init 136 = .ok (.getfield 15, 3) := by decide +kernel
theorem dX3_init_139 : decode cX3_init 139 = .ok (.iload_n 2, 1) := by decide +kernel
theorem dX3_init_140 : decode cX3_init 140 = .ok (.bipush 10, 2) := by decide +kernel
theorem dX3_init_142 : decode cX3_init 142 = .ok (.iload_n 2, 1) := by decide +kernel
theorem dX3_init_143 : decode cX3_init 143 = .ok (.iconst 1, 1) := by decide +kernel
theorem dX3_init_144 : decode cX3_init 144 = .ok (.iadd, 1) := by decide +kernel
theorem dX3_init_145 : decode cX3_init 145 = .ok (.imul, 1) := by decide +kernel
theorem dX3_init_146 : decode cX3_init 146 = .ok (.iastore, 1) := by decide +kernel
theorem dX3_init_147 : decode cX3_init 147 = .ok (.iinc 2 1, 3) := by decide +kernel
theorem dX3_init_150 : decode cX3_init 150 = .ok (.goto (-20), 3) := by decide +kernel
theorem dX3_init_153 : decode cX3_init 153 = .ok (.return_, 1) := by decide +kernel
theorem dX3_become_0 : decode cX3_become 0 = .ok (.aload_n 1, 1) := by decide +kernel
theorem dX3_become_1 : decode cX3_become 1 = .ok (.getfield 9, 3) := by decide +kernel
theorem dX3_become_4 : decode cX3_become 4 = .ok (.iconst 0, 1) := by decide +kernel
theorem dX3_become_5 : decode cX3_become 5 = .ok (.aload_n 0, 1) := by decide +kernel
theorem dX3_become_6 : decode cX3_become 6 = .ok (.getfield 9, 3) := by decide +kernel
theorem dX3_become_9 : decode cX3_become 9 = .ok (.iconst 0, 1) := by decide +kernel
theorem dX3_become_10 : decode cX3_become 10 = .ok (.bipush 6, 2) := by decide +kernel
theorem dX3_become_12 : decode cX3_become 12 = .ok (.invokestatic 59, 3) := by decide +kernel
theorem dX3_become_15 : decode cX3_become 15 = .ok (.aload_n 1, 1) := by decide +kernel
theorem dX3_become_16 : decode cX3_become 16 = .ok (.getfield 15, 3) := by decide +kernel
theorem dX3_become_19 : decode cX3_become 19 = .ok (.iconst 0, 1) := by decide +kernel
theorem dX3_become_20 : decode cX3_become 20 = .ok (.aload_n 0, 1) := by decide +kernel
theorem dX3_become_21 : decode cX3_become 21 = .ok (.getfield 15, 3) := by decide +kernel
theorem dX3_become_24 : decode cX3_become 24 = .ok (.iconst 0, 1) := by decide +kernel
theorem dX3_become_25 : decode cX3_become 25 = .ok (.iconst 3, 1) := by decide +kernel
theorem dX3_become_26 : decode cX3_become 26 = .ok (.invokestatic 59, 3) := by decide +kernel
theorem dX3_become_29 : decode cX3_become 29 = .ok (.aload_n 1, 1) := by decide +kernel
theorem dX3_become_30 : decode cX3_become 30 = .ok (.getfield 18, 3) := by decide +kernel
theorem dX3_become_33 : decode cX3_become 33 = .ok (.iconst 0, 1) := by decide +kernel
theorem dX3_become_34 : decode cX3_become 34 = .ok (.aload_n 0, 1) := by decide +kernel
theorem dX3_become_35 : decode cX3_become 35 = .ok (.getfield 18, 3) := by decide +kernel
theorem dX3_become_38 : decode cX3_become 38 = .ok (.iconst 0, 1) := by decide +kernel
theorem dX3_become_39 : decode cX3_become 39 = .ok (.bipush 8, 2) := by decide +kernel
theorem dX3_become_41 : decode cX3_become 41 = .ok (.invokestatic 59, 3) := by decide +kernel
theorem dX3_become_44 : decode cX3_become 44 = .ok (.aload_n 1, 1) := by decide +kernel
theorem dX3_become_45 : decode cX3_become 45 = .ok (.getfield 21, 3) := by decide +kernel
theorem dX3_become_48 : decode cX3_become 48 = .ok (.iconst 0, 1) := by decide +kernel
theorem dX3_become_49 : decode cX3_become 49 = .ok (.aload_n 0, 1) := by decide +kernel
theorem dX3_become_50 : decode cX3_become 50 = .ok (.getfield 21, 3) := by decide +kernel
theorem dX3_become_53 : decode cX3_become 53 = .ok (.iconst 0, 1) := by decide +kernel
theorem dX3_become_54 : decode cX3_become 54 = .ok (.bipush 8, 2) := by decide +kernel
theorem dX3_become_56 : decode cX3_become 56 = .ok (.invokestatic 59, 3) := by decide +kernel
theorem dX3_become_59 : decode cX3_become 59 = .ok (.aload_n 1, 1) := by decide +kernel
theorem dX3_become_60 : decode cX3_become 60 = .ok (.getfield 24, 3) := by decide +kernel
theorem dX3_become_63 : decode cX3_become 63 = .ok (.iconst 0, 1) := by decide +kernel
theorem dX3_become_64 : decode cX3_become 64 = .ok (.aload_n 0, 1) := by decide +kernel
theorem dX3_become_65 : decode cX3_become 65 = .ok (.getfield 24, 3) := by decide +kernel
theorem dX3_become_68 : decode cX3_become 68 = .ok (.iconst 0, 1) := by decide +kernel
theorem dX3_become_69 : decode cX3_become 69 = .ok (.bipush 8, 2) := by decide +kernel
theorem dX3_become_71 : decode cX3_become 71 = .ok (.invokestatic 59, 3) := by decide +kernel
theorem dX3_become_74 : decode cX3_become 74 = .ok (.aload_n 1, 1) := by decide +kernel
theorem dX3_become_75 : decode cX3_become 75 = .ok (.getfield 27, 3) := by decide +kernel
theorem dX3_become_78 : decode cX3_become 78 = .ok (.iconst 0, 1) := by decide +kernel
theorem dX3_become_79 : decode cX3_become 79 = .ok (.aload_n 0, 1) := by decide +kernel
theorem dX3_become_80 : decode cX3_become 80 = .ok (.getfield 27, 3) := by decide +kernel
theorem dX3_become_83 : decode cX3_become 83 = .ok (.iconst 0, 1) := by decide +kernel
theorem dX3_become_84 : decode cX3_become 84 = .ok (.bipush 8, 2) := by decide +kernel
theorem dX3_become_86 : decode cX3_become 86 = .ok (.invokestatic 59, 3) := by decide +kernel
theorem dX3_become_89 : decode cX3_become 89 = .ok (.aload_n 1, 1) := by decide +kernel
theorem dX3_become_90 : decode cX3_become 90 = .ok (.getfield 30, 3) := by decide +kernel
theorem dX3_become_93 : decode cX3_become 93 = .ok (.iconst 0, 1) := by decide +kernel
theorem dX3_become_94 : decode cX3_become 94 = .ok (.aload_n 0, 1) := by decide +kernel
theorem dX3_become_95 : decode cX3_become 95 = .ok (.getfield 30, 3) := by decide +kernel
theorem dX3_become_98 : decode cX3_become 98 = .ok (.iconst 0, 1) := by decide +kernel
theorem dX3_become_99 : decode cX3_become 99 = .ok (.bipush 8, 2) := by decide +kernel
theorem dX3_become_101 : decode cX3_become 101 = .ok (.invokestatic 59, 3) := by decide +kernel
theorem dX3_become_104 : decode cX3_become 104 = .ok (.aload_n 0, 1) := by decide +kernel
theorem dX3_become_105 : decode cX3_become 105 = .ok (.aload_n 1, 1) := by decide +kernel
theorem dX3_become_106 : decode cX3_become 106 = .ok (.getfield 33, 3) := by decide +kernel
theorem dX3_become_109 : decode cX3_become 109 = .ok (.putfield 33, 3) := by decide +kernel
theorem dX3_become_112 : decode cX3_become 112 = .ok (.aload_n 0, 1) := by decide +kernel
theorem dX3_become_113 : decode cX3_become 113 = .ok (.aload_n 1, 1) := by decide +kernel
theorem dX3_become_114 : decode cX3_become 114 = .ok (.getfield 37, 3) := by decide +kernel
theorem dX3_become_117 : decode cX3_become 117 = .ok (.putfield 37, 3) := by decide +kernel
theorem dX3_become_120 : decode cX3_become 120 = .ok (.return_, 1) := by decide +kernel
theorem dX3_admit_0 : decode cX3_admit 0 = .ok (.aload_n 0, 1) := by decide +kernel
theorem dX3_admit_1 : decode cX3_admit 1 = .ok (.getfield 37, 3) := by decide +kernel
theorem dX3_admit_4 : decode cX3_admit 4 = .ok (.bipush 8, 2) := by decide +kernel
theorem dX3_admit_6 : decode cX3_admit 6 = .ok (.if_icmp .lt 4, 3) := by decide +kernel
theorem dX3_admit_9 : decode cX3_admit 9 = .ok (.return_, 1) := by decide +kernel
theorem dX3_admit_10 : decode cX3_admit 10 = .ok (.aload_n 0, 1) := by decide +kernel
theorem dX3_admit_11 : decode cX3_admit 11 = .ok (.getfield 18, 3) := by decide +kernel
theorem dX3_admit_14 : decode cX3_admit 14 = .ok (.aload_n 0, 1) := by decide +kernel
theorem dX3_admit_15 : decode cX3_admit 15 = .ok (.getfield 37, 3) := by decide +kernel
theorem dX3_admit_18 : decode cX3_admit 18 = .ok (.iload_n 1, 1) := by decide +kernel
theorem dX3_admit_19 : decode cX3_admit 19 = .ok (.iastore, 1) := by decide +kernel
theorem dX3_admit_20 : decode cX3_admit 20 = .ok (.aload_n 0, 1) := by decide +kernel
theorem dX3_admit_21 : decode cX3_admit 21 = .ok (.getfield 21, 3) := by decide +kernel
theorem dX3_admit_24 : decode cX3_admit 24 = .ok (.aload_n 0, 1) := by decide +kernel
theorem dX3_admit_25 : decode cX3_admit 25 = .ok (.getfield 37, 3) := by decide +kernel
theorem dX3_admit_28 : decode cX3_admit 28 = .ok (.iload_n 2, 1) := by decide +kernel
theorem dX3_admit_29 : decode cX3_admit 29 = .ok (.iastore, 1) := by decide +kernel
theorem dX3_admit_30 : decode cX3_admit 30 = .ok (.aload_n 0, 1) := by decide +kernel
theorem dX3_admit_31 : decode cX3_admit 31 = .ok (.getfield 24, 3) := by decide +kernel
theorem dX3_admit_34 : decode cX3_admit 34 = .ok (.aload_n 0, 1) := by decide +kernel
theorem dX3_admit_35 : decode cX3_admit 35 = .ok (.getfield 37, 3) := by decide +kernel
theorem dX3_admit_38 : decode cX3_admit 38 = .ok (.iload_n 3, 1) := by decide +kernel
theorem dX3_admit_39 : decode cX3_admit 39 = .ok (.iastore, 1) := by decide +kernel
theorem dX3_admit_40 : decode cX3_admit 40 = .ok (.aload_n 0, 1) := by decide +kernel
theorem dX3_admit_41 : decode cX3_admit 41 = .ok (.getfield 27, 3) := by decide +kernel
theorem dX3_admit_44 : decode cX3_admit 44 = .ok (.aload_n 0, 1) := by decide +kernel
theorem dX3_admit_45 : decode cX3_admit 45 = .ok (.getfield 37, 3) := by decide +kernel
theorem dX3_admit_48 : decode cX3_admit 48 = .ok (.iconst 0, 1) := by decide +kernel
theorem dX3_admit_49 : decode cX3_admit 49 = .ok (.iastore, 1) := by decide +kernel
theorem dX3_admit_50 : decode cX3_admit 50 = .ok (.aload_n 0, 1) := by decide +kernel
theorem dX3_admit_51 : decode cX3_admit 51 = .ok (.getfield 30, 3) := by decide +kernel
theorem dX3_admit_54 : decode cX3_admit 54 = .ok (.aload_n 0, 1) := by decide +kernel
theorem dX3_admit_55 : decode cX3_admit 55 = .ok (.getfield 37, 3) := by decide +kernel
theorem dX3_admit_58 : decode cX3_admit 58 = .ok (.iconst 0, 1) := by decide +kernel
theorem dX3_admit_59 : decode cX3_admit 59 = .ok (.iastore, 1) := by decide +kernel
theorem dX3_admit_60 : decode cX3_admit 60 = .ok (.aload_n 0, 1) := by decide +kernel
theorem dX3_admit_61 : decode cX3_admit 61 = .ok (.dup, 1) := by decide +kernel
theorem dX3_admit_62 : decode cX3_admit 62 = .ok (.getfield 37, 3) := by decide +kernel
theorem dX3_admit_65 : decode cX3_admit 65 = .ok (.iconst 1, 1) := by decide +kernel
theorem dX3_admit_66 : decode cX3_admit 66 = .ok (.iadd, 1) := by decide +kernel
theorem dX3_admit_67 : decode cX3_admit 67 = .ok (.putfield 37, 3) := by decide +kernel
theorem dX3_admit_70 : decode cX3_admit 70 = .ok (.return_, 1) := by decide +kernel
theorem dX3_look_0 : decode cX3_look 0 = .ok (.aload_n 0, 1) := by decide +kernel
theorem dX3_look_1 : decode cX3_look 1 = .ok (.aload_n 0, 1) := by decide +kernel
theorem dX3_look_2 : decode cX3_look 2 = .ok (.getfield 33, 3) := by decide +kernel
theorem dX3_look_5 : decode cX3_look 5 = .ok (.bipush 8, 2) := by decide +kernel
theorem dX3_look_7 : decode cX3_look 7 = .ok (.idiv, 1) := by decide +kernel
theorem dX3_look_8 : decode cX3_look 8 = .ok (.bipush 6, 2) := by decide +kernel
theorem dX3_look_10 : decode cX3_look 10 = .ok (.irem, 1) := by decide +kernel
theorem dX3_look_11 : decode cX3_look 11 = .ok (.putfield 40, 3) := by decide +kernel
theorem dX3_look_14 : decode cX3_look 14 = .ok (.aload_n 0, 1) := by decide +kernel
theorem dX3_look_15 : decode cX3_look 15 = .ok (.aload_n 0, 1) := by decide +kernel
theorem dX3_look_16 : decode cX3_look 16 = .ok (.getfield 9, 3) := by decide +kernel
theorem dX3_look_19 : decode cX3_look 19 = .ok (.aload_n 0, 1) := by decide +kernel
theorem dX3_look_20 : decode cX3_look 20 = .ok (.getfield 40, 3) := by decide +kernel
theorem dX3_look_23 : decode cX3_look 23 = .ok (.iaload, 1) := by decide +kernel
theorem dX3_look_24 : decode cX3_look 24 = .ok (.putfield 43, 3) := by decide +kernel
theorem dX3_look_27 : decode cX3_look 27 = .ok (.aload_n 0, 1) := by decide +kernel
theorem dX3_look_28 : decode cX3_look 28 = .ok (.iconst (-1), 1) := by decide +kernel
theorem dX3_look_29 : decode cX3_look 29 = .ok (.putfield 46, 3) := by decide +kernel
theorem dX3_look_32 : decode cX3_look 32 = .ok (.aload_n 0, 1) := by decide +kernel
theorem dX3_look_33 : decode cX3_look 33 = .ok (.getfield 33, 3) := by decide +kernel
theorem dX3_look_36 : decode cX3_look 36 = .ok (.bipush 48, 2) := by decide +kernel
theorem dX3_look_38 : decode cX3_look 38 = .ok (.irem, 1) := by decide +kernel
theorem dX3_look_39 : decode cX3_look 39 = .ok (.istore_n 1, 1) := by decide +kernel
theorem dX3_look_40 : decode cX3_look 40 = .ok (.iconst 0, 1) := by decide +kernel
theorem dX3_look_41 : decode cX3_look 41 = .ok (.istore_n 2, 1) := by decide +kernel
theorem dX3_look_42 : decode cX3_look 42 = .ok (.iload_n 2, 1) := by decide +kernel
theorem dX3_look_43 : decode cX3_look 43 = .ok (.iconst 3, 1) := by decide +kernel
theorem dX3_look_44 : decode cX3_look 44 = .ok (.if_icmp .ge 24, 3) := by decide +kernel
theorem dX3_look_47 : decode cX3_look 47 = .ok (.aload_n 0, 1) := by decide +kernel
theorem dX3_look_48 : decode cX3_look 48 = .ok (.getfield 15, 3) := by decide +kernel
theorem dX3_look_51 : decode cX3_look 51 = .ok (.iload_n 2, 1) := by decide +kernel
theorem dX3_look_52 : decode cX3_look 52 = .ok (.iaload, 1) := by decide +kernel
theorem dX3_look_53 : decode cX3_look 53 = .ok (.iload_n 1, 1) := by decide +kernel
theorem dX3_look_54 : decode cX3_look 54 = .ok (.if_icmp .ne 8, 3) := by decide +kernel
theorem dX3_look_57 : decode cX3_look 57 = .ok (.aload_n 0, 1) := by decide +kernel
theorem dX3_look_58 : decode cX3_look 58 = .ok (.iload_n 2, 1) := by decide +kernel
theorem dX3_look_59 : decode cX3_look 59 = .ok (.putfield 46, 3) := by decide +kernel
theorem dX3_look_62 : decode cX3_look 62 = .ok (.iinc 2 1, 3) := by decide +kernel
theorem dX3_look_65 : decode cX3_look 65 = .ok (.goto (-23), 3) := by decide +kernel
theorem dX3_look_68 : decode cX3_look 68 = .ok (.return_, 1) := by decide +kernel
theorem dX3_guest_0 : decode cX3_guest 0 = .ok (.aload_n 0, 1) := by decide +kernel
theorem dX3_guest_1 : decode cX3_guest 1 = .ok (.getfield 55, 3) := by decide +kernel
theorem dX3_guest_4 : decode cX3_guest 4 = .ok (.aload_n 0, 1) := by decide +kernel
theorem dX3_guest_5 : decode cX3_guest 5 = .ok (.getfield 18, 3) := by decide +kernel
theorem dX3_guest_8 : decode cX3_guest 8 = .ok (.iload_n 1, 1) := by decide +kernel
theorem dX3_guest_9 : decode cX3_guest 9 = .ok (.iaload, 1) := by decide +kernel
theorem dX3_guest_10 : decode cX3_guest 10 = .ok (.invokevirtual 65, 3) := by decide +kernel
theorem dX3_guest_13 : decode cX3_guest 13 = .ok (.areturn, 1) := by decide +kernel
theorem dX3_isDeceived_0 : decode cX3_isDeceived 0 = .ok (.aload_n 0, 1) := by decide +kernel
theorem dX3_isDeceived_1 : decode cX3_isDeceived 1 = .ok (.getfield 46, 3) := by decide +kernel
theorem dX3_isDeceived_4 : decode cX3_isDeceived 4 = .ok (.ifCond .lt 20, 3) := by decide +kernel
theorem dX3_isDeceived_7 : decode cX3_isDeceived 7 = .ok (.aload_n 0, 1) := by decide +kernel
theorem dX3_isDeceived_8 : decode cX3_isDeceived 8 = .ok (.iload_n 1, 1) := by decide +kernel
theorem dX3_isDeceived_9 : decode cX3_isDeceived 9 = .ok (.invokevirtual 71, 3) := by decide +kernel
theorem dX3_isDeceived_12 : decode cX3_isDeceived 12 = .ok (.aload_n 0, 1) := by decide +kernel
theorem dX3_isDeceived_13 : decode cX3_isDeceived 13 = .ok (.iload_n 1, 1) := by decide +kernel
theorem dX3_isDeceived_14 : decode cX3_isDeceived 14 = .ok (.invokevirtual 74, 3) := by decide +kernel
theorem dX3_isDeceived_17 : decode cX3_isDeceived 17 = .ok (.ifCond .eq 7, 3) := by decide +kernel
theorem dX3_isDeceived_20 : decode cX3_isDeceived 20 = .ok (.iconst 1, 1) := by decide +kernel
theorem dX3_isDeceived_21 : decode cX3_isDeceived 21 = .ok (.goto 4, 3) := by decide +kernel
theorem dX3_isDeceived_24 : decode cX3_isDeceived 24 = .ok (.iconst 0, 1) := by decide +kernel
theorem dX3_isDeceived_25 : decode cX3_isDeceived 25 = .ok (.ireturn, 1) := by decide +kernel
theorem dX3_dueOf_0 : decode cX3_dueOf 0 = .ok (.aload_n 0, 1) := by decide +kernel
theorem dX3_dueOf_1 : decode cX3_dueOf 1 = .ok (.iload_n 1, 1) := by decide +kernel
theorem dX3_dueOf_2 : decode cX3_dueOf 2 = .ok (.invokevirtual 71, 3) := by decide +kernel
theorem dX3_dueOf_5 : decode cX3_dueOf 5 = .ok (.astore_n 2, 1) := by decide +kernel
theorem dX3_dueOf_6 : decode cX3_dueOf 6 = .ok (.aload_n 0, 1) := by decide +kernel
theorem dX3_dueOf_7 : decode cX3_dueOf 7 = .ok (.getfield 46, 3) := by decide +kernel
theorem dX3_dueOf_10 : decode cX3_dueOf 10 = .ok (.ifCond .lt 16, 3) := by decide +kernel
theorem dX3_dueOf_13 : decode cX3_dueOf 13 = .ok (.aload_n 2, 1) := by decide +kernel
theorem dX3_dueOf_14 : decode cX3_dueOf 14 = .ok (.aload_n 0, 1) := by decide +kernel
theorem dX3_dueOf_15 : decode cX3_dueOf 15 = .ok (.iload_n 1, 1) := by decide +kernel
theorem dX3_dueOf_16 : decode cX3_dueOf 16 = .ok (.invokevirtual 74, 3) := by decide +kernel
theorem dX3_dueOf_19 : decode cX3_dueOf 19 = .ok (.ifCond .eq 7, 3) := by decide +kernel
theorem dX3_dueOf_22 : decode cX3_dueOf 22 = .ok (.iconst 0, 1) := by decide +kernel
theorem dX3_dueOf_23 : decode cX3_dueOf 23 = .ok (.goto 9, 3) := by decide +kernel
theorem dX3_dueOf_26 : decode cX3_dueOf 26 = .ok (.aload_n 2, 1) := by decide +kernel
theorem dX3_dueOf_27 : decode cX3_dueOf 27 = .ok (.aload_n 0, 1) := by decide +kernel
theorem dX3_dueOf_28 : decode cX3_dueOf 28 = .ok (.iload_n 1, 1) := by decide +kernel
theorem dX3_dueOf_29 : decode cX3_dueOf 29 = .ok (.invokevirtual 80, 3) := by decide +kernel
theorem dX3_dueOf_32 : decode cX3_dueOf 32 = .ok (.ireturn, 1) := by decide +kernel
theorem dX3_go_0 : decode cX3_go 0 = .ok (.iconst 0, 1) := by decide +kernel
theorem dX3_go_1 : decode cX3_go 1 = .ok (.istore_n 2, 1) := by decide +kernel
theorem dX3_go_2 : decode cX3_go 2 = .ok (.iload_n 2, 1) := by decide +kernel
theorem dX3_go_3 : decode cX3_go 3 = .ok (.iload_n 1, 1) := by decide +kernel
theorem dX3_go_4 : decode cX3_go 4 = .ok (.if_icmp .ge 13, 3) := by decide +kernel
theorem dX3_go_7 : decode cX3_go 7 = .ok (.aload_n 0, 1) := by decide +kernel
theorem dX3_go_8 : decode cX3_go 8 = .ok (.invokevirtual 84, 3) := by decide +kernel
theorem dX3_go_11 : decode cX3_go 11 = .ok (.iinc 2 1, 3) := by decide +kernel
theorem dX3_go_14 : decode cX3_go 14 = .ok (.goto (-12), 3) := by decide +kernel
theorem dX3_go_17 : decode cX3_go 17 = .ok (.return_, 1) := by decide +kernel
theorem dX3_passMinute_0 : decode cX3_passMinute 0 = .ok (.aload_n 0, 1) := by decide +kernel
theorem dX3_passMinute_1 : decode cX3_passMinute 1 = .ok (.invokevirtual 87, 3) := by decide +kernel
theorem dX3_passMinute_4 : decode cX3_passMinute 4 = .ok (.iconst 0, 1) := by decide +kernel
theorem dX3_passMinute_5 : decode cX3_passMinute 5 = .ok (.istore_n 1, 1) := by decide +kernel
theorem dX3_passMinute_6 : decode cX3_passMinute 6 = .ok (.iload_n 1, 1) := by decide +kernel
theorem dX3_passMinute_7 : decode cX3_passMinute 7 = .ok (.aload_n 0, 1) := by decide +kernel
theorem dX3_passMinute_8 : decode cX3_passMinute 8 = .ok (.getfield 37, 3) := by decide +kernel
theorem dX3_passMinute_11 : decode cX3_passMinute 11 = .ok (.if_icmp .ge 72, 3) := by decide +kernel
theorem dX3_passMinute_14 : decode cX3_passMinute 14 = .ok (.aload_n 0, 1) := by decide +kernel
theorem dX3_passMinute_15 : decode cX3_passMinute 15 = .ok (.iload_n 1, 1) := by decide +kernel
theorem dX3_passMinute_16 : decode cX3_passMinute 16 = .ok (.invokevirtual 90, 3) := by decide +kernel
theorem dX3_passMinute_19 : decode cX3_passMinute 19 = .ok (.istore_n 2, 1) := by decide +kernel
theorem dX3_passMinute_20 : decode cX3_passMinute 20 = .ok (.iload_n 2, 1) := by decide +kernel
theorem dX3_passMinute_21 : decode cX3_passMinute 21 = .ok (.aload_n 0, 1) := by decide +kernel
theorem dX3_passMinute_22 : decode cX3_passMinute 22 = .ok (.getfield 21, 3) := by decide +kernel
theorem dX3_passMinute_25 : decode cX3_passMinute 25 = .ok (.iload_n 1, 1) := by decide +kernel
theorem dX3_passMinute_26 : decode cX3_passMinute 26 = .ok (.iaload, 1) := by decide +kernel
theorem dX3_passMinute_27 : decode cX3_passMinute 27 = .ok (.isub, 1) := by decide +kernel
theorem dX3_passMinute_28 : decode cX3_passMinute 28 = .ok (.istore_n 3, 1) := by decide +kernel
theorem dX3_passMinute_29 : decode cX3_passMinute 29 = .ok (.aload_n 0, 1) := by decide +kernel
theorem dX3_passMinute_30 : decode cX3_passMinute 30 = .ok (.iload_n 1, 1) := by decide +kernel
theorem dX3_passMinute_31 : decode cX3_passMinute 31 = .ok (.invokevirtual 71, 3) := by decide +kernel
theorem dX3_passMinute_34 : decode cX3_passMinute 34 = .ok (.aload_n 0, 1) := by decide +kernel
theorem dX3_passMinute_35 : decode cX3_passMinute 35 = .ok (.iload_n 1, 1) := by decide +kernel
theorem dX3_passMinute_36 : decode cX3_passMinute 36 = .ok (.iload_n 2, 1) := by decide +kernel
theorem dX3_passMinute_37 : decode cX3_passMinute 37 = .ok (.invokevirtual 94, 3) := by decide +kernel
theorem dX3_passMinute_40 : decode cX3_passMinute 40 = .ok (.iload_n 3, 1) := by decide +kernel
theorem dX3_passMinute_41 : decode cX3_passMinute 41 = .ok (.invokestatic 98, 3) := by decide +kernel
theorem dX3_passMinute_44 : decode cX3_passMinute 44 = .ok (.invokestatic 103, 3) := by decide +kernel
theorem dX3_passMinute_47 : decode cX3_passMinute 47 = .ok (.istore 4, 2) := by decide +kernel
theorem dX3_passMinute_49 : decode cX3_passMinute 49 = .ok (.aload_n 0, 1) := by decide +kernel
theorem dX3_passMinute_50 : decode cX3_passMinute 50 = .ok (.getfield 21, 3) := by decide +kernel
theorem dX3_passMinute_53 : decode cX3_passMinute 53 = .ok (.iload_n 1, 1) := by decide +kernel
theorem dX3_passMinute_54 : decode cX3_passMinute 54 = .ok (.dup2, 1) := by decide +kernel
theorem dX3_passMinute_55 : decode cX3_passMinute 55 = .ok (.iaload, 1) := by decide +kernel
theorem dX3_passMinute_56 : decode cX3_passMinute 56 = .ok (.iload_n 3, 1) := by decide +kernel
theorem dX3_passMinute_57 : decode cX3_passMinute 57 = .ok (.ifCond .le 8, 3) := by decide +kernel
theorem dX3_passMinute_60 : decode cX3_passMinute 60 = .ok (.iload 4, 2) := by decide +kernel
theorem dX3_passMinute_62 : decode cX3_passMinute 62 = .ok (.goto 6, 3) := by decide +kernel
theorem dX3_passMinute_65 : decode cX3_passMinute 65 = .ok (.iload 4, 2) := by decide +kernel
theorem dX3_passMinute_67 : decode cX3_passMinute 67 = .ok (.ineg, 1) := by decide +kernel
theorem dX3_passMinute_68 : decode cX3_passMinute 68 = .ok (.iadd, 1) := by decide +kernel
theorem dX3_passMinute_69 : decode cX3_passMinute 69 = .ok (.iastore, 1) := by decide +kernel
theorem dX3_passMinute_70 : decode cX3_passMinute 70 = .ok (.aload_n 0, 1) := by decide +kernel
theorem dX3_passMinute_71 : decode cX3_passMinute 71 = .ok (.getfield 49, 3) := by decide +kernel
theorem dX3_passMinute_74 : decode cX3_passMinute 74 = .ok (.iload_n 1, 1) := by decide +kernel
theorem dX3_passMinute_75 : decode cX3_passMinute 75 = .ok (.iload_n 2, 1) := by decide +kernel
theorem dX3_passMinute_76 : decode cX3_passMinute 76 = .ok (.iastore, 1) := by decide +kernel
theorem dX3_passMinute_77 : decode cX3_passMinute 77 = .ok (.iinc 1 1, 3) := by decide +kernel
theorem dX3_passMinute_80 : decode cX3_passMinute 80 = .ok (.goto (-74), 3) := by decide +kernel
theorem dX3_passMinute_83 : decode cX3_passMinute 83 = .ok (.aload_n 0, 1) := by decide +kernel
theorem dX3_passMinute_84 : decode cX3_passMinute 84 = .ok (.invokevirtual 107, 3) := by decide +kernel
theorem dX3_passMinute_87 : decode cX3_passMinute 87 = .ok (.aload_n 0, 1) := by decide +kernel
theorem dX3_passMinute_88 : decode cX3_passMinute 88 = .ok (.dup, 1) := by decide +kernel
theorem dX3_passMinute_89 : decode cX3_passMinute 89 = .ok (.getfield 33, 3) := by decide +kernel
theorem dX3_passMinute_92 : decode cX3_passMinute 92 = .ok (.iconst 1, 1) := by decide +kernel
theorem dX3_passMinute_93 : decode cX3_passMinute 93 = .ok (.iadd, 1) := by decide +kernel
theorem dX3_passMinute_94 : decode cX3_passMinute 94 = .ok (.putfield 33, 3) := by decide +kernel
theorem dX3_passMinute_97 : decode cX3_passMinute 97 = .ok (.return_, 1) := by decide +kernel
theorem dX3_markMinute_0 : decode cX3_markMinute 0 = .ok (.aload_n 0, 1) := by decide +kernel
theorem dX3_markMinute_1 : decode cX3_markMinute 1 = .ok (.iconst 0, 1) := by decide +kernel
theorem dX3_markMinute_2 : decode cX3_markMinute 2 = .ok (.putfield 52, 3) := by decide +kernel
theorem dX3_markMinute_5 : decode cX3_markMinute 5 = .ok (.iconst 0, 1) := by decide +kernel
theorem dX3_markMinute_6 : decode cX3_markMinute 6 = .ok (.istore_n 1, 1) := by decide +kernel
theorem dX3_markMinute_7 : decode cX3_markMinute 7 = .ok (.iload_n 1, 1) := by decide +kernel
theorem dX3_markMinute_8 : decode cX3_markMinute 8 = .ok (.aload_n 0, 1) := by decide +kernel
theorem dX3_markMinute_9 : decode cX3_markMinute 9 = .ok (.getfield 37, 3) := by decide +kernel
theorem dX3_markMinute_12 : decode cX3_markMinute 12 = .ok (.if_icmp .ge 86, 3) := by decide +kernel
theorem dX3_markMinute_15 : decode cX3_markMinute 15 = .ok (.aload_n 0, 1) := by decide +kernel
theorem dX3_markMinute_16 : decode cX3_markMinute 16 = .ok (.getfield 21, 3) := by decide +kernel
theorem dX3_markMinute_19 : decode cX3_markMinute 19 = .ok (.iload_n 1, 1) := by decide +kernel
theorem dX3_markMinute_20 : decode cX3_markMinute 20 = .ok (.iaload, 1) := by decide +kernel
theorem dX3_markMinute_21 : decode cX3_markMinute 21 = .ok (.aload_n 0, 1) := by decide +kernel
theorem dX3_markMinute_22 : decode cX3_markMinute 22 = .ok (.getfield 49, 3) := by decide +kernel
theorem dX3_markMinute_25 : decode cX3_markMinute 25 = .ok (.iload_n 1, 1) := by decide +kernel
theorem dX3_markMinute_26 : decode cX3_markMinute 26 = .ok (.iaload, 1) := by decide +kernel
theorem dX3_markMinute_27 : decode cX3_markMinute 27 = .ok (.if_icmp .ne 38, 3) := by decide +kernel
theorem dX3_markMinute_30 : decode cX3_markMinute 30 = .ok (.aload_n 0, 1) := by decide +kernel
theorem dX3_markMinute_31 : decode cX3_markMinute 31 = .ok (.getfield 27, 3) := by decide +kernel
theorem dX3_markMinute_34 : decode cX3_markMinute 34 = .ok (.iload_n 1, 1) := by decide +kernel
theorem dX3_markMinute_35 : decode cX3_markMinute 35 = .ok (.sipush 9999, 3) := by decide +kernel
theorem dX3_markMinute_38 : decode cX3_markMinute 38 = .ok (.aload_n 0, 1) := by decide +kernel
theorem dX3_markMinute_39 : decode cX3_markMinute 39 = .ok (.getfield 27, 3) := by decide +kernel
theorem dX3_markMinute_42 : decode cX3_markMinute 42 = .ok (.iload_n 1, 1) := by decide +kernel
theorem dX3_markMinute_43 : decode cX3_markMinute 43 = .ok (.iaload, 1) := by decide +kernel
theorem dX3_markMinute_44 : decode cX3_markMinute 44 = .ok (.iconst 1, 1) := by decide +kernel
theorem dX3_markMinute_45 : decode cX3_markMinute 45 = .ok (.iadd, 1) := by decide +kernel
theorem dX3_markMinute_46 : decode cX3_markMinute 46 = .ok (.invokestatic 103, 3) := by decide +kernel
theorem dX3_markMinute_49 : decode cX3_markMinute 49 = .ok (.iastore, 1) := by decide +kernel
theorem dX3_markMinute_50 : decode cX3_markMinute 50 = .ok (.aload_n 0, 1) := by decide +kernel
theorem dX3_markMinute_51 : decode cX3_markMinute 51 = .ok (.dup, 1) := by decide +kernel
theorem dX3_markMinute_52 : decode cX3_markMinute 52 = .ok (.getfield 52, 3) := by decide +kernel
theorem dX3_markMinute_55 : decode cX3_markMinute 55 = .ok (.iconst 1, 1) := by decide +kernel
theorem dX3_markMinute_56 : decode cX3_markMinute 56 = .ok (.iload_n 1, 1) := by decide +kernel
theorem dX3_markMinute_57 : decode cX3_markMinute 57 = .ok (.ishl, 1) := by decide +kernel
theorem dX3_markMinute_58 : decode cX3_markMinute 58 = .ok (.ior, 1) := by decide +kernel
theorem dX3_markMinute_59 : decode cX3_markMinute 59 = .ok (.putfield 52, 3) := by decide +kernel
theorem dX3_markMinute_62 : decode cX3_markMinute 62 = .ok (.goto 30, 3) := by decide +kernel
theorem dX3_markMinute_65 : decode cX3_markMinute 65 = .ok (.aload_n 0, 1) := by decide +kernel
theorem dX3_markMinute_66 : decode cX3_markMinute 66 = .ok (.getfield 30, 3) := by decide +kernel
theorem dX3_markMinute_69 : decode cX3_markMinute 69 = .ok (.iload_n 1, 1) := by decide +kernel
theorem dX3_markMinute_70 : decode cX3_markMinute 70 = .ok (.sipush 9999, 3) := by decide +kernel
theorem dX3_markMinute_73 : decode cX3_markMinute 73 = .ok (.aload_n 0, 1) := by decide +kernel
theorem dX3_markMinute_74 : decode cX3_markMinute 74 = .ok (.getfield 30, 3) := by decide +kernel
theorem dX3_markMinute_77 : decode cX3_markMinute 77 = .ok (.iload_n 1, 1) := by decide +kernel
theorem dX3_markMinute_78 : decode cX3_markMinute 78 = .ok (.iaload, 1) := by decide +kernel
theorem dX3_markMinute_79 : decode cX3_markMinute 79 = .ok (.aload_n 0, 1) := by decide +kernel
theorem dX3_markMinute_80 : decode cX3_markMinute 80 = .ok (.iload_n 1, 1) := by decide +kernel
theorem dX3_markMinute_81 : decode cX3_markMinute 81 = .ok (.invokevirtual 71, 3) := by decide +kernel
theorem dX3_markMinute_84 : decode cX3_markMinute 84 = .ok (.invokevirtual 110, 3) := by decide +kernel
theorem dX3_markMinute_87 : decode cX3_markMinute 87 = .ok (.iadd, 1) := by decide +kernel
theorem dX3_markMinute_88 : decode cX3_markMinute 88 = .ok (.invokestatic 103, 3) := by decide +kernel
theorem dX3_markMinute_91 : decode cX3_markMinute 91 = .ok (.iastore, 1) := by decide +kernel
theorem dX3_markMinute_92 : decode cX3_markMinute 92 = .ok (.iinc 1 1, 3) := by decide +kernel
theorem dX3_markMinute_95 : decode cX3_markMinute 95 = .ok (.goto (-88), 3) := by decide +kernel
theorem dX3_markMinute_98 : decode cX3_markMinute 98 = .ok (.return_, 1) := by decide +kernel
theorem dX3_isBarred_0 : decode cX3_isBarred 0 = .ok (.aload_n 0, 1) := by decide +kernel
theorem dX3_isBarred_1 : decode cX3_isBarred 1 = .ok (.getfield 21, 3) := by decide +kernel
theorem dX3_isBarred_4 : decode cX3_isBarred 4 = .ok (.iload_n 1, 1) := by decide +kernel
theorem dX3_isBarred_5 : decode cX3_isBarred 5 = .ok (.iaload, 1) := by decide +kernel
theorem dX3_isBarred_6 : decode cX3_isBarred 6 = .ok (.iload_n 2, 1) := by decide +kernel
theorem dX3_isBarred_7 : decode cX3_isBarred 7 = .ok (.if_icmp .ne 5, 3) := by decide +kernel
theorem dX3_isBarred_10 : decode cX3_isBarred 10 = .ok (.iconst 0, 1) := by decide +kernel
theorem dX3_isBarred_11 : decode cX3_isBarred 11 = .ok (.ireturn, 1) := by decide +kernel
theorem dX3_isBarred_12 : decode cX3_isBarred 12 = .ok (.aload_n 0, 1) := by decide +kernel
theorem dX3_isBarred_13 : decode cX3_isBarred 13 = .ok (.getfield 21, 3) := by decide +kernel
theorem dX3_isBarred_16 : decode cX3_isBarred 16 = .ok (.iload_n 1, 1) := by decide +kernel
theorem dX3_isBarred_17 : decode cX3_isBarred 17 = .ok (.iaload, 1) := by decide +kernel
theorem dX3_isBarred_18 : decode cX3_isBarred 18 = .ok (.iload_n 2, 1) := by decide +kernel
theorem dX3_isBarred_19 : decode cX3_isBarred 19 = .ok (.if_icmp .ge 14, 3) := by decide +kernel
theorem dX3_isBarred_22 : decode cX3_isBarred 22 = .ok (.aload_n 0, 1) := by decide +kernel
theorem dX3_isBarred_23 : decode cX3_isBarred 23 = .ok (.getfield 21, 3) := by decide +kernel
theorem dX3_isBarred_26 : decode cX3_isBarred 26 = .ok (.iload_n 1, 1) := by decide +kernel
theorem dX3_isBarred_27 : decode cX3_isBarred 27 = .ok (.iaload, 1) := by decide +kernel
theorem dX3_isBarred_28 : decode cX3_isBarred 28 = .ok (.iconst 1, 1) := by decide +kernel
theorem dX3_isBarred_29 : decode cX3_isBarred 29 = .ok (.iadd, 1) := by decide +kernel
theorem dX3_isBarred_30 : decode cX3_isBarred 30 = .ok (.goto 11, 3) := by decide +kernel
theorem dX3_isBarred_33 : decode cX3_isBarred 33 = .ok (.aload_n 0, 1) := by decide +kernel
theorem dX3_isBarred_34 : decode cX3_isBarred 34 = .ok (.getfield 21, 3) := by decide +kernel
theorem dX3_isBarred_37 : decode cX3_isBarred 37 = .ok (.iload_n 1, 1) := by decide +kernel
theorem dX3_isBarred_38 : decode cX3_isBarred 38 = .ok (.iaload, 1) := by decide +kernel
theorem dX3_isBarred_39 : decode cX3_isBarred 39 = .ok (.iconst 1, 1) := by decide +kernel
theorem dX3_isBarred_40 : decode cX3_isBarred 40 = .ok (.isub, 1) := by decide +kernel
theorem dX3_isBarred_41 : decode cX3_isBarred 41 = .ok (.istore_n 3, 1) := by decide +kernel
theorem dX3_isBarred_42 : decode cX3_isBarred 42 = .ok (.iconst 0, 1) := by decide +kernel
theorem dX3_isBarred_43 : decode cX3_isBarred 43 = .ok (.istore 4, 2) := by decide +kernel
theorem dX3_isBarred_45 : decode cX3_isBarred 45 = .ok (.iload 4, 2) := by decide +kernel
theorem dX3_isBarred_47 : decode cX3_isBarred 47 = .ok (.aload_n 0, 1) := by decide +kernel
theorem dX3_isBarred_48 : decode cX3_isBarred 48 = .ok (.getfield 37, 3) := by decide +kernel
theorem dX3_isBarred_51 : decode cX3_isBarred 51 = .ok (.if_icmp .ge 28, 3) := by decide +kernel
theorem dX3_isBarred_54 : decode cX3_isBarred 54 = .ok (.iload 4, 2) := by decide +kernel
theorem dX3_isBarred_56 : decode cX3_isBarred 56 = .ok (.iload_n 1, 1) := by decide +kernel
theorem dX3_isBarred_57 : decode cX3_isBarred 57 = .ok (.if_icmp .eq 16, 3) := by decide +kernel
theorem dX3_isBarred_60 : decode cX3_isBarred 60 = .ok (.aload_n 0, 1) := by decide +kernel
theorem dX3_isBarred_61 : decode cX3_isBarred 61 = .ok (.getfield 21, 3) := by decide +kernel
theorem dX3_isBarred_64 : decode cX3_isBarred 64 = .ok (.iload 4, 2) := by decide +kernel
theorem dX3_isBarred_66 : decode cX3_isBarred 66 = .ok (.iaload, 1) := by decide +kernel
theorem dX3_isBarred_67 : decode cX3_isBarred 67 = .ok (.iload_n 3, 1) := by decide +kernel
theorem dX3_isBarred_68 : decode cX3_isBarred 68 = .ok (.if_icmp .ne 5, 3) := by decide +kernel
theorem dX3_isBarred_71 : decode cX3_isBarred 71 = .ok (.iconst 1, 1) := by decide +kernel
theorem dX3_isBarred_72 : decode cX3_isBarred 72 = .ok (.ireturn, 1) := by decide +kernel
theorem dX3_isBarred_73 : decode cX3_isBarred 73 = .ok (.iinc 4 1, 3) := by decide +kernel
theorem dX3_isBarred_76 : decode cX3_isBarred 76 = .ok (.goto (-31), 3) := by decide +kernel
theorem dX3_isBarred_79 : decode cX3_isBarred 79 = .ok (.iconst 0, 1) := by decide +kernel
theorem dX3_isBarred_80 : decode cX3_isBarred 80 = .ok (.ireturn, 1) := by decide +kernel
theorem dX3_whoIsAt_0 : decode cX3_whoIsAt 0 = .ok (.iconst 0, 1) := by decide +kernel
theorem dX3_whoIsAt_1 : decode cX3_whoIsAt 1 = .ok (.istore_n 2, 1) := by decide +kernel
theorem dX3_whoIsAt_2 : decode cX3_whoIsAt 2 = .ok (.iconst 0, 1) := by decide +kernel
theorem dX3_whoIsAt_3 : decode cX3_whoIsAt 3 = .ok (.istore_n 3, 1) := by decide +kernel
theorem dX3_whoIsAt_4 : decode cX3_whoIsAt 4 = .ok (.iload_n 3, 1) := by decide +kernel
theorem dX3_whoIsAt_5 : decode cX3_whoIsAt 5 = .ok (.aload_n 0, 1) := by decide +kernel
theorem dX3_whoIsAt_6 : decode cX3_whoIsAt 6 = .ok (.getfield 37, 3) := by decide +kernel
theorem dX3_whoIsAt_9 : decode cX3_whoIsAt 9 = .ok (.if_icmp .ge 25, 3) := by decide +kernel
theorem dX3_whoIsAt_12 : decode cX3_whoIsAt 12 = .ok (.aload_n 0, 1) := by decide +kernel
theorem dX3_whoIsAt_13 : decode cX3_whoIsAt 13 = .ok (.getfield 21, 3) := by decide +kernel
theorem dX3_whoIsAt_16 : decode cX3_whoIsAt 16 = .ok (.iload_n 3, 1) := by decide +kernel
theorem dX3_whoIsAt_17 : decode cX3_whoIsAt 17 = .ok (.iaload, 1) := by decide +kernel
theorem dX3_whoIsAt_18 : decode cX3_whoIsAt 18 = .ok (.iload_n 1, 1) := by decide +kernel
theorem dX3_whoIsAt_19 : decode cX3_whoIsAt 19 = .ok (.if_icmp .ne 9, 3) := by decide +kernel
theorem dX3_whoIsAt_22 : decode cX3_whoIsAt 22 = .ok (.iload_n 2, 1) := by decide +kernel
theorem dX3_whoIsAt_23 : decode cX3_whoIsAt 23 = .ok (.iconst 1, 1) := by decide +kernel
theorem dX3_whoIsAt_24 : decode cX3_whoIsAt 24 = .ok (.iload_n 3, 1) := by decide +kernel
theorem dX3_whoIsAt_25 : decode cX3_whoIsAt 25 = .ok (.ishl, 1) := by decide +kernel
theorem dX3_whoIsAt_26 : decode cX3_whoIsAt 26 = .ok (.ior, 1) := by decide +kernel
theorem dX3_whoIsAt_27 : decode cX3_whoIsAt 27 = .ok (.istore_n 2, 1) := by decide +kernel
theorem dX3_whoIsAt_28 : decode cX3_whoIsAt 28 = .ok (.iinc 3 1, 3) := by decide +kernel
theorem dX3_whoIsAt_31 : decode cX3_whoIsAt 31 = .ok (.goto (-27), 3) := by decide +kernel
theorem dX3_whoIsAt_34 : decode cX3_whoIsAt 34 = .ok (.iload_n 2, 1) := by decide +kernel
theorem dX3_whoIsAt_35 : decode cX3_whoIsAt 35 = .ok (.ireturn, 1) := by decide +kernel
theorem dX3_whoIsDueHere_0 : decode cX3_whoIsDueHere 0 = .ok (.iconst 0, 1) := by decide +kernel
theorem dX3_whoIsDueHere_1 : decode cX3_whoIsDueHere 1 = .ok (.istore_n 1, 1) := by decide +kernel
theorem dX3_whoIsDueHere_2 : decode cX3_whoIsDueHere 2 = .ok (.iconst 0, 1) := by decide +kernel
theorem dX3_whoIsDueHere_3 : decode cX3_whoIsDueHere 3 = .ok (.istore_n 2, 1) := by decide +kernel
theorem dX3_whoIsDueHere_4 : decode cX3_whoIsDueHere 4 = .ok (.iload_n 2, 1) := by decide +kernel
theorem dX3_whoIsDueHere_5 : decode cX3_whoIsDueHere 5 = .ok (.aload_n 0, 1) := by decide +kernel
theorem dX3_whoIsDueHere_6 : decode cX3_whoIsDueHere 6 = .ok (.getfield 37, 3) := by decide +kernel
theorem dX3_whoIsDueHere_9 : decode cX3_whoIsDueHere 9 = .ok (.if_icmp .ge 29, 3) := by decide +kernel
theorem dX3_whoIsDueHere_12 : decode cX3_whoIsDueHere 12 = .ok (.aload_n 0, 1) := by decide +kernel
theorem dX3_whoIsDueHere_13 : decode cX3_whoIsDueHere 13 = .ok (.getfield 21, 3) := by decide +kernel
theorem dX3_whoIsDueHere_16 : decode cX3_whoIsDueHere 16 = .ok (.iload_n 2, 1) := by decide +kernel
theorem dX3_whoIsDueHere_17 : decode cX3_whoIsDueHere 17 = .ok (.iaload, 1) := by decide +kernel
theorem dX3_whoIsDueHere_18 : decode cX3_whoIsDueHere 18 = .ok (.aload_n 0, 1) := by decide +kernel
theorem dX3_whoIsDueHere_19 : decode cX3_whoIsDueHere 19 = .ok (.iload_n 2, 1) := by decide +kernel
theorem dX3_whoIsDueHere_20 : decode cX3_whoIsDueHere 20 = .ok (.invokevirtual 90, 3) := by decide +kernel
theorem dX3_whoIsDueHere_23 : decode cX3_whoIsDueHere 23 = .ok (.if_icmp .ne 9, 3) := by decide +kernel
theorem dX3_whoIsDueHere_26 : decode cX3_whoIsDueHere 26 = .ok (.iload_n 1, 1) := by decide +kernel
theorem dX3_whoIsDueHere_27 : decode cX3_whoIsDueHere 27 = .ok (.iconst 1, 1) := by decide +kernel
theorem dX3_whoIsDueHere_28 : decode cX3_whoIsDueHere 28 = .ok (.iload_n 2, 1) := by decide +kernel
theorem dX3_whoIsDueHere_29 : decode cX3_whoIsDueHere 29 = .ok (.ishl, 1) := by decide +kernel
theorem dX3_whoIsDueHere_30 : decode cX3_whoIsDueHere 30 = .ok (.ior, 1) := by decide +kernel
theorem dX3_whoIsDueHere_31 : decode cX3_whoIsDueHere 31 = .ok (.istore_n 1, 1) := by decide +kernel
theorem dX3_whoIsDueHere_32 : decode cX3_whoIsDueHere 32 = .ok (.iinc 2 1, 3) := by decide +kernel
theorem dX3_whoIsDueHere_35 : decode cX3_whoIsDueHere 35 = .ok (.goto (-31), 3) := by decide +kernel
theorem dX3_whoIsDueHere_38 : decode cX3_whoIsDueHere 38 = .ok (.iload_n 1, 1) := by decide +kernel
theorem dX3_whoIsDueHere_39 : decode cX3_whoIsDueHere 39 = .ok (.ireturn, 1) := by decide +kernel
theorem dX3_sumOf_0 : decode cX3_sumOf 0 = .ok (.iconst 0, 1) := by decide +kernel
theorem dX3_sumOf_1 : decode cX3_sumOf 1 = .ok (.istore_n 2, 1) := by decide +kernel
theorem dX3_sumOf_2 : decode cX3_sumOf 2 = .ok (.iconst 0, 1) := by decide +kernel
theorem dX3_sumOf_3 : decode cX3_sumOf 3 = .ok (.istore_n 3, 1) := by decide +kernel
theorem dX3_sumOf_4 : decode cX3_sumOf 4 = .ok (.iload_n 3, 1) := by decide +kernel
theorem dX3_sumOf_5 : decode cX3_sumOf 5 = .ok (.aload_n 0, 1) := by decide +kernel
theorem dX3_sumOf_6 : decode cX3_sumOf 6 = .ok (.getfield 37, 3) := by decide +kernel
theorem dX3_sumOf_9 : decode cX3_sumOf 9 = .ok (.if_icmp .ge 15, 3) := by decide +kernel
theorem dX3_sumOf_12 : decode cX3_sumOf 12 = .ok (.iload_n 2, 1) := by decide +kernel
theorem dX3_sumOf_13 : decode cX3_sumOf 13 = .ok (.aload_n 1, 1) := by decide +kernel
theorem dX3_sumOf_14 : decode cX3_sumOf 14 = .ok (.iload_n 3, 1) := by decide +kernel
theorem dX3_sumOf_15 : decode cX3_sumOf 15 = .ok (.iaload, 1) := by decide +kernel
theorem dX3_sumOf_16 : decode cX3_sumOf 16 = .ok (.iadd, 1) := by decide +kernel
theorem dX3_sumOf_17 : decode cX3_sumOf 17 = .ok (.istore_n 2, 1) := by decide +kernel
theorem dX3_sumOf_18 : decode cX3_sumOf 18 = .ok (.iinc 3 1, 3) := by decide +kernel
theorem dX3_sumOf_21 : decode cX3_sumOf 21 = .ok (.goto (-17), 3) := by decide +kernel
theorem dX3_sumOf_24 : decode cX3_sumOf 24 = .ok (.iload_n 2, 1) := by decide +kernel
theorem dX3_sumOf_25 : decode cX3_sumOf 25 = .ok (.ireturn, 1) := by decide +kernel
theorem dX3_sumHarmony_0 : decode cX3_sumHarmony 0 = .ok (.aload_n 0, 1) := by decide +kernel
theorem dX3_sumHarmony_1 : decode cX3_sumHarmony 1 = .ok (.aload_n 0, 1) := by decide +kernel
theorem dX3_sumHarmony_2 : decode cX3_sumHarmony 2 = .ok (.getfield 27, 3) := by decide +kernel
theorem dX3_sumHarmony_5 : decode cX3_sumHarmony 5 = .ok (.invokevirtual 114, 3) := by decide +kernel
theorem dX3_sumHarmony_8 : decode cX3_sumHarmony 8 = .ok (.aload_n 0, 1) := by decide +kernel
theorem dX3_sumHarmony_9 : decode cX3_sumHarmony 9 = .ok (.aload_n 0, 1) := by decide +kernel
theorem dX3_sumHarmony_10 : decode cX3_sumHarmony 10 = .ok (.getfield 30, 3) := by decide +kernel
theorem dX3_sumHarmony_13 : decode cX3_sumHarmony 13 = .ok (.invokevirtual 114, 3) := by decide +kernel
theorem dX3_sumHarmony_16 : decode cX3_sumHarmony 16 = .ok (.isub, 1) := by decide +kernel
theorem dX3_sumHarmony_17 : decode cX3_sumHarmony 17 = .ok (.ireturn, 1) := by decide +kernel
theorem dX4_init_0 : decode cX4_init 0 = .ok (.aload_n 0, 1) := by decide +kernel
theorem dX4_init_1 : decode cX4_init 1 = .ok (.invokespecial 1, 3) := by decide +kernel
theorem dX4_init_4 : decode cX4_init 4 = .ok (.return_, 1) := by decide +kernel
theorem dX4_due_0 : decode cX4_due 0 = .ok (.aload_n 1, 1) := by decide +kernel
theorem dX4_due_1 : decode cX4_due 1 = .ok (.getfield 7, 3) := by decide +kernel
theorem dX4_due_4 : decode cX4_due 4 = .ok (.ireturn, 1) := by decide +kernel
theorem dX4_hears_0 : decode cX4_hears 0 = .ok (.aload_n 1, 1) := by decide +kernel
theorem dX4_hears_1 : decode cX4_hears 1 = .ok (.getfield 13, 3) := by decide +kernel
theorem dX4_hears_4 : decode cX4_hears 4 = .ok (.iload_n 2, 1) := by decide +kernel
theorem dX4_hears_5 : decode cX4_hears 5 = .ok (.iaload, 1) := by decide +kernel
theorem dX4_hears_6 : decode cX4_hears 6 = .ok (.bipush 10, 2) := by decide +kernel
theorem dX4_hears_8 : decode cX4_hears 8 = .ok (.if_icmp .ge 7, 3) := by decide +kernel
theorem dX4_hears_11 : decode cX4_hears 11 = .ok (.iconst 1, 1) := by decide +kernel
theorem dX4_hears_12 : decode cX4_hears 12 = .ok (.goto 4, 3) := by decide +kernel
theorem dX4_hears_15 : decode cX4_hears 15 = .ok (.iconst 0, 1) := by decide +kernel
theorem dX4_hears_16 : decode cX4_hears 16 = .ok (.ireturn, 1) := by decide +kernel
theorem dX4_walks_0 : decode cX4_walks 0 = .ok (.aload_n 1, 1) := by decide +kernel
theorem dX4_walks_1 : decode cX4_walks 1 = .ok (.getfield 17, 3) := by decide +kernel
theorem dX4_walks_4 : decode cX4_walks 4 = .ok (.iload_n 2, 1) := by decide +kernel
theorem dX4_walks_5 : decode cX4_walks 5 = .ok (.iaload, 1) := by decide +kernel
theorem dX4_walks_6 : decode cX4_walks 6 = .ok (.ireturn, 1) := by decide +kernel
theorem dX4_spoils_0 : decode cX4_spoils 0 = .ok (.iconst 1, 1) := by decide +kernel
theorem dX4_spoils_1 : decode cX4_spoils 1 = .ok (.ireturn, 1) := by decide +kernel
theorem dX5_init_0 : decode cX5_init 0 = .ok (.aload_n 0, 1) := by decide +kernel
theorem dX5_init_1 : decode cX5_init 1 = .ok (.invokespecial 3, 3) := by decide +kernel
theorem dX5_init_4 : decode cX5_init 4 = .ok (.return_, 1) := by decide +kernel
theorem dX5_due_0 : decode cX5_due 0 = .ok (.aload_n 1, 1) := by decide +kernel
theorem dX5_due_1 : decode cX5_due 1 = .ok (.getfield 9, 3) := by decide +kernel
theorem dX5_due_4 : decode cX5_due 4 = .ok (.iload_n 2, 1) := by decide +kernel
theorem dX5_due_5 : decode cX5_due 5 = .ok (.iaload, 1) := by decide +kernel
theorem dX5_due_6 : decode cX5_due 6 = .ok (.bipush 11, 2) := by decide +kernel
theorem dX5_due_8 : decode cX5_due 8 = .ok (.if_icmp .lt 7, 3) := by decide +kernel
theorem dX5_due_11 : decode cX5_due 11 = .ok (.iconst 0, 1) := by decide +kernel
theorem dX5_due_12 : decode cX5_due 12 = .ok (.goto 11, 3) := by decide +kernel
theorem dX5_due_15 : decode cX5_due 15 = .ok (.aload_n 1, 1) := by decide +kernel
theorem dX5_due_16 : decode cX5_due 16 = .ok (.getfield 9, 3) := by decide +kernel
theorem dX5_due_19 : decode cX5_due 19 = .ok (.iload_n 2, 1) := by decide +kernel
theorem dX5_due_20 : decode cX5_due 20 = .ok (.iaload, 1) := by decide +kernel
theorem dX5_due_21 : decode cX5_due 21 = .ok (.iconst 1, 1) := by decide +kernel
theorem dX5_due_22 : decode cX5_due 22 = .ok (.iadd, 1) := by decide +kernel
theorem dX5_due_23 : decode cX5_due 23 = .ok (.ireturn, 1) := by decide +kernel
theorem dX5_hears_0 : decode cX5_hears 0 = .ok (.iconst 0, 1) := by decide +kernel
theorem dX5_hears_1 : decode cX5_hears 1 = .ok (.ireturn, 1) := by decide +kernel
theorem dX5_walks_0 : decode cX5_walks 0 = .ok (.iconst 2, 1) := by decide +kernel
theorem dX5_walks_1 : decode cX5_walks 1 = .ok (.aload_n 0, 1) := by decide +kernel
theorem dX5_walks_2 : decode cX5_walks 2 = .ok (.aload_n 1, 1) := by decide +kernel
theorem dX5_walks_3 : decode cX5_walks 3 = .ok (.iload_n 2, 1) := by decide +kernel
theorem dX5_walks_4 : decode cX5_walks 4 = .ok (.iload_n 3, 1) := by decide +kernel
theorem dX5_walks_5 : decode cX5_walks 5 = .ok (.invokespecial 15, 3) := by decide +kernel
theorem dX5_walks_8 : decode cX5_walks 8 = .ok (.imul, 1) := by decide +kernel
theorem dX5_walks_9 : decode cX5_walks 9 = .ok (.ireturn, 1) := by decide +kernel
theorem dX5_spoils_0 : decode cX5_spoils 0 = .ok (.iconst 5, 1) := by decide +kernel
theorem dX5_spoils_1 : decode cX5_spoils 1 = .ok (.ireturn, 1) := by decide +kernel
theorem dX6_init_0 : decode cX6_init 0 = .ok (.aload_n 0, 1) := by decide +kernel
theorem dX6_init_1 : decode cX6_init 1 = .ok (.invokespecial 1, 3) := by decide +kernel
theorem dX6_init_4 : decode cX6_init 4 = .ok (.return_, 1) := by decide +kernel
theorem dX6_due_0 : decode cX6_due 0 = .ok (.iconst 0, 1) := by decide +kernel
theorem dX6_due_1 : decode cX6_due 1 = .ok (.aload_n 0, 1) := by decide +kernel
theorem dX6_due_2 : decode cX6_due 2 = .ok (.aload_n 1, 1) := by decide +kernel
theorem dX6_due_3 : decode cX6_due 3 = .ok (.iload_n 2, 1) := by decide +kernel
theorem dX6_due_4 : decode cX6_due 4 = .ok (.invokespecial 7, 3) := by decide +kernel
theorem dX6_due_7 : decode cX6_due 7 = .ok (.iconst 1, 1) := by decide +kernel
theorem dX6_due_8 : decode cX6_due 8 = .ok (.isub, 1) := by decide +kernel
theorem dX6_due_9 : decode cX6_due 9 = .ok (.invokestatic 11, 3) := by decide +kernel
theorem dX6_due_12 : decode cX6_due 12 = .ok (.ireturn, 1) := by decide +kernel
theorem dX6_hears_0 : decode cX6_hears 0 = .ok (.aload_n 1, 1) := by decide +kernel
theorem dX6_hears_1 : decode cX6_hears 1 = .ok (.getfield 17, 3) := by decide +kernel
theorem dX6_hears_4 : decode cX6_hears 4 = .ok (.iconst 2, 1) := by decide +kernel
theorem dX6_hears_5 : decode cX6_hears 5 = .ok (.if_icmp .eq 16, 3) := by decide +kernel
theorem dX6_hears_8 : decode cX6_hears 8 = .ok (.aload_n 0, 1) := by decide +kernel
theorem dX6_hears_9 : decode cX6_hears 9 = .ok (.aload_n 1, 1) := by decide +kernel
theorem dX6_hears_10 : decode cX6_hears 10 = .ok (.iload_n 2, 1) := by decide +kernel
theorem dX6_hears_11 : decode cX6_hears 11 = .ok (.invokespecial 23, 3) := by decide +kernel
theorem dX6_hears_14 : decode cX6_hears 14 = .ok (.ifCond .eq 7, 3) := by decide +kernel
theorem dX6_hears_17 : decode cX6_hears 17 = .ok (.iconst 1, 1) := by decide +kernel
theorem dX6_hears_18 : decode cX6_hears 18 = .ok (.goto 4, 3) := by decide +kernel
theorem dX6_hears_21 : decode cX6_hears 21 = .ok (.iconst 0, 1) := by decide +kernel
theorem dX6_hears_22 : decode cX6_hears 22 = .ok (.ireturn, 1) := by decide +kernel
theorem dX6_spoils_0 : decode cX6_spoils 0 = .ok (.iconst 2, 1) := by decide +kernel
theorem dX6_spoils_1 : decode cX6_spoils 1 = .ok (.aload_n 0, 1) := by decide +kernel
theorem dX6_spoils_2 : decode cX6_spoils 2 = .ok (.invokespecial 27, 3) := by decide +kernel
theorem dX6_spoils_5 : decode cX6_spoils 5 = .ok (.imul, 1) := by decide +kernel
theorem dX6_spoils_6 : decode cX6_spoils 6 = .ok (.ireturn, 1) := by decide +kernel
theorem dX7_init_0 : decode cX7_init 0 = .ok (.aload_n 0, 1) := by decide +kernel
theorem dX7_init_1 : decode cX7_init 1 = .ok (.invokespecial 3, 3) := by decide +kernel
theorem dX7_init_4 : decode cX7_init 4 = .ok (.aload_n 0, 1) := by decide +kernel
theorem dX7_init_5 : decode cX7_init 5 = .ok (.bipush 40, 2) := by decide +kernel
theorem dX7_init_7 : decode cX7_init 7 = .ok (.newarray .long, 2) := by decide +kernel
theorem dX7_init_9 : decode cX7_init 9 = .ok (.putfield 9, 3) := by decide +kernel
theorem dX7_init_12 : decode cX7_init 12 = .ok (.aload_n 0, 1) := by decide +kernel
theorem dX7_init_13 : decode cX7_init 13 = .ok (.iconst 0, 1) := by decide +kernel
theorem dX7_init_14 : decode cX7_init 14 = .ok (.putfield 15, 3) := by decide +kernel
theorem dX7_init_17 : decode cX7_init 17 = .ok (.aload_n 0, 1) := by decide +kernel
theorem dX7_init_18 : decode cX7_init 18 = .ok (.iconst 0, 1) := by decide +kernel
theorem dX7_init_19 : decode cX7_init 19 = .ok (.putfield 19, 3) := by decide +kernel
theorem dX7_init_22 : decode cX7_init 22 = .ok (.return_, 1) := by decide +kernel
theorem dX7_lay_0 : decode cX7_lay 0 = .ok (.aload_n 0, 1) := by decide +kernel
theorem dX7_lay_1 : decode cX7_lay 1 = .ok (.iload_n 1, 1) := by decide +kernel
theorem dX7_lay_2 : decode cX7_lay 2 = .ok (.putfield 15, 3) := by decide +kernel
theorem dX7_lay_5 : decode cX7_lay 5 = .ok (.aload_n 0, 1) := by decide +kernel
theorem dX7_lay_6 : decode cX7_lay 6 = .ok (.iload_n 1, 1) := by decide +kernel
theorem dX7_lay_7 : decode cX7_lay 7 = .ok (.ifCond .ne 7, 3) := by decide +kernel
theorem dX7_lay_10 : decode cX7_lay 10 = .ok (.iconst 0, 1) := by decide +kernel
theorem dX7_lay_11 : decode cX7_lay 11 = .ok (.goto 4, 3) := by decide +kernel
theorem dX7_lay_14 : decode cX7_lay 14 = .ok (.iload_n 2, 1) := by decide +kernel
theorem dX7_lay_15 : decode cX7_lay 15 = .ok (.putfield 19, 3) := by decide +kernel
theorem dX7_lay_18 : decode cX7_lay 18 = .ok (.aload_n 0, 1) := by decide +kernel
theorem dX7_lay_19 : decode cX7_lay 19 = .ok (.getfield 9, 3) := by decide +kernel
theorem dX7_lay_22 : decode cX7_lay 22 = .ok (.lconst 0, 1) := by decide +kernel
theorem dX7_lay_23 : decode cX7_lay 23 = .ok (.invokestatic 22, 3) := by decide +kernel
theorem dX7_lay_26 : decode cX7_lay 26 = .ok (.return_, 1) := by decide +kernel
theorem dX7_isMissing_0 : decode cX7_isMissing 0 = .ok (.aload_n 0, 1) := by decide +kernel
theorem dX7_isMissing_1 : decode cX7_isMissing 1 = .ok (.getfield 15, 3) := by decide +kernel
theorem dX7_isMissing_4 : decode cX7_isMissing 4 = .ok (.ifCond .ne 7, 3) := by decide +kernel
theorem dX7_isMissing_7 : decode cX7_isMissing 7 = .ok (.iconst 1, 1) := by decide +kernel
theorem dX7_isMissing_8 : decode cX7_isMissing 8 = .ok (.goto 4, 3) := by decide +kernel
theorem dX7_isMissing_11 : decode cX7_isMissing 11 = .ok (.iconst 0, 1) := by decide +kernel
theorem dX7_isMissing_12 : decode cX7_isMissing 12 = .ok (.ireturn, 1) := by decide +kernel
theorem dX7_narrow_0 : decode cX7_narrow 0 = .ok (.aload_n 0, 1) := by decide +kernel
theorem dX7_narrow_1 : decode cX7_narrow 1 = .ok (.getfield 15, 3) := by decide +kernel
theorem dX7_narrow_4 : decode cX7_narrow 4 = .ok (.bipush 8, 2) := by decide +kernel
theorem dX7_narrow_6 : decode cX7_narrow 6 = .ok (.if_icmp .ne 8, 3) := by decide +kernel
theorem dX7_narrow_9 : decode cX7_narrow 9 = .ok (.lload_n 1, 1) := by decide +kernel
theorem dX7_narrow_10 : decode cX7_narrow 10 = .ok (.l2i, 1) := by decide +kernel
theorem dX7_narrow_11 : decode cX7_narrow 11 = .ok (.i2b, 1) := by decide +kernel
theorem dX7_narrow_12 : decode cX7_narrow 12 = .ok (.i2l, 1) := by decide +kernel
theorem dX7_narrow_13 : decode cX7_narrow 13 = .ok (.lreturn, 1) := by decide +kernel
theorem dX7_narrow_14 : decode cX7_narrow 14 = .ok (.aload_n 0, 1) := by decide +kernel
theorem dX7_narrow_15 : decode cX7_narrow 15 = .ok (.getfield 15, 3) := by decide +kernel
theorem dX7_narrow_18 : decode cX7_narrow 18 = .ok (.bipush 16, 2) := by decide +kernel
theorem dX7_narrow_20 : decode cX7_narrow 20 = .ok (.if_icmp .ne 10, 3) := by decide +kernel
theorem dX7_narrow_23 : decode cX7_narrow 23 = .ok (.lload_n 1, 1) := by decide +kernel
theorem dX7_narrow_24 : decode cX7_narrow 24 = .ok (.l2i, 1) := by decide +kernel
theorem dX7_narrow_25 : decode cX7_narrow 25 = .ok (.i2s, 1) := by decide +kernel
theorem dX7_narrow_26 : decode cX7_narrow 26 = .ok (.i2l, 1) := by decide +kernel
theorem dX7_narrow_27 : decode cX7_narrow 27 = .ok (.goto 4, 3) := by decide +kernel
theorem dX7_narrow_30 : decode cX7_narrow 30 = .ok (.lload_n 1, 1) := by decide +kernel
theorem dX7_narrow_31 : decode cX7_narrow 31 = .ok (.lreturn, 1) := by decide +kernel
theorem dX7_hasRun_0 : decode cX7_hasRun 0 = .ok (.iload_n 1, 1) := by decide +kernel
theorem dX7_hasRun_1 : decode cX7_hasRun 1 = .ok (.ifCond .lt 21, 3) := by decide +kernel
theorem dX7_hasRun_4 : decode cX7_hasRun 4 = .ok (.iload_n 2, 1) := by decide +kernel
theorem dX7_hasRun_5 : decode cX7_hasRun 5 = .ok (.ifCond .lt 17, 3) := by decide +kernel
theorem dX7_hasRun_8 : decode cX7_hasRun 8 = .ok (.iload_n 2, 1) := by decide +kernel
theorem dX7_hasRun_9 : decode cX7_hasRun 9 = .ok (.aload_n 0, 1) := by decide +kernel
theorem dX7_hasRun_10 : decode cX7_hasRun 10 = .ok (.getfield 19, 3) := by decide +kernel
theorem dX7_hasRun_13 : decode cX7_hasRun 13 = .ok (.iload_n 1, 1) := by decide +kernel
theorem dX7_hasRun_14 : decode cX7_hasRun 14 = .ok (.isub, 1) := by decide +kernel
theorem dX7_hasRun_15 : decode cX7_hasRun 15 = .ok (.if_icmp .gt 7, 3) := by decide +kernel
theorem dX7_hasRun_18 : decode cX7_hasRun 18 = .ok (.iconst 1, 1) := by decide +kernel
theorem dX7_hasRun_19 : decode cX7_hasRun 19 = .ok (.goto 4, 3) := by decide +kernel
theorem dX7_hasRun_22 : decode cX7_hasRun 22 = .ok (.iconst 0, 1) := by decide +kernel
theorem dX7_hasRun_23 : decode cX7_hasRun 23 = .ok (.ireturn, 1) := by decide +kernel
theorem dX8_init_0 : decode cX8_init 0 = .ok (.aload_n 0, 1) := by decide +kernel
theorem dX8_init_1 : decode cX8_init 1 = .ok (.invokespecial 3, 3) := by decide +kernel
theorem dX8_init_4 : decode cX8_init 4 = .ok (.return_, 1) := by decide +kernel
theorem dX8_due_0 : decode cX8_due 0 = .ok (.aload_n 1, 1) := by decide +kernel
theorem dX8_due_1 : decode cX8_due 1 = .ok (.getfield 9, 3) := by decide +kernel
theorem dX8_due_4 : decode cX8_due 4 = .ok (.iconst 2, 1) := by decide +kernel
theorem dX8_due_5 : decode cX8_due 5 = .ok (.irem, 1) := by decide +kernel
theorem dX8_due_6 : decode cX8_due 6 = .ok (.iconst 1, 1) := by decide +kernel
theorem dX8_due_7 : decode cX8_due 7 = .ok (.if_icmp .ne 8, 3) := by decide +kernel
theorem dX8_due_10 : decode cX8_due 10 = .ok (.bipush 11, 2) := by decide +kernel
theorem dX8_due_12 : decode cX8_due 12 = .ok (.goto 9, 3) := by decide +kernel
theorem dX8_due_15 : decode cX8_due 15 = .ok (.aload_n 0, 1) := by decide +kernel
theorem dX8_due_16 : decode cX8_due 16 = .ok (.aload_n 1, 1) := by decide +kernel
theorem dX8_due_17 : decode cX8_due 17 = .ok (.iload_n 2, 1) := by decide +kernel
theorem dX8_due_18 : decode cX8_due 18 = .ok (.invokespecial 15, 3) := by decide +kernel
theorem dX8_due_21 : decode cX8_due 21 = .ok (.ireturn, 1) := by decide +kernel
theorem dX8_hears_0 : decode cX8_hears 0 = .ok (.iconst 1, 1) := by decide +kernel
theorem dX8_hears_1 : decode cX8_hears 1 = .ok (.ireturn, 1) := by decide +kernel
theorem dX8_walks_0 : decode cX8_walks 0 = .ok (.iconst 1, 1) := by decide +kernel
theorem dX8_walks_1 : decode cX8_walks 1 = .ok (.ireturn, 1) := by decide +kernel
theorem dX8_spoils_0 : decode cX8_spoils 0 = .ok (.iconst 0, 1) := by decide +kernel
theorem dX8_spoils_1 : decode cX8_spoils 1 = .ok (.ireturn, 1) := by decide +kernel
theorem dX9_init_0 : decode cX9_init 0 = .ok (.aload_n 0, 1) := by decide +kernel
theorem dX9_init_1 : decode cX9_init 1 = .ok (.invokespecial 3, 3) := by decide +kernel
theorem dX9_init_4 : decode cX9_init 4 = .ok (.aload_n 0, 1) := by decide +kernel
theorem dX9_init_5 : decode cX9_init 5 = .ok (.bipush 120, 2) := by decide +kernel
theorem dX9_init_7 : decode cX9_init 7 = .ok (.newarray .int, 2) := by decide +kernel
theorem dX9_init_9 : decode cX9_init 9 = .ok (.putfield 9, 3) := by decide +kernel
theorem dX9_init_12 : decode cX9_init 12 = .ok (.aload_n 0, 1) := by decide +kernel
theorem dX9_init_13 : decode cX9_init 13 = .ok (.iconst 0, 1) := by decide +kernel
theorem dX9_init_14 : decode cX9_init 14 = .ok (.putfield 15, 3) := by decide +kernel
theorem dX9_init_17 : decode cX9_init 17 = .ok (.aload_n 0, 1) := by decide +kernel
theorem dX9_init_18 : decode cX9_init 18 = .ok (.iconst 0, 1) := by decide +kernel
theorem dX9_init_19 : decode cX9_init 19 = .ok (.putfield 19, 3) := by decide +kernel
theorem dX9_init_22 : decode cX9_init 22 = .ok (.aload_n 0, 1) := by decide +kernel
theorem dX9_init_23 : decode cX9_init 23 = .ok (.iconst 0, 1) := by decide +kernel
theorem dX9_init_24 : decode cX9_init 24 = .ok (.putfield 22, 3) := by decide +kernel
theorem dX9_init_27 : decode cX9_init 27 = .ok (.aload_n 0, 1) := by decide +kernel
theorem dX9_init_28 : decode cX9_init 28 = .ok (.iconst 0, 1) := by decide +kernel
theorem dX9_init_29 : decode cX9_init 29 = .ok (.putfield 25, 3) := by decide +kernel
theorem dX9_init_32 : decode cX9_init 32 = .ok (.aload_n 0, 1) := by decide +kernel
theorem dX9_init_33 : decode cX9_init 33 = .ok (.iconst 0, 1) := by decide +kernel
theorem dX9_init_34 : decode cX9_init 34 = .ok (.putfield 28, 3) := by decide +kernel
theorem dX9_init_37 : decode cX9_init 37 = .ok (.return_, 1) := by decide +kernel
theorem dX9_append_0 : decode cX9_append 0 = .ok (.aload_n 0, 1) := by decide +kernel
theorem dX9_append_1 : decode cX9_append 1 = .ok (.getfield 15, 3) := by decide +kernel
theorem dX9_append_4 : decode cX9_append 4 = .ok (.bipush 120, 2) := by decide +kernel
theorem dX9_append_6 : decode cX9_append 6 = .ok (.if_icmp .ge 23, 3) := by decide +kernel
theorem dX9_append_9 : decode cX9_append 9 = .ok (.aload_n 0, 1) := by decide +kernel
theorem dX9_append_10 : decode cX9_append 10 = .ok (.getfield 9, 3) := by decide +kernel
theorem dX9_append_13 : decode cX9_append 13 = .ok (.aload_n 0, 1) := by decide +kernel
theorem dX9_append_14 : decode cX9_append 14 = .ok (.getfield 15, 3) := by decide +kernel
theorem dX9_append_17 : decode cX9_append 17 = .ok (.iload_n 1, 1) := by decide +kernel
theorem dX9_append_18 : decode cX9_append 18 = .ok (.iastore, 1) := by decide +kernel
theorem dX9_append_19 : decode cX9_append 19 = .ok (.aload_n 0, 1) := by decide +kernel
theorem dX9_append_20 : decode cX9_append 20 = .ok (.dup, 1) := by decide +kernel
theorem dX9_append_21 : decode cX9_append 21 = .ok (.getfield 15, 3) := by decide +kernel
theorem dX9_append_24 : decode cX9_append 24 = .ok (.iconst 1, 1) := by decide +kernel
theorem dX9_append_25 : decode cX9_append 25 = .ok (.iadd, 1) := by decide +kernel
theorem dX9_append_26 : decode cX9_append 26 = .ok (.putfield 15, 3) := by decide +kernel
theorem dX9_append_29 : decode cX9_append 29 = .ok (.return_, 1) := by decide +kernel
theorem dX9_perform_0 : decode cX9_perform 0 = .ok (.aload_n 0, 1) := by decide +kernel
theorem dX9_perform_1 : decode cX9_perform 1 = .ok (.iconst 0, 1) := by decide +kernel
theorem dX9_perform_2 : decode cX9_perform 2 = .ok (.putfield 25, 3) := by decide +kernel
theorem dX9_perform_5 : decode cX9_perform 5 = .ok (.aload_n 0, 1) := by decide +kernel
theorem dX9_perform_6 : decode cX9_perform 6 = .ok (.invokevirtual 31, 3) := by decide +kernel
theorem dX9_perform_9 : decode cX9_perform 9 = .ok (.iconst 1, 1) := by decide +kernel
theorem dX9_perform_10 : decode cX9_perform 10 = .ok (.istore_n 2, 1) := by decide +kernel
theorem dX9_perform_11 : decode cX9_perform 11 = .ok (.iload_n 2, 1) := by decide +kernel
theorem dX9_perform_12 : decode cX9_perform 12 = .ok (.bipush 120, 2) := by decide +kernel
theorem dX9_perform_14 : decode cX9_perform 14 = .ok (.if_icmp .gt 52, 3) := by decide +kernel
theorem dX9_perform_17 : decode cX9_perform 17 = .ok (.aload_n 0, 1) := by decide +kernel
theorem dX9_perform_18 : decode cX9_perform 18 = .ok (.aload_n 1, 1) := by decide +kernel
theorem dX9_perform_19 : decode cX9_perform 19 = .ok (.invokevirtual 34, 3) := by decide +kernel
theorem dX9_perform_22 : decode cX9_perform 22 = .ok (.ifCond .ne 10, 3) := by decide +kernel
theorem dX9_perform_25 : decode cX9_perform 25 = .ok (.iconst (-1), 1) := by decide +kernel
theorem dX9_perform_26 : decode cX9_perform 26 = .ok (.aload_n 0, 1) := by decide +kernel
theorem dX9_perform_27 : decode cX9_perform 27 = .ok (.getfield 22, 3) := by decide +kernel
theorem dX9_perform_30 : decode cX9_perform 30 = .ok (.isub, 1) := by decide +kernel
theorem dX9_perform_31 : decode cX9_perform 31 = .ok (.ireturn, 1) := by decide +kernel
theorem dX9_perform_32 : decode cX9_perform 32 = .ok (.aload_n 0, 1) := by decide +kernel
theorem dX9_perform_33 : decode cX9_perform 33 = .ok (.getfield 19, 3) := by decide +kernel
theorem dX9_perform_36 : decode cX9_perform 36 = .ok (.ifCond .ne 5, 3) := by decide +kernel
theorem dX9_perform_39 : decode cX9_perform 39 = .ok (.iload_n 2, 1) := by decide +kernel
theorem dX9_perform_40 : decode cX9_perform 40 = .ok (.ireturn, 1) := by decide +kernel
theorem dX9_perform_41 : decode cX9_perform 41 = .ok (.aload_n 0, 1) := by decide +kernel
theorem dX9_perform_42 : decode cX9_perform 42 = .ok (.getfield 19, 3) := by decide +kernel
theorem dX9_perform_45 : decode cX9_perform 45 = .ok (.iconst 3, 1) := by decide +kernel
theorem dX9_perform_46 : decode cX9_perform 46 = .ok (.if_icmp .eq 10, 3) := by decide +kernel
theorem dX9_perform_49 : decode cX9_perform 49 = .ok (.iconst (-1), 1) := by decide +kernel
theorem dX9_perform_50 : decode cX9_perform 50 = .ok (.aload_n 0, 1) := by decide +kernel
theorem dX9_perform_51 : decode cX9_perform 51 = .ok (.getfield 22, 3) := by decide +kernel
theorem dX9_perform_54 : decode cX9_perform 54 = .ok (.isub, 1) := by decide +kernel
theorem dX9_perform_55 : decode cX9_perform 55 = .ok (.ireturn, 1) := by decide +kernel
theorem dX9_perform_56 : decode cX9_perform 56 = .ok (.aload_n 0, 1) := by decide +kernel
theorem dX9_perform_57 : decode cX9_perform 57 = .ok (.invokevirtual 31, 3) := by decide +kernel
theorem dX9_perform_60 : decode cX9_perform 60 = .ok (.iinc 2 1, 3) := by decide +kernel
theorem dX9_perform_63 : decode cX9_perform 63 = .ok (.goto (-52), 3) := by decide +kernel
theorem dX9_perform_66 : decode cX9_perform 66 = .ok (.iconst (-1), 1) := by decide +kernel
theorem dX9_perform_67 : decode cX9_perform 67 = .ok (.aload_n 0, 1) := by decide +kernel
theorem dX9_perform_68 : decode cX9_perform 68 = .ok (.getfield 22, 3) := by decide +kernel
theorem dX9_perform_71 : decode cX9_perform 71 = .ok (.isub, 1) := by decide +kernel
theorem dX9_perform_72 : decode cX9_perform 72 = .ok (.ireturn, 1) := by decide +kernel
theorem dX9_takeItem_0 : decode cX9_takeItem 0 = .ok (.aload_n 0, 1) := by decide +kernel
theorem dX9_takeItem_1 : decode cX9_takeItem 1 = .ok (.ldc 38, 2) := by decide +kernel
theorem dX9_takeItem_3 : decode cX9_takeItem 3 = .ok (.invokevirtual 40, 3) := by decide +kernel
theorem dX9_takeItem_6 : decode cX9_takeItem 6 = .ok (.ifCond .eq 9, 3) := by decide +kernel
theorem dX9_takeItem_9 : decode cX9_takeItem 9 = .ok (.aload_n 0, 1) := by decide +kernel
theorem dX9_takeItem_10 : decode cX9_takeItem 10 = .ok (.aload_n 1, 1) := by decide +kernel
theorem dX9_takeItem_11 : decode cX9_takeItem 11 = .ok (.invokevirtual 44, 3) := by decide +kernel
theorem dX9_takeItem_14 : decode cX9_takeItem 14 = .ok (.ireturn, 1) := by decide +kernel
theorem dX9_takeItem_15 : decode cX9_takeItem 15 = .ok (.aload_n 0, 1) := by decide +kernel
theorem dX9_takeItem_16 : decode cX9_takeItem 16 = .ok (.ldc 47, 2) := by decide +kernel
theorem dX9_takeItem_18 : decode cX9_takeItem 18 = .ok (.invokevirtual 40, 3) := by decide +kernel
theorem dX9_takeItem_21 : decode cX9_takeItem 21 = .ok (.ifCond .eq 9, 3) := by decide +kernel
theorem dX9_takeItem_24 : decode cX9_takeItem 24 = .ok (.aload_n 0, 1) := by decide +kernel
theorem dX9_takeItem_25 : decode cX9_takeItem 25 = .ok (.aload_n 1, 1) := by decide +kernel
theorem dX9_takeItem_26 : decode cX9_takeItem 26 = .ok (.invokevirtual 49, 3) := by decide +kernel
theorem dX9_takeItem_29 : decode cX9_takeItem 29 = .ok (.ireturn, 1) := by decide +kernel
theorem dX9_takeItem_30 : decode cX9_takeItem 30 = .ok (.iconst 0, 1) := by decide +kernel
theorem dX9_takeItem_31 : decode cX9_takeItem 31 = .ok (.istore_n 2, 1) := by decide +kernel
theorem dX9_takeItem_32 : decode cX9_takeItem 32 = .ok (.iload_n 2, 1) := by decide +kernel
theorem dX9_takeItem_33 : decode cX9_takeItem 33 = .ok (.bipush 6, 2) := by decide +kernel
theorem dX9_takeItem_35 : decode cX9_takeItem 35 = .ok (.if_icmp .ge 27, 3) := by decide +kernel
theorem dX9_takeItem_38 : decode cX9_takeItem 38 = .ok (.aload_n 0, 1) := by decide +kernel
theorem dX9_takeItem_39 : decode cX9_takeItem 39 = .ok (.iload_n 2, 1) := by decide +kernel
theorem dX9_takeItem_40 : decode cX9_takeItem 40 = .ok (.invokestatic 52, 3) := by decide +kernel
theorem dX9_takeItem_43 : decode cX9_takeItem 43 = .ok (.invokevirtual 40, 3) := by decide +kernel
theorem dX9_takeItem_46 : decode cX9_takeItem 46 = .ok (.ifCond .eq 10, 3) := by decide +kernel
theorem dX9_takeItem_49 : decode cX9_takeItem 49 = .ok (.aload_n 0, 1) := by decide +kernel
theorem dX9_takeItem_50 : decode cX9_takeItem 50 = .ok (.aload_n 1, 1) := by decide +kernel
theorem dX9_takeItem_51 : decode cX9_takeItem 51 = .ok (.iload_n 2, 1) := by decide +kernel
theorem dX9_takeItem_52 : decode cX9_takeItem 52 = .ok (.invokevirtual 58, 3) := by decide +kernel
theorem dX9_takeItem_55 : decode cX9_takeItem 55 = .ok (.ireturn, 1) := by decide +kernel
theorem dX9_takeItem_56 : decode cX9_takeItem 56 = .ok (.iinc 2 1, 3) := by decide +kernel
theorem dX9_takeItem_59 : decode cX9_takeItem 59 = .ok (.goto (-27), 3) := by decide +kernel
theorem dX9_takeItem_62 : decode cX9_takeItem 62 = .ok (.iconst 0, 1) := by decide +kernel
theorem dX9_takeItem_63 : decode cX9_takeItem 63 = .ok (.ireturn, 1) := by decide +kernel
theorem dX9_takeScore_0 : decode cX9_takeScore 0 = .ok (.aload_n 0, 1) := by decide +kernel
theorem dX9_takeScore_1 : decode cX9_takeScore 1 = .ok (.invokevirtual 31, 3) := by decide +kernel
theorem dX9_takeScore_4 : decode cX9_takeScore 4 = .ok (.aload_n 0, 1) := by decide +kernel
theorem dX9_takeScore_5 : decode cX9_takeScore 5 = .ok (.iconst 0, 1) := by decide +kernel
theorem dX9_takeScore_6 : decode cX9_takeScore 6 = .ok (.iconst 5, 1) := by decide +kernel
theorem dX9_takeScore_7 : decode cX9_takeScore 7 = .ok (.invokevirtual 62, 3) := by decide +kernel
theorem dX9_takeScore_10 : decode cX9_takeScore 10 = .ok (.ifCond .ne 5, 3) := by decide +kernel
theorem dX9_takeScore_13 : decode cX9_takeScore 13 = .ok (.iconst 0, 1) := by decide +kernel
theorem dX9_takeScore_14 : decode cX9_takeScore 14 = .ok (.ireturn, 1) := by decide +kernel
theorem dX9_takeScore_15 : decode cX9_takeScore 15 = .ok (.aload_n 0, 1) := by decide +kernel
theorem dX9_takeScore_16 : decode cX9_takeScore 16 = .ok (.getfield 28, 3) := by decide +kernel
theorem dX9_takeScore_19 : decode cX9_takeScore 19 = .ok (.istore_n 2, 1) := by decide +kernel
theorem dX9_takeScore_20 : decode cX9_takeScore 20 = .ok (.aload_n 0, 1) := by decide +kernel
theorem dX9_takeScore_21 : decode cX9_takeScore 21 = .ok (.invokevirtual 31, 3) := by decide +kernel
theorem dX9_takeScore_24 : decode cX9_takeScore 24 = .ok (.aload_n 0, 1) := by decide +kernel
theorem dX9_takeScore_25 : decode cX9_takeScore 25 = .ok (.iconst 0, 1) := by decide +kernel
theorem dX9_takeScore_26 : decode cX9_takeScore 26 = .ok (.bipush 11, 2) := by decide +kernel
theorem dX9_takeScore_28 : decode cX9_takeScore 28 = .ok (.invokevirtual 62, 3) := by decide +kernel
theorem dX9_takeScore_31 : decode cX9_takeScore 31 = .ok (.ifCond .ne 5, 3) := by decide +kernel
theorem dX9_takeScore_34 : decode cX9_takeScore 34 = .ok (.iconst 0, 1) := by decide +kernel
theorem dX9_takeScore_35 : decode cX9_takeScore 35 = .ok (.ireturn, 1) := by decide +kernel
theorem dX9_takeScore_36 : decode cX9_takeScore 36 = .ok (.aload_n 1, 1) := by decide +kernel
theorem dX9_takeScore_37 : decode cX9_takeScore 37 = .ok (.getfield 66, 3) := by decide +kernel
theorem dX9_takeScore_40 : decode cX9_takeScore 40 = .ok (.iload_n 2, 1) := by decide +kernel
theorem dX9_takeScore_41 : decode cX9_takeScore 41 = .ok (.aload_n 0, 1) := by decide +kernel
theorem dX9_takeScore_42 : decode cX9_takeScore 42 = .ok (.getfield 28, 3) := by decide +kernel
theorem dX9_takeScore_45 : decode cX9_takeScore 45 = .ok (.iastore, 1) := by decide +kernel
theorem dX9_takeScore_46 : decode cX9_takeScore 46 = .ok (.aload_n 0, 1) := by decide +kernel
theorem dX9_takeScore_47 : decode cX9_takeScore 47 = .ok (.invokevirtual 31, 3) := by decide +kernel
theorem dX9_takeScore_50 : decode cX9_takeScore 50 = .ok (.iconst 1, 1) := by decide +kernel
theorem dX9_takeScore_51 : decode cX9_takeScore 51 = .ok (.ireturn, 1) := by decide +kernel
theorem dX9_takeBell_0 : decode cX9_takeBell 0 = .ok (.aload_n 0, 1) := by decide +kernel
theorem dX9_takeBell_1 : decode cX9_takeBell 1 = .ok (.invokevirtual 31, 3) := by decide +kernel
theorem dX9_takeBell_4 : decode cX9_takeBell 4 = .ok (.aload_n 0, 1) := by decide +kernel
theorem dX9_takeBell_5 : decode cX9_takeBell 5 = .ok (.iconst 0, 1) := by decide +kernel
theorem dX9_takeBell_6 : decode cX9_takeBell 6 = .ok (.iconst 2, 1) := by decide +kernel
theorem dX9_takeBell_7 : decode cX9_takeBell 7 = .ok (.invokevirtual 62, 3) := by decide +kernel
theorem dX9_takeBell_10 : decode cX9_takeBell 10 = .ok (.ifCond .ne 5, 3) := by decide +kernel
theorem dX9_takeBell_13 : decode cX9_takeBell 13 = .ok (.iconst 0, 1) := by decide +kernel
theorem dX9_takeBell_14 : decode cX9_takeBell 14 = .ok (.ireturn, 1) := by decide +kernel
theorem dX9_takeBell_15 : decode cX9_takeBell 15 = .ok (.aload_n 0, 1) := by decide +kernel
theorem dX9_takeBell_16 : decode cX9_takeBell 16 = .ok (.getfield 28, 3) := by decide +kernel
theorem dX9_takeBell_19 : decode cX9_takeBell 19 = .ok (.istore_n 2, 1) := by decide +kernel
theorem dX9_takeBell_20 : decode cX9_takeBell 20 = .ok (.aload_n 0, 1) := by decide +kernel
theorem dX9_takeBell_21 : decode cX9_takeBell 21 = .ok (.invokevirtual 31, 3) := by decide +kernel
theorem dX9_takeBell_24 : decode cX9_takeBell 24 = .ok (.aload_n 0, 1) := by decide +kernel
theorem dX9_takeBell_25 : decode cX9_takeBell 25 = .ok (.iconst 0, 1) := by decide +kernel
theorem dX9_takeBell_26 : decode cX9_takeBell 26 = .ok (.bipush 47, 2) := by decide +kernel
theorem dX9_takeBell_28 : decode cX9_takeBell 28 = .ok (.invokevirtual 62, 3) := by decide +kernel
theorem dX9_takeBell_31 : decode cX9_takeBell 31 = .ok (.ifCond .ne 5, 3) := by decide +kernel
theorem dX9_takeBell_34 : decode cX9_takeBell 34 = .ok (.iconst 0, 1) := by decide +kernel
theorem dX9_takeBell_35 : decode cX9_takeBell 35 = .ok (.ireturn, 1) := by decide +kernel
theorem dX9_takeBell_36 : decode cX9_takeBell 36 = .ok (.aload_n 1, 1) := by decide +kernel
theorem dX9_takeBell_37 : decode cX9_takeBell 37 = .ok (.getfield 70, 3) := by decide +kernel
theorem dX9_takeBell_40 : decode cX9_takeBell 40 = .ok (.iload_n 2, 1) := by decide +kernel
theorem dX9_takeBell_41 : decode cX9_takeBell 41 = .ok (.aload_n 0, 1) := by decide +kernel
theorem dX9_takeBell_42 : decode cX9_takeBell 42 = .ok (.getfield 28, 3) := by decide +kernel
theorem dX9_takeBell_45 : decode cX9_takeBell 45 = .ok (.iastore, 1) := by decide +kernel
theorem dX9_takeBell_46 : decode cX9_takeBell 46 = .ok (.aload_n 0, 1) := by decide +kernel
theorem dX9_takeBell_47 : decode cX9_takeBell 47 = .ok (.invokevirtual 31, 3) := by decide +kernel
theorem dX9_takeBell_50 : decode cX9_takeBell 50 = .ok (.iconst 1, 1) := by decide +kernel
theorem dX9_takeBell_51 : decode cX9_takeBell 51 = .ok (.ireturn, 1) := by decide +kernel
theorem dX9_takePerson_0 : decode cX9_takePerson 0 = .ok (.aload_n 1, 1) := by decide +kernel
theorem dX9_takePerson_1 : decode cX9_takePerson 1 = .ok (.getfield 73, 3) := by decide +kernel
theorem dX9_takePerson_4 : decode cX9_takePerson 4 = .ok (.bipush 8, 2) := by decide +kernel
theorem dX9_takePerson_6 : decode cX9_takePerson 6 = .ok (.if_icmp .lt 5, 3) := by decide +kernel
theorem dX9_takePerson_9 : decode cX9_takePerson 9 = .ok (.iconst 0, 1) := by decide +kernel
theorem dX9_takePerson_10 : decode cX9_takePerson 10 = .ok (.ireturn, 1) := by decide +kernel
theorem dX9_takePerson_11 : decode cX9_takePerson 11 = .ok (.aload_n 0, 1) := by decide +kernel
theorem dX9_takePerson_12 : decode cX9_takePerson 12 = .ok (.invokevirtual 31, 3) := by decide +kernel
theorem dX9_takePerson_15 : decode cX9_takePerson 15 = .ok (.aload_n 0, 1) := by decide +kernel
theorem dX9_takePerson_16 : decode cX9_takePerson 16 = .ok (.iconst 0, 1) := by decide +kernel
theorem dX9_takePerson_17 : decode cX9_takePerson 17 = .ok (.bipush 11, 2) := by decide +kernel
theorem dX9_takePerson_19 : decode cX9_takePerson 19 = .ok (.invokevirtual 62, 3) := by decide +kernel
theorem dX9_takePerson_22 : decode cX9_takePerson 22 = .ok (.ifCond .ne 5, 3) := by decide +kernel
theorem dX9_takePerson_25 : decode cX9_takePerson 25 = .ok (.iconst 0, 1) := by decide +kernel
theorem dX9_takePerson_26 : decode cX9_takePerson 26 = .ok (.ireturn, 1) := by decide +kernel
theorem dX9_takePerson_27 : decode cX9_takePerson 27 = .ok (.aload_n 0, 1) := by decide +kernel
theorem dX9_takePerson_28 : decode cX9_takePerson 28 = .ok (.getfield 28, 3) := by decide +kernel
theorem dX9_takePerson_31 : decode cX9_takePerson 31 = .ok (.istore_n 3, 1) := by decide +kernel
theorem dX9_takePerson_32 : decode cX9_takePerson 32 = .ok (.iconst 1, 1) := by decide +kernel
theorem dX9_takePerson_33 : decode cX9_takePerson 33 = .ok (.istore 4, 2) := by decide +kernel
theorem dX9_takePerson_35 : decode cX9_takePerson 35 = .ok (.aload_n 0, 1) := by decide +kernel
theorem dX9_takePerson_36 : decode cX9_takePerson 36 = .ok (.invokevirtual 31, 3) := by decide +kernel
theorem dX9_takePerson_39 : decode cX9_takePerson 39 = .ok (.aload_n 0, 1) := by decide +kernel
theorem dX9_takePerson_40 : decode cX9_takePerson 40 = .ok (.ldc 76, 2) := by decide +kernel
theorem dX9_takePerson_42 : decode cX9_takePerson 42 = .ok (.invokevirtual 40, 3) := by decide +kernel
theorem dX9_takePerson_45 : decode cX9_takePerson 45 = .ok (.ifCond .eq 28, 3) := by decide +kernel
theorem dX9_takePerson_48 : decode cX9_takePerson 48 = .ok (.aload_n 0, 1) := by decide +kernel
theorem dX9_takePerson_49 : decode cX9_takePerson 49 = .ok (.invokevirtual 31, 3) := by decide +kernel
theorem dX9_takePerson_52 : decode cX9_takePerson 52 = .ok (.aload_n 0, 1) := by decide +kernel
theorem dX9_takePerson_53 : decode cX9_takePerson 53 = .ok (.iconst 1, 1) := by decide +kernel
theorem dX9_takePerson_54 : decode cX9_takePerson 54 = .ok (.iconst 4, 1) := by decide +kernel
theorem dX9_takePerson_55 : decode cX9_takePerson 55 = .ok (.invokevirtual 62, 3) := by decide +kernel
theorem dX9_takePerson_58 : decode cX9_takePerson 58 = .ok (.ifCond .ne 5, 3) := by decide +kernel
theorem dX9_takePerson_61 : decode cX9_takePerson 61 = .ok (.iconst 0, 1) := by decide +kernel
theorem dX9_takePerson_62 : decode cX9_takePerson 62 = .ok (.ireturn, 1) := by decide +kernel
theorem dX9_takePerson_63 : decode cX9_takePerson 63 = .ok (.aload_n 0, 1) := by decide +kernel
theorem dX9_takePerson_64 : decode cX9_takePerson 64 = .ok (.getfield 28, 3) := by decide +kernel
theorem dX9_takePerson_67 : decode cX9_takePerson 67 = .ok (.istore 4, 2) := by decide +kernel
theorem dX9_takePerson_69 : decode cX9_takePerson 69 = .ok (.aload_n 0, 1) := by decide +kernel
theorem dX9_takePerson_70 : decode cX9_takePerson 70 = .ok (.invokevirtual 31, 3) := by decide +kernel
theorem dX9_takePerson_73 : decode cX9_takePerson 73 = .ok (.aload_n 1, 1) := by decide +kernel
theorem dX9_takePerson_74 : decode cX9_takePerson 74 = .ok (.iload_n 2, 1) := by decide +kernel
theorem dX9_takePerson_75 : decode cX9_takePerson 75 = .ok (.iload_n 3, 1) := by decide +kernel
theorem dX9_takePerson_76 : decode cX9_takePerson 76 = .ok (.iload 4, 2) := by decide +kernel
theorem dX9_takePerson_78 : decode cX9_takePerson 78 = .ok (.invokevirtual 78, 3) := by decide +kernel
theorem dX9_takePerson_81 : decode cX9_takePerson 81 = .ok (.iconst 1, 1) := by decide +kernel
theorem dX9_takePerson_82 : decode cX9_takePerson 82 = .ok (.ireturn, 1) := by decide +kernel
theorem dX9_isNumber_0 : decode cX9_isNumber 0 = .ok (.aload_n 0, 1) := by decide +kernel
theorem dX9_isNumber_1 : decode cX9_isNumber 1 = .ok (.getfield 19, 3) := by decide +kernel
theorem dX9_isNumber_4 : decode cX9_isNumber 4 = .ok (.iconst 2, 1) := by decide +kernel
theorem dX9_isNumber_5 : decode cX9_isNumber 5 = .ok (.if_icmp .ne 23, 3) := by decide +kernel
theorem dX9_isNumber_8 : decode cX9_isNumber 8 = .ok (.aload_n 0, 1) := by decide +kernel
theorem dX9_isNumber_9 : decode cX9_isNumber 9 = .ok (.getfield 28, 3) := by decide +kernel
theorem dX9_isNumber_12 : decode cX9_isNumber 12 = .ok (.iload_n 1, 1) := by decide +kernel
theorem dX9_isNumber_13 : decode cX9_isNumber 13 = .ok (.if_icmp .lt 15, 3) := by decide +kernel
theorem dX9_isNumber_16 : decode cX9_isNumber 16 = .ok (.aload_n 0, 1) := by decide +kernel
theorem dX9_isNumber_17 : decode cX9_isNumber 17 = .ok (.getfield 28, 3) := by decide +kernel
theorem dX9_isNumber_20 : decode cX9_isNumber 20 = .ok (.iload_n 2, 1) := by decide +kernel
theorem dX9_isNumber_21 : decode cX9_isNumber 21 = .ok (.if_icmp .gt 7, 3) := by decide +kernel
theorem dX9_isNumber_24 : decode cX9_isNumber 24 = .ok (.iconst 1, 1) := by decide +kernel
theorem dX9_isNumber_25 : decode cX9_isNumber 25 = .ok (.goto 4, 3) := by decide +kernel
theorem dX9_isNumber_28 : decode cX9_isNumber 28 = .ok (.iconst 0, 1) := by decide +kernel
theorem dX9_isNumber_29 : decode cX9_isNumber 29 = .ok (.ireturn, 1) := by decide +kernel
theorem dX9_isWord_0 : decode cX9_isWord 0 = .ok (.aload_n 0, 1) := by decide +kernel
theorem dX9_isWord_1 : decode cX9_isWord 1 = .ok (.getfield 19, 3) := by decide +kernel
theorem dX9_isWord_4 : decode cX9_isWord 4 = .ok (.iconst 1, 1) := by decide +kernel
theorem dX9_isWord_5 : decode cX9_isWord 5 = .ok (.if_icmp .ne 19, 3) := by decide +kernel
theorem dX9_isWord_8 : decode cX9_isWord 8 = .ok (.aload_n 0, 1) := by decide +kernel
theorem dX9_isWord_9 : decode cX9_isWord 9 = .ok (.getfield 25, 3) := by decide +kernel
theorem dX9_isWord_12 : decode cX9_isWord 12 = .ok (.aload_n 0, 1) := by decide +kernel
theorem dX9_isWord_13 : decode cX9_isWord 13 = .ok (.getfield 22, 3) := by decide +kernel
theorem dX9_isWord_16 : decode cX9_isWord 16 = .ok (.isub, 1) := by decide +kernel
theorem dX9_isWord_17 : decode cX9_isWord 17 = .ok (.aload_n 1, 1) := by decide +kernel
theorem dX9_isWord_18 : decode cX9_isWord 18 = .ok (.invokevirtual 82, 3) := by decide +kernel
theorem dX9_isWord_21 : decode cX9_isWord 21 = .ok (.if_icmp .eq 5, 3) := by decide +kernel
theorem dX9_isWord_24 : decode cX9_isWord 24 = .ok (.iconst 0, 1) := by decide +kernel
theorem dX9_isWord_25 : decode cX9_isWord 25 = .ok (.ireturn, 1) := by decide +kernel
theorem dX9_isWord_26 : decode cX9_isWord 26 = .ok (.iconst 0, 1) := by decide +kernel
theorem dX9_isWord_27 : decode cX9_isWord 27 = .ok (.istore_n 2, 1) := by decide +kernel
theorem dX9_isWord_28 : decode cX9_isWord 28 = .ok (.iload_n 2, 1) := by decide +kernel
theorem dX9_isWord_29 : decode cX9_isWord 29 = .ok (.aload_n 1, 1) := by decide +kernel
theorem dX9_isWord_30 : decode cX9_isWord 30 = .ok (.invokevirtual 82, 3) := by decide +kernel
theorem dX9_isWord_33 : decode cX9_isWord 33 = .ok (.if_icmp .ge 30, 3) := by decide +kernel
theorem dX9_isWord_36 : decode cX9_isWord 36 = .ok (.aload_n 0, 1) := by decide +kernel
theorem dX9_isWord_37 : decode cX9_isWord 37 = .ok (.getfield 9, 3) := by decide +kernel
theorem dX9_isWord_40 : decode cX9_isWord 40 = .ok (.aload_n 0, 1) := by decide +kernel
theorem dX9_isWord_41 : decode cX9_isWord 41 = .ok (.getfield 22, 3) := by decide +kernel
theorem dX9_isWord_44 : decode cX9_isWord 44 = .ok (.iload_n 2, 1) := by decide +kernel
theorem dX9_isWord_45 : decode cX9_isWord 45 = .ok (.iadd, 1) := by decide +kernel
theorem dX9_isWord_46 : decode cX9_isWord 46 = .ok (.iaload, 1) := by decide +kernel
theorem dX9_isWord_47 : decode cX9_isWord 47 = .ok (.aload_n 1, 1) := by decide +kernel
theorem dX9_isWord_48 : decode cX9_isWord 48 = .ok (.iload_n 2, 1) := by decide +kernel
theorem dX9_isWord_49 : decode cX9_isWord 49 = .ok (.invokevirtual 87, 3) := by decide +kernel
theorem dX9_isWord_52 : decode cX9_isWord 52 = .ok (.if_icmp .eq 5, 3) := by decide +kernel
theorem dX9_isWord_55 : decode cX9_isWord 55 = .ok (.iconst 0, 1) := by decide +kernel
theorem dX9_isWord_56 : decode cX9_isWord 56 = .ok (.ireturn, 1) := by decide +kernel
theorem dX9_isWord_57 : decode cX9_isWord 57 = .ok (.iinc 2 1, 3) := by decide +kernel
theorem dX9_isWord_60 : decode cX9_isWord 60 = .ok (.goto (-32), 3) := by decide +kernel
theorem dX9_isWord_63 : decode cX9_isWord 63 = .ok (.iconst 1, 1) := by decide +kernel
theorem dX9_isWord_64 : decode cX9_isWord 64 = .ok (.ireturn, 1) := by decide +kernel
theorem dX9_advance_0 : decode cX9_advance 0 = .ok (.aload_n 0, 1) := by decide +kernel
theorem dX9_advance_1 : decode cX9_advance 1 = .ok (.getfield 25, 3) := by decide +kernel
theorem dX9_advance_4 : decode cX9_advance 4 = .ok (.istore_n 1, 1) := by decide +kernel
theorem dX9_advance_5 : decode cX9_advance 5 = .ok (.iload_n 1, 1) := by decide +kernel
theorem dX9_advance_6 : decode cX9_advance 6 = .ok (.aload_n 0, 1) := by decide +kernel
theorem dX9_advance_7 : decode cX9_advance 7 = .ok (.getfield 15, 3) := by decide +kernel
theorem dX9_advance_10 : decode cX9_advance 10 = .ok (.if_icmp .ge 20, 3) := by decide +kernel
theorem dX9_advance_13 : decode cX9_advance 13 = .ok (.aload_n 0, 1) := by decide +kernel
theorem dX9_advance_14 : decode cX9_advance 14 = .ok (.getfield 9, 3) := by decide +kernel
theorem dX9_advance_17 : decode cX9_advance 17 = .ok (.iload_n 1, 1) := by decide +kernel
theorem dX9_advance_18 : decode cX9_advance 18 = .ok (.iaload, 1) := by decide +kernel
theorem dX9_advance_19 : decode cX9_advance 19 = .ok (.bipush 32, 2) := by decide +kernel
theorem dX9_advance_21 : decode cX9_advance 21 = .ok (.if_icmp .ne 9, 3) := by decide +kernel
theorem dX9_advance_24 : decode cX9_advance 24 = .ok (.iinc 1 1, 3) := by decide +kernel
theorem dX9_advance_27 : decode cX9_advance 27 = .ok (.goto (-22), 3) := by decide +kernel
theorem dX9_advance_30 : decode cX9_advance 30 = .ok (.aload_n 0, 1) := by decide +kernel
theorem dX9_advance_31 : decode cX9_advance 31 = .ok (.iload_n 1, 1) := by decide +kernel
theorem dX9_advance_32 : decode cX9_advance 32 = .ok (.putfield 22, 3) := by decide +kernel
theorem dX9_advance_35 : decode cX9_advance 35 = .ok (.aload_n 0, 1) := by decide +kernel
theorem dX9_advance_36 : decode cX9_advance 36 = .ok (.iconst 0, 1) := by decide +kernel
theorem dX9_advance_37 : decode cX9_advance 37 = .ok (.putfield 28, 3) := by decide +kernel
theorem dX9_advance_40 : decode cX9_advance 40 = .ok (.iload_n 1, 1) := by decide +kernel
theorem dX9_advance_41 : decode cX9_advance 41 = .ok (.aload_n 0, 1) := by decide +kernel
theorem dX9_advance_42 : decode cX9_advance 42 = .ok (.getfield 15, 3) := by decide +kernel
theorem dX9_advance_45 : decode cX9_advance 45 = .ok (.if_icmp .lt 11, 3) := by decide +kernel
theorem dX9_advance_48 : decode cX9_advance 48 = .ok (.aload_n 0, 1) := by decide +kernel
theorem dX9_advance_49 : decode cX9_advance 49 = .ok (.iconst 0, 1) := by decide +kernel
theorem dX9_advance_50 : decode cX9_advance 50 = .ok (.putfield 19, 3) := by decide +kernel
theorem dX9_advance_53 : decode cX9_advance 53 = .ok (.goto 139, 3) := by decide +kernel
theorem dX9_advance_56 : decode cX9_advance 56 = .ok (.aload_n 0, 1) := by decide +kernel
theorem dX9_advance_57 : decode cX9_advance 57 = .ok (.getfield 9, 3) := by decide +kernel
theorem dX9_advance_60 : decode cX9_advance 60 = .ok (.iload_n 1, 1) := by decide +kernel
theorem dX9_advance_61 : decode cX9_advance 61 = .ok (.iaload, 1) := by decide +kernel
theorem dX9_advance_62 : decode cX9_advance 62 = .ok (.invokestatic 91, 3) := by decide +kernel
theorem dX9_advance_65 : decode cX9_advance 65 = .ok (.ifCond .eq 34, 3) := by decide +kernel
theorem dX9_advance_68 : decode cX9_advance 68 = .ok (.aload_n 0, 1) := by decide +kernel
theorem dX9_advance_69 : decode cX9_advance 69 = .ok (.iconst 1, 1) := by decide +kernel
theorem dX9_advance_70 : decode cX9_advance 70 = .ok (.putfield 19, 3) := by decide +kernel
theorem dX9_advance_73 : decode cX9_advance 73 = .ok (.iload_n 1, 1) := by decide +kernel
theorem dX9_advance_74 : decode cX9_advance 74 = .ok (.aload_n 0, 1) := by decide +kernel
theorem dX9_advance_75 : decode cX9_advance 75 = .ok (.getfield 15, 3) := by decide +kernel
theorem dX9_advance_78 : decode cX9_advance 78 = .ok (.if_icmp .ge 114, 3) := by decide +kernel
theorem dX9_advance_81 : decode cX9_advance 81 = .ok (.aload_n 0, 1) := by decide +kernel
theorem dX9_advance_82 : decode cX9_advance 82 = .ok (.getfield 9, 3) := by decide +kernel
theorem dX9_advance_85 : decode cX9_advance 85 = .ok (.iload_n 1, 1) := by decide +kernel
theorem dX9_advance_86 : decode cX9_advance 86 = .ok (.iaload, 1) := by decide +kernel
theorem dX9_advance_87 : decode cX9_advance 87 = .ok (.invokestatic 91, 3) := by decide +kernel
theorem dX9_advance_90 : decode cX9_advance 90 = .ok (.ifCond .eq 102, 3) := by decide +kernel
theorem dX9_advance_93 : decode cX9_advance 93 = .ok (.iinc 1 1, 3) := by decide +kernel
theorem dX9_advance_96 : decode cX9_advance 96 = .ok (.goto (-23), 3) := by decide +kernel
theorem dX9_advance_99 : decode cX9_advance 99 = .ok (.aload_n 0, 1) := by decide +kernel
theorem dX9_advance_100 : decode cX9_advance 100 = .ok (.getfield 9, 3) := by decide +kernel
theorem dX9_advance_103 : decode cX9_advance 103 = .ok (.iload_n 1, 1) := by decide +kernel
theorem dX9_advance_104 : decode cX9_advance 104 = .ok (.iaload, 1) := by decide +kernel
theorem dX9_advance_105 : decode cX9_advance 105 = .ok (.invokestatic 95, 3) := by decide +kernel
theorem dX9_advance_108 : decode cX9_advance 108 = .ok (.ifCond .eq 61, 3) := by decide +kernel
theorem dX9_advance_111 : decode cX9_advance 111 = .ok (.aload_n 0, 1) := by decide +kernel
theorem dX9_advance_112 : decode cX9_advance 112 = .ok (.iconst 2, 1) := by decide +kernel
theorem dX9_advance_113 : decode cX9_advance 113 = .ok (.putfield 19, 3) := by decide +kernel
theorem dX9_advance_116 : decode cX9_advance 116 = .ok (.iload_n 1, 1) := by decide +kernel
theorem dX9_advance_117 : decode cX9_advance 117 = .ok (.aload_n 0, 1) := by decide +kernel
theorem dX9_advance_118 : decode cX9_advance 118 = .ok (.getfield 15, 3) := by decide +kernel
theorem dX9_advance_121 : decode cX9_advance 121 = .ok (.if_icmp .ge 71, 3) := by decide +kernel
theorem dX9_advance_124 : decode cX9_advance 124 = .ok (.aload_n 0, 1) := by decide +kernel
theorem dX9_advance_125 : decode cX9_advance 125 = .ok (.getfield 9, 3) := by decide +kernel
theorem dX9_advance_128 : decode cX9_advance 128 = .ok (.iload_n 1, 1) := by decide +kernel
theorem dX9_advance_129 : decode cX9_advance 129 = .ok (.iaload, 1) := by decide +kernel
theorem dX9_advance_130 : decode cX9_advance 130 = .ok (.invokestatic 95, 3) := by decide +kernel
theorem dX9_advance_133 : decode cX9_advance 133 = .ok (.ifCond .eq 59, 3) := by decide +kernel
theorem dX9_advance_136 : decode cX9_advance 136 = .ok (.aload_n 0, 1) := by decide +kernel
theorem dX9_advance_137 : decode cX9_advance 137 = .ok (.sipush 1000, 3) := by decide +kernel
theorem dX9_advance_140 : decode cX9_advance 140 = .ok (.bipush 10, 2) := by decide +kernel
theorem dX9_advance_142 : decode cX9_advance 142 = .ok (.aload_n 0, 1) := by decide +kernel
theorem dX9_advance_143 : decode cX9_advance 143 = .ok (.getfield 28, 3) := by decide +kernel
theorem dX9_advance_146 : decode cX9_advance 146 = .ok (.imul, 1) := by decide +kernel
theorem dX9_advance_147 : decode cX9_advance 147 = .ok (.aload_n 0, 1) := by decide +kernel
theorem dX9_advance_148 : decode cX9_advance 148 = .ok (.getfield 9, 3) := by decide +kernel
theorem dX9_advance_151 : decode cX9_advance 151 = .ok (.iload_n 1, 1) := by decide +kernel
theorem dX9_advance_152 : decode cX9_advance 152 = .ok (.iaload, 1) := by decide +kernel
theorem dX9_advance_153 : decode cX9_advance 153 = .ok (.iadd, 1) := by decide +kernel
theorem dX9_advance_154 : decode cX9_advance 154 = .ok (.bipush 48, 2) := by decide +kernel
theorem dX9_advance_156 : decode cX9_advance 156 = .ok (.isub, 1) := by decide +kernel
theorem dX9_advance_157 : decode cX9_advance 157 = .ok (.invokestatic 98, 3) := by decide +kernel
theorem dX9_advance_160 : decode cX9_advance 160 = .ok (.putfield 28, 3) := by decide +kernel
theorem dX9_advance_163 : decode cX9_advance 163 = .ok (.iinc 1 1, 3) := by decide +kernel
theorem dX9_advance_166 : decode cX9_advance 166 = .ok (.goto (-50), 3) := by decide +kernel
theorem dX9_advance_169 : decode cX9_advance 169 = .ok (.aload_n 0, 1) := by decide +kernel
theorem dX9_advance_170 : decode cX9_advance 170 = .ok (.aload_n 0, 1) := by decide +kernel
theorem dX9_advance_171 : decode cX9_advance 171 = .ok (.getfield 9, 3) := by decide +kernel
theorem dX9_advance_174 : decode cX9_advance 174 = .ok (.iload_n 1, 1) := by decide +kernel
theorem dX9_advance_175 : decode cX9_advance 175 = .ok (.iaload, 1) := by decide +kernel
theorem dX9_advance_176 : decode cX9_advance 176 = .ok (.bipush 59, 2) := by decide +kernel
theorem dX9_advance_178 : decode cX9_advance 178 = .ok (.if_icmp .ne 7, 3) := by decide +kernel
theorem dX9_advance_181 : decode cX9_advance 181 = .ok (.iconst 3, 1) := by decide +kernel
theorem dX9_advance_182 : decode cX9_advance 182 = .ok (.goto 4, 3) := by decide +kernel
theorem dX9_advance_185 : decode cX9_advance 185 = .ok (.iconst 4, 1) := by decide +kernel
theorem dX9_advance_186 : decode cX9_advance 186 = .ok (.putfield 19, 3) := by decide +kernel
theorem dX9_advance_189 : decode cX9_advance 189 = .ok (.iinc 1 1, 3) := by decide +kernel
theorem dX9_advance_192 : decode cX9_advance 192 = .ok (.aload_n 0, 1) := by decide +kernel
theorem dX9_advance_193 : decode cX9_advance 193 = .ok (.iload_n 1, 1) := by decide +kernel
theorem dX9_advance_194 : decode cX9_advance 194 = .ok (.putfield 25, 3) := by decide +kernel
theorem dX9_advance_197 : decode cX9_advance 197 = .ok (.return_, 1) := by decide +kernel
theorem dX9_isLetter_0 : decode cX9_isLetter 0 = .ok (.iload_n 0, 1) := by decide +kernel
theorem dX9_isLetter_1 : decode cX9_isLetter 1 = .ok (.bipush 97, 2) := by decide +kernel
theorem dX9_isLetter_3 : decode cX9_isLetter 3 = .ok (.if_icmp .lt 13, 3) := by decide +kernel
theorem dX9_isLetter_6 : decode cX9_isLetter 6 = .ok (.iload_n 0, 1) := by decide +kernel
theorem dX9_isLetter_7 : decode cX9_isLetter 7 = .ok (.bipush 122, 2) := by decide +kernel
theorem dX9_isLetter_9 : decode cX9_isLetter 9 = .ok (.if_icmp .gt 7, 3) := by decide +kernel
theorem dX9_isLetter_12 : decode cX9_isLetter 12 = .ok (.iconst 1, 1) := by decide +kernel
theorem dX9_isLetter_13 : decode cX9_isLetter 13 = .ok (.goto 4, 3) := by decide +kernel
theorem dX9_isLetter_16 : decode cX9_isLetter 16 = .ok (.iconst 0, 1) := by decide +kernel
theorem dX9_isLetter_17 : decode cX9_isLetter 17 = .ok (.ireturn, 1) := by decide +kernel
theorem dX9_isDigit_0 : decode cX9_isDigit 0 = .ok (.iload_n 0, 1) := by decide +kernel
theorem dX9_isDigit_1 : decode cX9_isDigit 1 = .ok (.bipush 48, 2) := by decide +kernel
theorem dX9_isDigit_3 : decode cX9_isDigit 3 = .ok (.if_icmp .lt 13, 3) := by decide +kernel
theorem dX9_isDigit_6 : decode cX9_isDigit 6 = .ok (.iload_n 0, 1) := by decide +kernel
theorem dX9_isDigit_7 : decode cX9_isDigit 7 = .ok (.bipush 57, 2) := by decide +kernel
theorem dX9_isDigit_9 : decode cX9_isDigit 9 = .ok (.if_icmp .gt 7, 3) := by decide +kernel
theorem dX9_isDigit_12 : decode cX9_isDigit 12 = .ok (.iconst 1, 1) := by decide +kernel
theorem dX9_isDigit_13 : decode cX9_isDigit 13 = .ok (.goto 4, 3) := by decide +kernel
theorem dX9_isDigit_16 : decode cX9_isDigit 16 = .ok (.iconst 0, 1) := by decide +kernel
theorem dX9_isDigit_17 : decode cX9_isDigit 17 = .ok (.ireturn, 1) := by decide +kernel
theorem dJ9_abs_0f7a4_0 : decode cJ9_abs_0f7a4 0 = .ok (.iload_n 0, 1) := by decide +kernel
theorem dJ9_abs_0f7a4_1 : decode cJ9_abs_0f7a4 1 = .ok (.ifCond .ge 8, 3) := by decide +kernel
theorem dJ9_abs_0f7a4_4 : decode cJ9_abs_0f7a4 4 = .ok (.iload_n 0, 1) := by decide +kernel
theorem dJ9_abs_0f7a4_5 : decode cJ9_abs_0f7a4 5 = .ok (.ineg, 1) := by decide +kernel
theorem dJ9_abs_0f7a4_6 : decode cJ9_abs_0f7a4 6 = .ok (.goto 4, 3) := by decide +kernel
theorem dJ9_abs_0f7a4_9 : decode cJ9_abs_0f7a4 9 = .ok (.iload_n 0, 1) := by decide +kernel
theorem dJ9_abs_0f7a4_10 : decode cJ9_abs_0f7a4 10 = .ok (.ireturn, 1) := by decide +kernel
theorem dJ9_max_7cf53_0 : decode cJ9_max_7cf53 0 = .ok (.iload_n 0, 1) := by decide +kernel
theorem dJ9_max_7cf53_1 : decode cJ9_max_7cf53 1 = .ok (.iload_n 1, 1) := by decide +kernel
theorem dJ9_max_7cf53_2 : decode cJ9_max_7cf53 2 = .ok (.if_icmp .lt 7, 3) := by decide +kernel
theorem dJ9_max_7cf53_5 : decode cJ9_max_7cf53 5 = .ok (.iload_n 0, 1) := by decide +kernel
theorem dJ9_max_7cf53_6 : decode cJ9_max_7cf53 6 = .ok (.goto 4, 3) := by decide +kernel
theorem dJ9_max_7cf53_9 : decode cJ9_max_7cf53 9 = .ok (.iload_n 1, 1) := by decide +kernel
theorem dJ9_max_7cf53_10 : decode cJ9_max_7cf53 10 = .ok (.ireturn, 1) := by decide +kernel
theorem dJ9_min_7cf53_0 : decode cJ9_min_7cf53 0 = .ok (.iload_n 0, 1) := by decide +kernel
theorem dJ9_min_7cf53_1 : decode cJ9_min_7cf53 1 = .ok (.iload_n 1, 1) := by decide +kernel
theorem dJ9_min_7cf53_2 : decode cJ9_min_7cf53 2 = .ok (.if_icmp .gt 7, 3) := by decide +kernel
theorem dJ9_min_7cf53_5 : decode cJ9_min_7cf53 5 = .ok (.iload_n 0, 1) := by decide +kernel
theorem dJ9_min_7cf53_6 : decode cJ9_min_7cf53 6 = .ok (.goto 4, 3) := by decide +kernel
theorem dJ9_min_7cf53_9 : decode cJ9_min_7cf53 9 = .ok (.iload_n 1, 1) := by decide +kernel
theorem dJ9_min_7cf53_10 : decode cJ9_min_7cf53 10 = .ok (.ireturn, 1) := by decide +kernel
theorem dJ0_length_8abf5_0 : decode cJ0_length_8abf5 0 = .ok (.aload_n 0, 1) := by decide +kernel
theorem dJ0_length_8abf5_1 : decode cJ0_length_8abf5 1 = .ok (.getfield 9, 3) := by decide +kernel
theorem dJ0_length_8abf5_4 : decode cJ0_length_8abf5 4 = .ok (.arraylength, 1) := by decide +kernel
theorem dJ0_length_8abf5_5 : decode cJ0_length_8abf5 5 = .ok (.aload_n 0, 1) := by decide +kernel
theorem dJ0_length_8abf5_6 : decode cJ0_length_8abf5 6 = .ok (.invokevirtual 335, 3) := by decide +kernel
theorem dJ0_length_8abf5_9 : decode cJ0_length_8abf5 9 = .ok (.ishr, 1) := by decide +kernel
theorem dJ0_length_8abf5_10 : decode cJ0_length_8abf5 10 = .ok (.ireturn, 1) := by decide +kernel
theorem dJ0_charAt_5068e_0 : decode cJ0_charAt_5068e 0 = .ok (.aload_n 0, 1) := by decide +kernel
theorem dJ0_charAt_5068e_1 : decode cJ0_charAt_5068e 1 = .ok (.invokevirtual 492, 3) := by decide +kernel
theorem dJ0_charAt_5068e_4 : decode cJ0_charAt_5068e 4 = .ok (.ifCond .eq 12, 3) := by decide +kernel
theorem dJ0_charAt_5068e_7 : decode cJ0_charAt_5068e 7 = .ok (.aload_n 0, 1) := by decide +kernel
theorem dJ0_charAt_5068e_8 : decode cJ0_charAt_5068e 8 = .ok (.getfield 9, 3) := by decide +kernel
theorem dJ0_charAt_5068e_11 : decode cJ0_charAt_5068e 11 = .ok (.iload_n 1, 1) := by decide +kernel
theorem dJ0_charAt_5068e_12 : decode cJ0_charAt_5068e 12 = .ok (.invokestatic 495, 3) := by decide +kernel
theorem dJ0_charAt_5068e_15 : decode cJ0_charAt_5068e 15 = .ok (.ireturn, 1) := by decide +kernel
theorem dJ0_charAt_5068e_16 : decode cJ0_charAt_5068e 16 = .ok (.aload_n 0, 1) := by decide +kernel
theorem dJ0_charAt_5068e_17 : decode cJ0_charAt_5068e 17 = .ok (.getfield 9, 3) := by decide +kernel
theorem dJ0_charAt_5068e_20 : decode cJ0_charAt_5068e 20 = .ok (.iload_n 1, 1) := by decide +kernel
theorem dJ0_charAt_5068e_21 : decode cJ0_charAt_5068e 21 = .ok (.invokestatic 498, 3) := by decide +kernel
theorem dJ0_charAt_5068e_24 : decode cJ0_charAt_5068e 24 = .ok (.ireturn, 1) := by decide +kernel
theorem dJ0_coder_7d493_0 : decode cJ0_coder_7d493 0 = .ok (.getstatic 38, 3) := by decide +kernel
theorem dJ0_coder_7d493_3 : decode cJ0_coder_7d493 3 = .ok (.ifCond .eq 10, 3) := by decide +kernel
theorem dJ0_coder_7d493_6 : decode cJ0_coder_7d493 6 = .ok (.aload_n 0, 1) := by decide +kernel
theorem dJ0_coder_7d493_7 : decode cJ0_coder_7d493 7 = .ok (.getfield 15, 3) := by decide +kernel
theorem dJ0_coder_7d493_10 : decode cJ0_coder_7d493 10 = .ok (.goto 4, 3) := by decide +kernel
theorem dJ0_coder_7d493_13 : decode cJ0_coder_7d493 13 = .ok (.iconst 1, 1) := by decide +kernel
theorem dJ0_coder_7d493_14 : decode cJ0_coder_7d493 14 = .ok (.ireturn, 1) := by decide +kernel
theorem dJ0_isLatin1_aae02_0 : decode cJ0_isLatin1_aae02 0 = .ok (.getstatic 38, 3) := by decide +kernel
theorem dJ0_isLatin1_aae02_3 : decode cJ0_isLatin1_aae02 3 = .ok (.ifCond .eq 14, 3) := by decide +kernel
theorem dJ0_isLatin1_aae02_6 : decode cJ0_isLatin1_aae02 6 = .ok (.aload_n 0, 1) := by decide +kernel
theorem dJ0_isLatin1_aae02_7 : decode cJ0_isLatin1_aae02 7 = .ok (.getfield 15, 3) := by decide +kernel
theorem dJ0_isLatin1_aae02_10 : decode cJ0_isLatin1_aae02 10 = .ok (.ifCond .ne 7, 3) := by decide +kernel
theorem dJ0_isLatin1_aae02_13 : decode cJ0_isLatin1_aae02 13 = .ok (.iconst 1, 1) := by decide +kernel
theorem dJ0_isLatin1_aae02_14 : decode cJ0_isLatin1_aae02 14 = .ok (.goto 4, 3) := by decide +kernel
theorem dJ0_isLatin1_aae02_17 : decode cJ0_isLatin1_aae02 17 = .ok (.iconst 0, 1) := by decide +kernel
theorem dJ0_isLatin1_aae02_18 : decode cJ0_isLatin1_aae02 18 = .ok (.ireturn, 1) := by decide +kernel
theorem dJ0_checkIndex_df160_0 : decode cJ0_checkIndex_df160 0 = .ok (.iload_n 0, 1) := by decide +kernel
theorem dJ0_checkIndex_df160_1 : decode cJ0_checkIndex_df160 1 = .ok (.iload_n 1, 1) := by decide +kernel
theorem dJ0_checkIndex_df160_2 : decode cJ0_checkIndex_df160 2 = .ok (.getstatic 1053, 3) := by decide +kernel
theorem dJ0_checkIndex_df160_5 : decode cJ0_checkIndex_df160 5 = .ok (.invokestatic 1059, 3) := by decide +kernel
theorem dJ0_checkIndex_df160_8 : decode cJ0_checkIndex_df160 8 = .ok (.pop, 1) := by decide +kernel
theorem dJ0_checkIndex_df160_9 : decode cJ0_checkIndex_df160 9 = .ok (.return_, 1) := by decide +kernel
theorem dJ1_charAt_3b067_0 : decode cJ1_charAt_3b067 0 = .ok (.iload_n 1, 1) := by decide +kernel
theorem dJ1_charAt_3b067_1 : decode cJ1_charAt_3b067 1 = .ok (.aload_n 0, 1) := by decide +kernel
theorem dJ1_charAt_3b067_2 : decode cJ1_charAt_3b067 2 = .ok (.arraylength, 1) := by decide +kernel
theorem dJ1_charAt_3b067_3 : decode cJ1_charAt_3b067 3 = .ok (.invokestatic 9, 3) := by decide +kernel
theorem dJ1_charAt_3b067_6 : decode cJ1_charAt_3b067 6 = .ok (.aload_n 0, 1) := by decide +kernel
theorem dJ1_charAt_3b067_7 : decode cJ1_charAt_3b067 7 = .ok (.iload_n 1, 1) := by decide +kernel
theorem dJ1_charAt_3b067_8 : decode cJ1_charAt_3b067 8 = .ok (.baload, 1) := by decide +kernel
theorem dJ1_charAt_3b067_9 : decode cJ1_charAt_3b067 9 = .ok (.sipush 255, 3) := by decide +kernel
theorem dJ1_charAt_3b067_12 : decode cJ1_charAt_3b067 12 = .ok (.iand, 1) := by decide +kernel
theorem dJ1_charAt_3b067_13 : decode cJ1_charAt_3b067 13 = .ok (.i2c, 1) := by decide +kernel
theorem dJ1_charAt_3b067_14 : decode cJ1_charAt_3b067 14 = .ok (.ireturn, 1) := by decide +kernel
theorem dJ2_getChar_3b067_0 : decode cJ2_getChar_3b067 0 = .ok (.getstatic 44, 3) := by decide +kernel
theorem dJ2_getChar_3b067_3 : decode cJ2_getChar_3b067 3 = .ok (.ifCond .ne 25, 3) := by decide +kernel
theorem dJ2_getChar_3b067_6 : decode cJ2_getChar_3b067 6 = .ok (.iload_n 1, 1) := by decide +kernel
theorem dJ2_getChar_3b067_7 : decode cJ2_getChar_3b067 7 = .ok (.ifCond .lt 11, 3) := by decide +kernel
theorem dJ2_getChar_3b067_10 : decode cJ2_getChar_3b067 10 = .ok (.iload_n 1, 1) := by decide +kernel
theorem dJ2_getChar_3b067_11 : decode cJ2_getChar_3b067 11 = .ok (.aload_n 0, 1) := by decide +kernel
theorem dJ2_getChar_3b067_12 : decode cJ2_getChar_3b067 12 = .ok (.invokestatic 48, 3) := by decide +kernel
theorem dJ2_getChar_3b067_15 : decode cJ2_getChar_3b067 15 = .ok (.if_icmp .lt 13, 3) := by decide +kernel
theorem dJ2_getChar_3b067_18 : decode cJ2_getChar_3b067 18 = .ok (.new 52, 3) := by decide +kernel
theorem dJ2_getChar_3b067_21 : decode cJ2_getChar_3b067 21 = .ok (.dup, 1) := by decide +kernel
theorem dJ2_getChar_3b067_22 : decode cJ2_getChar_3b067 22 = .ok (.ldc 54, 2) := by decide +kernel
theorem dJ2_getChar_3b067_24 : decode cJ2_getChar_3b067 24 = .ok (.invokespecial 56, 3) := by decide +kernel
theorem dJ2_getChar_3b067_27 : decode cJ2_getChar_3b067 27 = .ok (.athrow, 1) := by decide +kernel
theorem dJ2_getChar_3b067_28 : decode cJ2_getChar_3b067 28 = .ok (.iload_n 1, 1) := by decide +kernel
theorem dJ2_getChar_3b067_29 : decode cJ2_getChar_3b067 29 = .ok (.iconst 1, 1) := by decide +kernel
theorem dJ2_getChar_3b067_30 : decode cJ2_getChar_3b067 30 = .ok (.ishl, 1) := by decide +kernel
theorem dJ2_getChar_3b067_31 : decode cJ2_getChar_3b067 31 = .ok (.istore_n 1, 1) := by decide +kernel
theorem dJ2_getChar_3b067_32 : decode cJ2_getChar_3b067 32 = .ok (.aload_n 0, 1) := by decide +kernel
theorem dJ2_getChar_3b067_33 : decode cJ2_getChar_3b067 33 = .ok (.iload_n 1, 1) := by decide +kernel
theorem dJ2_getChar_3b067_34 : decode cJ2_getChar_3b067 34 = .ok (.iinc 1 1, 3) := by decide +kernel
theorem dJ2_getChar_3b067_37 : decode cJ2_getChar_3b067 37 = .ok (.baload, 1) := by decide +kernel
theorem dJ2_getChar_3b067_38 : decode cJ2_getChar_3b067 38 = .ok (.sipush 255, 3) := by decide +kernel
theorem dJ2_getChar_3b067_41 : decode cJ2_getChar_3b067 41 = .ok (.iand, 1) := by decide +kernel
theorem dJ2_getChar_3b067_42 : decode cJ2_getChar_3b067 42 = .ok (.getstatic 59, 3) := by decide +kernel
theorem dJ2_getChar_3b067_45 : decode cJ2_getChar_3b067 45 = .ok (.ishl, 1) := by decide +kernel
theorem dJ2_getChar_3b067_46 : decode cJ2_getChar_3b067 46 = .ok (.aload_n 0, 1) := by decide +kernel
theorem dJ2_getChar_3b067_47 : decode cJ2_getChar_3b067 47 = .ok (.iload_n 1, 1) := by decide +kernel
theorem dJ2_getChar_3b067_48 : decode cJ2_getChar_3b067 48 = .ok (.baload, 1) := by decide +kernel
theorem dJ2_getChar_3b067_49 : decode cJ2_getChar_3b067 49 = .ok (.sipush 255, 3) := by decide +kernel
theorem dJ2_getChar_3b067_52 : decode cJ2_getChar_3b067 52 = .ok (.iand, 1) := by decide +kernel
theorem dJ2_getChar_3b067_53 : decode cJ2_getChar_3b067 53 = .ok (.getstatic 63, 3) := by decide +kernel
theorem dJ2_getChar_3b067_56 : decode cJ2_getChar_3b067 56 = .ok (.ishl, 1) := by decide +kernel
theorem dJ2_getChar_3b067_57 : decode cJ2_getChar_3b067 57 = .ok (.ior, 1) := by decide +kernel
theorem dJ2_getChar_3b067_58 : decode cJ2_getChar_3b067 58 = .ok (.i2c, 1) := by decide +kernel
theorem dJ2_getChar_3b067_59 : decode cJ2_getChar_3b067 59 = .ok (.ireturn, 1) := by decide +kernel
theorem dJ2_length_9d52b_0 : decode cJ2_length_9d52b 0 = .ok (.aload_n 0, 1) := by decide +kernel
theorem dJ2_length_9d52b_1 : decode cJ2_length_9d52b 1 = .ok (.arraylength, 1) := by decide +kernel
theorem dJ2_length_9d52b_2 : decode cJ2_length_9d52b 2 = .ok (.iconst 1, 1) := by decide +kernel
theorem dJ2_length_9d52b_3 : decode cJ2_length_9d52b 3 = .ok (.ishr, 1) := by decide +kernel
theorem dJ2_length_9d52b_4 : decode cJ2_length_9d52b 4 = .ok (.ireturn, 1) := by decide +kernel
theorem dJ2_charAt_3b067_0 : decode cJ2_charAt_3b067 0 = .ok (.iload_n 1, 1) := by decide +kernel
theorem dJ2_charAt_3b067_1 : decode cJ2_charAt_3b067 1 = .ok (.aload_n 0, 1) := by decide +kernel
theorem dJ2_charAt_3b067_2 : decode cJ2_charAt_3b067 2 = .ok (.invokestatic 67, 3) := by decide +kernel
theorem dJ2_charAt_3b067_5 : decode cJ2_charAt_3b067 5 = .ok (.aload_n 0, 1) := by decide +kernel
theorem dJ2_charAt_3b067_6 : decode cJ2_charAt_3b067 6 = .ok (.iload_n 1, 1) := by decide +kernel
theorem dJ2_charAt_3b067_7 : decode cJ2_charAt_3b067 7 = .ok (.invokestatic 71, 3) := by decide +kernel
theorem dJ2_charAt_3b067_10 : decode cJ2_charAt_3b067 10 = .ok (.ireturn, 1) := by decide +kernel
theorem dJ2_checkIndex_2214a_0 : decode cJ2_checkIndex_2214a 0 = .ok (.iload_n 0, 1) := by decide +kernel
theorem dJ2_checkIndex_2214a_1 : decode cJ2_checkIndex_2214a 1 = .ok (.aload_n 1, 1) := by decide +kernel
theorem dJ2_checkIndex_2214a_2 : decode cJ2_checkIndex_2214a 2 = .ok (.invokestatic 48, 3) := by decide +kernel
theorem dJ2_checkIndex_2214a_5 : decode cJ2_checkIndex_2214a 5 = .ok (.invokestatic 414, 3) := by decide +kernel
theorem dJ2_checkIndex_2214a_8 : decode cJ2_checkIndex_2214a 8 = .ok (.return_, 1) := by decide +kernel
theorem dJ7_fill_d0a16_0 : decode cJ7_fill_d0a16 0 = .ok (.iconst 0, 1) := by decide +kernel
theorem dJ7_fill_d0a16_1 : decode cJ7_fill_d0a16 1 = .ok (.istore_n 3, 1) := by decide +kernel
theorem dJ7_fill_d0a16_2 : decode cJ7_fill_d0a16 2 = .ok (.aload_n 0, 1) := by decide +kernel
theorem dJ7_fill_d0a16_3 : decode cJ7_fill_d0a16 3 = .ok (.arraylength, 1) := by decide +kernel
theorem dJ7_fill_d0a16_4 : decode cJ7_fill_d0a16 4 = .ok (.istore 4, 2) := by decide +kernel
theorem dJ7_fill_d0a16_6 : decode cJ7_fill_d0a16 6 = .ok (.iload_n 3, 1) := by decide +kernel
theorem dJ7_fill_d0a16_7 : decode cJ7_fill_d0a16 7 = .ok (.iload 4, 2) := by decide +kernel
theorem dJ7_fill_d0a16_9 : decode cJ7_fill_d0a16 9 = .ok (.if_icmp .ge 13, 3) := by decide +kernel
theorem dJ7_fill_d0a16_12 : decode cJ7_fill_d0a16 12 = .ok (.aload_n 0, 1) := by decide +kernel
theorem dJ7_fill_d0a16_13 : decode cJ7_fill_d0a16 13 = .ok (.iload_n 3, 1) := by decide +kernel
theorem dJ7_fill_d0a16_14 : decode cJ7_fill_d0a16 14 = .ok (.lload_n 1, 1) := by decide +kernel
theorem dJ7_fill_d0a16_15 : decode cJ7_fill_d0a16 15 = .ok (.lastore, 1) := by decide +kernel
theorem dJ7_fill_d0a16_16 : decode cJ7_fill_d0a16 16 = .ok (.iinc 3 1, 3) := by decide +kernel
theorem dJ7_fill_d0a16_19 : decode cJ7_fill_d0a16 19 = .ok (.goto (-13), 3) := by decide +kernel
theorem dJ7_fill_d0a16_22 : decode cJ7_fill_d0a16 22 = .ok (.return_, 1) := by decide +kernel
theorem dJ3_checkIndex_8e157_0 : decode cJ3_checkIndex_8e157 0 = .ok (.iload_n 0, 1) := by decide +kernel
theorem dJ3_checkIndex_8e157_1 : decode cJ3_checkIndex_8e157 1 = .ok (.ifCond .lt 8, 3) := by decide +kernel
theorem dJ3_checkIndex_8e157_4 : decode cJ3_checkIndex_8e157 4 = .ok (.iload_n 0, 1) := by decide +kernel
theorem dJ3_checkIndex_8e157_5 : decode cJ3_checkIndex_8e157 5 = .ok (.iload_n 1, 1) := by decide +kernel
theorem dJ3_checkIndex_8e157_6 : decode cJ3_checkIndex_8e157 6 = .ok (.if_icmp .lt 10, 3) := by decide +kernel
theorem dJ3_checkIndex_8e157_9 : decode cJ3_checkIndex_8e157 9 = .ok (.aload_n 2, 1) := by decide +kernel
theorem dJ3_checkIndex_8e157_10 : decode cJ3_checkIndex_8e157 10 = .ok (.iload_n 0, 1) := by decide +kernel
theorem dJ3_checkIndex_8e157_11 : decode cJ3_checkIndex_8e157 11 = .ok (.iload_n 1, 1) := by decide +kernel
theorem dJ3_checkIndex_8e157_12 : decode cJ3_checkIndex_8e157 12 = .ok (.invokestatic 95, 3) := by decide +kernel
theorem dJ3_checkIndex_8e157_15 : decode cJ3_checkIndex_8e157 15 = .ok (.athrow, 1) := by decide +kernel
theorem dJ3_checkIndex_8e157_16 : decode cJ3_checkIndex_8e157 16 = .ok (.iload_n 0, 1) := by decide +kernel
theorem dJ3_checkIndex_8e157_17 : decode cJ3_checkIndex_8e157 17 = .ok (.ireturn, 1) := by decide +kernel
