theorem dX10_init_0 : decode cX10_init 0 = .ok (.aload_n 0, 1) := by decide +kernel
theorem dX10_init_1 : decode cX10_init 1 = .ok (.invokespecial 1, 3) := by decide +kernel
theorem dX10_init_4 : decode cX10_init 4 = .ok (.aload_n 0, 1) := by decide +kernel
theorem dX10_init_5 : decode cX10_init 5 = .ok (.new 7, 3) := by decide +kernel
theorem dX10_init_8 : decode cX10_init 8 = .ok (.dup, 1) := by decide +kernel
theorem dX10_init_9 : decode cX10_init 9 = .ok (.invokespecial 9, 3) := by decide +kernel
theorem dX10_init_12 : decode cX10_init 12 = .ok (.putfield 10, 3) := by decide +kernel
theorem dX10_init_15 : decode cX10_init 15 = .ok (.aload_n 0, 1) := by decide +kernel
theorem dX10_init_16 : decode cX10_init 16 = .ok (.iconst 4, 1) := by decide +kernel
theorem dX10_init_17 : decode cX10_init 17 = .ok (.anewarray 16, 3) := by decide +kernel
theorem dX10_init_20 : decode cX10_init 20 = .ok (.putfield 18, 3) := by decide +kernel
theorem dX10_init_23 : decode cX10_init 23 = .ok (.aload_n 0, 1) := by decide +kernel
theorem dX10_init_24 : decode cX10_init 24 = .ok (.bipush 7, 2) := by decide +kernel
theorem dX10_init_26 : decode cX10_init 26 = .ok (.newarray .int, 2) := by decide +kernel
theorem dX10_init_28 : decode cX10_init 28 = .ok (.putfield 22, 3) := by decide +kernel
theorem dX10_init_31 : decode cX10_init 31 = .ok (.aload_n 0, 1) := by decide +kernel
theorem dX10_init_32 : decode cX10_init 32 = .ok (.iconst 0, 1) := by decide +kernel
theorem dX10_init_33 : decode cX10_init 33 = .ok (.putfield 26, 3) := by decide +kernel
theorem dX10_init_36 : decode cX10_init 36 = .ok (.new 30, 3) := by decide +kernel
theorem dX10_init_39 : decode cX10_init 39 = .ok (.dup, 1) := by decide +kernel
theorem dX10_init_40 : decode cX10_init 40 = .ok (.invokespecial 32, 3) := by decide +kernel
theorem dX10_init_43 : decode cX10_init 43 = .ok (.astore_n 1, 1) := by decide +kernel
theorem dX10_init_44 : decode cX10_init 44 = .ok (.aload_n 0, 1) := by decide +kernel
theorem dX10_init_45 : decode cX10_init 45 = .ok (.new 33, 3) := by decide +kernel
theorem dX10_init_48 : decode cX10_init 48 = .ok (.dup, 1) := by decide +kernel
theorem dX10_init_49 : decode cX10_init 49 = .ok (.aload_n 1, 1) := by decide +kernel
theorem dX10_init_50 : decode cX10_init 50 = .ok (.invokespecial 35, 3) := by decide +kernel
theorem dX10_init_53 : decode cX10_init 53 = .ok (.putfield 38, 3) := by decide +kernel
theorem dX10_init_56 : decode cX10_init 56 = .ok (.aload_n 0, 1) := by decide +kernel
theorem dX10_init_57 : decode cX10_init 57 = .ok (.new 33, 3) := by decide +kernel
theorem dX10_init_60 : decode cX10_init 60 = .ok (.dup, 1) := by decide +kernel
theorem dX10_init_61 : decode cX10_init 61 = .ok (.aload_n 1, 1) := by decide +kernel
theorem dX10_init_62 : decode cX10_init 62 = .ok (.invokespecial 35, 3) := by decide +kernel
theorem dX10_init_65 : decode cX10_init 65 = .ok (.putfield 42, 3) := by decide +kernel
theorem dX10_init_68 : decode cX10_init 68 = .ok (.aload_n 0, 1) := by decide +kernel
theorem dX10_init_69 : decode cX10_init 69 = .ok (.new 33, 3) := by decide +kernel
theorem dX10_init_72 : decode cX10_init 72 = .ok (.dup, 1) := by decide +kernel
theorem dX10_init_73 : decode cX10_init 73 = .ok (.aload_n 1, 1) := by decide +kernel
theorem dX10_init_74 : decode cX10_init 74 = .ok (.invokespecial 35, 3) := by decide +kernel
theorem dX10_init_77 : decode cX10_init 77 = .ok (.putfield 45, 3) := by decide +kernel
theorem dX10_init_80 : decode cX10_init 80 = .ok (.iconst 0, 1) := by decide +kernel
theorem dX10_init_81 : decode cX10_init 81 = .ok (.istore_n 2, 1) := by decide +kernel
theorem dX10_init_82 : decode cX10_init 82 = .ok (.iload_n 2, 1) := by decide +kernel
theorem dX10_init_83 : decode cX10_init 83 = .ok (.iconst 4, 1) := by decide +kernel
theorem dX10_init_84 : decode cX10_init 84 = .ok (.if_icmp .ge 22, 3) := by decide +kernel
theorem dX10_init_87 : decode cX10_init 87 = .ok (.aload_n 0, 1) := by decide +kernel
theorem dX10_init_88 : decode cX10_init 88 = .ok (.getfield 18, 3) := by decide +kernel
theorem dX10_init_91 : decode cX10_init 91 = .ok (.iload_n 2, 1) := by decide +kernel
theorem dX10_init_92 : decode cX10_init 92 = .ok (.new 16, 3) := by decide +kernel
theorem dX10_init_95 : decode cX10_init 95 = .ok (.dup, 1) := by decide +kernel
theorem dX10_init_96 : decode cX10_init 96 = .ok (.invokespecial 48, 3) := by decide +kernel
theorem dX10_init_99 : decode cX10_init 99 = .ok (.aastore, 1) := by decide +kernel
theorem dX10_init_100 : decode cX10_init 100 = .ok (.iinc 2 1, 3) := by decide +kernel
theorem dX10_init_103 : decode cX10_init 103 = .ok (.goto (-21), 3) := by decide +kernel
theorem dX10_init_106 : decode cX10_init 106 = .ok (.return_, 1) := by decide +kernel
theorem dX10_score_0 : decode cX10_score 0 = .ok (.iload_n 1, 1) := by decide +kernel
theorem dX10_score_1 : decode cX10_score 1 = .ok (.iconst 0, 1) := by decide +kernel
theorem dX10_score_2 : decode cX10_score 2 = .ok (.iconst 5, 1) := by decide +kernel
theorem dX10_score_3 : decode cX10_score 3 = .ok (.invokestatic 49, 3) := by decide +kernel
theorem dX10_score_6 : decode cX10_score 6 = .ok (.ifCond .ne 10, 3) := by decide +kernel
theorem dX10_score_9 : decode cX10_score 9 = .ok (.iload_n 2, 1) := by decide +kernel
theorem dX10_score_10 : decode cX10_score 10 = .ok (.invokestatic 53, 3) := by decide +kernel
theorem dX10_score_13 : decode cX10_score 13 = .ok (.ifCond .eq 10, 3) := by decide +kernel
theorem dX10_score_16 : decode cX10_score 16 = .ok (.aload_n 0, 1) := by decide +kernel
theorem dX10_score_17 : decode cX10_score 17 = .ok (.ldc 57, 2) := by decide +kernel
theorem dX10_score_19 : decode cX10_score 19 = .ok (.invokevirtual 58, 3) := by decide +kernel
theorem dX10_score_22 : decode cX10_score 22 = .ok (.ireturn, 1) := by decide +kernel
theorem dX10_score_23 : decode cX10_score 23 = .ok (.aload_n 0, 1) := by decide +kernel
theorem dX10_score_24 : decode cX10_score 24 = .ok (.getfield 38, 3) := by decide +kernel
theorem dX10_score_27 : decode cX10_score 27 = .ok (.getfield 62, 3) := by decide +kernel
theorem dX10_score_30 : decode cX10_score 30 = .ok (.iload_n 1, 1) := by decide +kernel
theorem dX10_score_31 : decode cX10_score 31 = .ok (.iaload, 1) := by decide +kernel
theorem dX10_score_32 : decode cX10_score 32 = .ok (.istore_n 3, 1) := by decide +kernel
theorem dX10_score_33 : decode cX10_score 33 = .ok (.aload_n 0, 1) := by decide +kernel
theorem dX10_score_34 : decode cX10_score 34 = .ok (.getfield 38, 3) := by decide +kernel
theorem dX10_score_37 : decode cX10_score 37 = .ok (.getfield 62, 3) := by decide +kernel
theorem dX10_score_40 : decode cX10_score 40 = .ok (.iload_n 1, 1) := by decide +kernel
theorem dX10_score_41 : decode cX10_score 41 = .ok (.iload_n 2, 1) := by decide +kernel
theorem dX10_score_42 : decode cX10_score 42 = .ok (.iastore, 1) := by decide +kernel
theorem dX10_score_43 : decode cX10_score 43 = .ok (.iload_n 3, 1) := by decide +kernel
theorem dX10_score_44 : decode cX10_score 44 = .ok (.ireturn, 1) := by decide +kernel
theorem dX10_bell_0 : decode cX10_bell 0 = .ok (.iload_n 1, 1) := by decide +kernel
theorem dX10_bell_1 : decode cX10_bell 1 = .ok (.iconst 0, 1) := by decide +kernel
theorem dX10_bell_2 : decode cX10_bell 2 = .ok (.iconst 2, 1) := by decide +kernel
theorem dX10_bell_3 : decode cX10_bell 3 = .ok (.invokestatic 49, 3) := by decide +kernel
theorem dX10_bell_6 : decode cX10_bell 6 = .ok (.ifCond .ne 13, 3) := by decide +kernel
theorem dX10_bell_9 : decode cX10_bell 9 = .ok (.iload_n 2, 1) := by decide +kernel
theorem dX10_bell_10 : decode cX10_bell 10 = .ok (.iconst 0, 1) := by decide +kernel
theorem dX10_bell_11 : decode cX10_bell 11 = .ok (.bipush 47, 2) := by decide +kernel
theorem dX10_bell_13 : decode cX10_bell 13 = .ok (.invokestatic 49, 3) := by decide +kernel
theorem dX10_bell_16 : decode cX10_bell 16 = .ok (.ifCond .eq 10, 3) := by decide +kernel
theorem dX10_bell_19 : decode cX10_bell 19 = .ok (.aload_n 0, 1) := by decide +kernel
theorem dX10_bell_20 : decode cX10_bell 20 = .ok (.ldc 57, 2) := by decide +kernel
theorem dX10_bell_22 : decode cX10_bell 22 = .ok (.invokevirtual 58, 3) := by decide +kernel
theorem dX10_bell_25 : decode cX10_bell 25 = .ok (.ireturn, 1) := by decide +kernel
theorem dX10_bell_26 : decode cX10_bell 26 = .ok (.aload_n 0, 1) := by decide +kernel
theorem dX10_bell_27 : decode cX10_bell 27 = .ok (.getfield 38, 3) := by decide +kernel
theorem dX10_bell_30 : decode cX10_bell 30 = .ok (.getfield 65, 3) := by decide +kernel
theorem dX10_bell_33 : decode cX10_bell 33 = .ok (.iload_n 1, 1) := by decide +kernel
theorem dX10_bell_34 : decode cX10_bell 34 = .ok (.iaload, 1) := by decide +kernel
theorem dX10_bell_35 : decode cX10_bell 35 = .ok (.istore_n 3, 1) := by decide +kernel
theorem dX10_bell_36 : decode cX10_bell 36 = .ok (.aload_n 0, 1) := by decide +kernel
theorem dX10_bell_37 : decode cX10_bell 37 = .ok (.getfield 38, 3) := by decide +kernel
theorem dX10_bell_40 : decode cX10_bell 40 = .ok (.getfield 65, 3) := by decide +kernel
theorem dX10_bell_43 : decode cX10_bell 43 = .ok (.iload_n 1, 1) := by decide +kernel
theorem dX10_bell_44 : decode cX10_bell 44 = .ok (.iload_n 2, 1) := by decide +kernel
theorem dX10_bell_45 : decode cX10_bell 45 = .ok (.iastore, 1) := by decide +kernel
theorem dX10_bell_46 : decode cX10_bell 46 = .ok (.iload_n 3, 1) := by decide +kernel
theorem dX10_bell_47 : decode cX10_bell 47 = .ok (.ireturn, 1) := by decide +kernel
theorem dX10_now_0 : decode cX10_now 0 = .ok (.aload_n 0, 1) := by decide +kernel
theorem dX10_now_1 : decode cX10_now 1 = .ok (.getfield 38, 3) := by decide +kernel
theorem dX10_now_4 : decode cX10_now 4 = .ok (.invokevirtual 68, 3) := by decide +kernel
theorem dX10_now_7 : decode cX10_now 7 = .ok (.iload_n 1, 1) := by decide +kernel
theorem dX10_now_8 : decode cX10_now 8 = .ok (.tableswitch 91 0 5 #[40, 48, 56, 64, 72, 80], 40) := by decide +kernel
theorem dX10_now_48 : decode cX10_now 48 = .ok (.aload_n 0, 1) := by decide +kernel
theorem dX10_now_49 : decode cX10_now 49 = .ok (.getfield 38, 3) := by decide +kernel
theorem dX10_now_52 : decode cX10_now 52 = .ok (.getfield 71, 3) := by decide +kernel
theorem dX10_now_55 : decode cX10_now 55 = .ok (.ireturn, 1) := by decide +kernel
theorem dX10_now_56 : decode cX10_now 56 = .ok (.aload_n 0, 1) := by decide +kernel
theorem dX10_now_57 : decode cX10_now 57 = .ok (.getfield 38, 3) := by decide +kernel
theorem dX10_now_60 : decode cX10_now 60 = .ok (.getfield 75, 3) := by decide +kernel
theorem dX10_now_63 : decode cX10_now 63 = .ok (.ireturn, 1) := by decide +kernel
theorem dX10_now_64 : decode cX10_now 64 = .ok (.aload_n 0, 1) := by decide +kernel
theorem dX10_now_65 : decode cX10_now 65 = .ok (.getfield 38, 3) := by decide +kernel
theorem dX10_now_68 : decode cX10_now 68 = .ok (.getfield 78, 3) := by decide +kernel
theorem dX10_now_71 : decode cX10_now 71 = .ok (.ireturn, 1) := by decide +kernel
theorem dX10_now_72 : decode cX10_now 72 = .ok (.aload_n 0, 1) := by decide +kernel
theorem dX10_now_73 : decode cX10_now 73 = .ok (.getfield 38, 3) := by decide +kernel
theorem dX10_now_76 : decode cX10_now 76 = .ok (.getfield 81, 3) := by decide +kernel
theorem dX10_now_79 : decode cX10_now 79 = .ok (.ireturn, 1) := by decide +kernel
theorem dX10_now_80 : decode cX10_now 80 = .ok (.aload_n 0, 1) := by decide +kernel
theorem dX10_now_81 : decode cX10_now 81 = .ok (.getfield 38, 3) := by decide +kernel
theorem dX10_now_84 : decode cX10_now 84 = .ok (.invokevirtual 84, 3) := by decide +kernel
theorem dX10_now_87 : decode cX10_now 87 = .ok (.ireturn, 1) := by decide +kernel
theorem dX10_now_88 : decode cX10_now 88 = .ok (.ldc 88, 2) := by decide +kernel
theorem dX10_now_90 : decode cX10_now 90 = .ok (.aload_n 0, 1) := by decide +kernel
theorem dX10_now_91 : decode cX10_now 91 = .ok (.getfield 38, 3) := by decide +kernel
theorem dX10_now_94 : decode cX10_now 94 = .ok (.invokevirtual 89, 3) := by decide +kernel
theorem dX10_now_97 : decode cX10_now 97 = .ok (.iadd, 1) := by decide +kernel
theorem dX10_now_98 : decode cX10_now 98 = .ok (.ireturn, 1) := by decide +kernel
theorem dX10_now_99 : decode cX10_now 99 = .ok (.aload_n 0, 1) := by decide +kernel
theorem dX10_now_100 : decode cX10_now 100 = .ok (.ldc 57, 2) := by decide +kernel
theorem dX10_now_102 : decode cX10_now 102 = .ok (.invokevirtual 58, 3) := by decide +kernel
theorem dX10_now_105 : decode cX10_now 105 = .ok (.ireturn, 1) := by decide +kernel
theorem dX10_who_0 : decode cX10_who 0 = .ok (.iload_n 1, 1) := by decide +kernel
theorem dX10_who_1 : decode cX10_who 1 = .ok (.invokestatic 53, 3) := by decide +kernel
theorem dX10_who_4 : decode cX10_who 4 = .ok (.ifCond .eq 10, 3) := by decide +kernel
theorem dX10_who_7 : decode cX10_who 7 = .ok (.aload_n 0, 1) := by decide +kernel
theorem dX10_who_8 : decode cX10_who 8 = .ok (.ldc 57, 2) := by decide +kernel
theorem dX10_who_10 : decode cX10_who 10 = .ok (.invokevirtual 58, 3) := by decide +kernel
theorem dX10_who_13 : decode cX10_who 13 = .ok (.ireturn, 1) := by decide +kernel
theorem dX10_who_14 : decode cX10_who 14 = .ok (.aload_n 0, 1) := by decide +kernel
theorem dX10_who_15 : decode cX10_who 15 = .ok (.getfield 38, 3) := by decide +kernel
theorem dX10_who_18 : decode cX10_who 18 = .ok (.iload_n 1, 1) := by decide +kernel
theorem dX10_who_19 : decode cX10_who 19 = .ok (.invokevirtual 92, 3) := by decide +kernel
theorem dX10_who_22 : decode cX10_who 22 = .ok (.ireturn, 1) := by decide +kernel
theorem dX10_person_0 : decode cX10_person 0 = .ok (.iload_n 1, 1) := by decide +kernel
theorem dX10_person_1 : decode cX10_person 1 = .ok (.invokestatic 95, 3) := by decide +kernel
theorem dX10_person_4 : decode cX10_person 4 = .ok (.ifCond .ne 10, 3) := by decide +kernel
theorem dX10_person_7 : decode cX10_person 7 = .ok (.iload_n 2, 1) := by decide +kernel
theorem dX10_person_8 : decode cX10_person 8 = .ok (.invokestatic 53, 3) := by decide +kernel
theorem dX10_person_11 : decode cX10_person 11 = .ok (.ifCond .eq 10, 3) := by decide +kernel
theorem dX10_person_14 : decode cX10_person 14 = .ok (.aload_n 0, 1) := by decide +kernel
theorem dX10_person_15 : decode cX10_person 15 = .ok (.ldc 57, 2) := by decide +kernel
theorem dX10_person_17 : decode cX10_person 17 = .ok (.invokevirtual 58, 3) := by decide +kernel
theorem dX10_person_20 : decode cX10_person 20 = .ok (.ireturn, 1) := by decide +kernel
theorem dX10_person_21 : decode cX10_person 21 = .ok (.aload_n 0, 1) := by decide +kernel
theorem dX10_person_22 : decode cX10_person 22 = .ok (.getfield 38, 3) := by decide +kernel
theorem dX10_person_25 : decode cX10_person 25 = .ok (.getfield 98, 3) := by decide +kernel
theorem dX10_person_28 : decode cX10_person 28 = .ok (.bipush 8, 2) := by decide +kernel
theorem dX10_person_30 : decode cX10_person 30 = .ok (.if_icmp .lt 10, 3) := by decide +kernel
theorem dX10_person_33 : decode cX10_person 33 = .ok (.aload_n 0, 1) := by decide +kernel
theorem dX10_person_34 : decode cX10_person 34 = .ok (.ldc 101, 2) := by decide +kernel
theorem dX10_person_36 : decode cX10_person 36 = .ok (.invokevirtual 58, 3) := by decide +kernel
theorem dX10_person_39 : decode cX10_person 39 = .ok (.ireturn, 1) := by decide +kernel
theorem dX10_person_40 : decode cX10_person 40 = .ok (.aload_n 0, 1) := by decide +kernel
theorem dX10_person_41 : decode cX10_person 41 = .ok (.getfield 38, 3) := by decide +kernel
theorem dX10_person_44 : decode cX10_person 44 = .ok (.iload_n 1, 1) := by decide +kernel
theorem dX10_person_45 : decode cX10_person 45 = .ok (.iload_n 2, 1) := by decide +kernel
theorem dX10_person_46 : decode cX10_person 46 = .ok (.iconst 1, 1) := by decide +kernel
theorem dX10_person_47 : decode cX10_person 47 = .ok (.invokevirtual 102, 3) := by decide +kernel
theorem dX10_person_50 : decode cX10_person 50 = .ok (.aload_n 0, 1) := by decide +kernel
theorem dX10_person_51 : decode cX10_person 51 = .ok (.getfield 38, 3) := by decide +kernel
theorem dX10_person_54 : decode cX10_person 54 = .ok (.getfield 98, 3) := by decide +kernel
theorem dX10_person_57 : decode cX10_person 57 = .ok (.iconst 1, 1) := by decide +kernel
theorem dX10_person_58 : decode cX10_person 58 = .ok (.isub, 1) := by decide +kernel
theorem dX10_person_59 : decode cX10_person 59 = .ok (.ireturn, 1) := by decide +kernel
theorem dX10_of_0 : decode cX10_of 0 = .ok (.aload_n 0, 1) := by decide +kernel
theorem dX10_of_1 : decode cX10_of 1 = .ok (.iload_n 1, 1) := by decide +kernel
theorem dX10_of_2 : decode cX10_of 2 = .ok (.invokevirtual 106, 3) := by decide +kernel
theorem dX10_of_5 : decode cX10_of 5 = .ok (.ifCond .eq 10, 3) := by decide +kernel
theorem dX10_of_8 : decode cX10_of 8 = .ok (.aload_n 0, 1) := by decide +kernel
theorem dX10_of_9 : decode cX10_of 9 = .ok (.ldc 57, 2) := by decide +kernel
theorem dX10_of_11 : decode cX10_of 11 = .ok (.invokevirtual 58, 3) := by decide +kernel
theorem dX10_of_14 : decode cX10_of 14 = .ok (.ireturn, 1) := by decide +kernel
theorem dX10_of_15 : decode cX10_of 15 = .ok (.aload_n 0, 1) := by decide +kernel
theorem dX10_of_16 : decode cX10_of 16 = .ok (.getfield 38, 3) := by decide +kernel
theorem dX10_of_19 : decode cX10_of 19 = .ok (.invokevirtual 68, 3) := by decide +kernel
theorem dX10_of_22 : decode cX10_of 22 = .ok (.iload_n 2, 1) := by decide +kernel
theorem dX10_of_23 : decode cX10_of 23 = .ok (.tableswitch 162 0 8 #[49, 59, 69, 79, 89, 99, 108, 125, 150], 49) := by decide +kernel
theorem dX10_of_72 : decode cX10_of 72 = .ok (.aload_n 0, 1) := by decide +kernel
theorem dX10_of_73 : decode cX10_of 73 = .ok (.getfield 38, 3) := by decide +kernel
theorem dX10_of_76 : decode cX10_of 76 = .ok (.getfield 109, 3) := by decide +kernel
theorem dX10_of_79 : decode cX10_of 79 = .ok (.iload_n 1, 1) := by decide +kernel
theorem dX10_of_80 : decode cX10_of 80 = .ok (.iaload, 1) := by decide +kernel
theorem dX10_of_81 : decode cX10_of 81 = .ok (.ireturn, 1) := by decide +kernel
theorem dX10_of_82 : decode cX10_of 82 = .ok (.aload_n 0, 1) := by decide +kernel
theorem dX10_of_83 : decode cX10_of 83 = .ok (.getfield 38, 3) := by decide +kernel
theorem dX10_of_86 : decode cX10_of 86 = .ok (.getfield 112, 3) := by decide +kernel
theorem dX10_of_89 : decode cX10_of 89 = .ok (.iload_n 1, 1) := by decide +kernel
theorem dX10_of_90 : decode cX10_of 90 = .ok (.iaload, 1) := by decide +kernel
theorem dX10_of_91 : decode cX10_of 91 = .ok (.ireturn, 1) := by decide +kernel
theorem dX10_of_92 : decode cX10_of 92 = .ok (.aload_n 0, 1) := by decide +kernel
theorem dX10_of_93 : decode cX10_of 93 = .ok (.getfield 38, 3) := by decide +kernel
theorem dX10_of_96 : decode cX10_of 96 = .ok (.getfield 115, 3) := by decide +kernel
theorem dX10_of_99 : decode cX10_of 99 = .ok (.iload_n 1, 1) := by decide +kernel
theorem dX10_of_100 : decode cX10_of 100 = .ok (.iaload, 1) := by decide +kernel
theorem dX10_of_101 : decode cX10_of 101 = .ok (.ireturn, 1) := by decide +kernel
theorem dX10_of_102 : decode cX10_of 102 = .ok (.aload_n 0, 1) := by decide +kernel
theorem dX10_of_103 : decode cX10_of 103 = .ok (.getfield 38, 3) := by decide +kernel
theorem dX10_of_106 : decode cX10_of 106 = .ok (.getfield 118, 3) := by decide +kernel
theorem dX10_of_109 : decode cX10_of 109 = .ok (.iload_n 1, 1) := by decide +kernel
theorem dX10_of_110 : decode cX10_of 110 = .ok (.iaload, 1) := by decide +kernel
theorem dX10_of_111 : decode cX10_of 111 = .ok (.ireturn, 1) := by decide +kernel
theorem dX10_of_112 : decode cX10_of 112 = .ok (.aload_n 0, 1) := by decide +kernel
theorem dX10_of_113 : decode cX10_of 113 = .ok (.getfield 38, 3) := by decide +kernel
theorem dX10_of_116 : decode cX10_of 116 = .ok (.getfield 121, 3) := by decide +kernel
theorem dX10_of_119 : decode cX10_of 119 = .ok (.iload_n 1, 1) := by decide +kernel
theorem dX10_of_120 : decode cX10_of 120 = .ok (.iaload, 1) := by decide +kernel
theorem dX10_of_121 : decode cX10_of 121 = .ok (.ireturn, 1) := by decide +kernel
theorem dX10_of_122 : decode cX10_of 122 = .ok (.aload_n 0, 1) := by decide +kernel
theorem dX10_of_123 : decode cX10_of 123 = .ok (.getfield 38, 3) := by decide +kernel
theorem dX10_of_126 : decode cX10_of 126 = .ok (.iload_n 1, 1) := by decide +kernel
theorem dX10_of_127 : decode cX10_of 127 = .ok (.invokevirtual 124, 3) := by decide +kernel
theorem dX10_of_130 : decode cX10_of 130 = .ok (.ireturn, 1) := by decide +kernel
theorem dX10_of_131 : decode cX10_of 131 = .ok (.aload_n 0, 1) := by decide +kernel
theorem dX10_of_132 : decode cX10_of 132 = .ok (.getfield 38, 3) := by decide +kernel
theorem dX10_of_135 : decode cX10_of 135 = .ok (.iload_n 1, 1) := by decide +kernel
theorem dX10_of_136 : decode cX10_of 136 = .ok (.invokevirtual 127, 3) := by decide +kernel
theorem dX10_of_139 : decode cX10_of 139 = .ok (.ifCond .eq 7, 3) := by decide +kernel
theorem dX10_of_142 : decode cX10_of 142 = .ok (.iconst 1, 1) := by decide +kernel
theorem dX10_of_143 : decode cX10_of 143 = .ok (.goto 4, 3) := by decide +kernel
theorem dX10_of_146 : decode cX10_of 146 = .ok (.iconst 0, 1) := by decide +kernel
theorem dX10_of_147 : decode cX10_of 147 = .ok (.ireturn, 1) := by decide +kernel
theorem dX10_of_148 : decode cX10_of 148 = .ok (.aload_n 0, 1) := by decide +kernel
theorem dX10_of_149 : decode cX10_of 149 = .ok (.getfield 38, 3) := by decide +kernel
theorem dX10_of_152 : decode cX10_of 152 = .ok (.iload_n 1, 1) := by decide +kernel
theorem dX10_of_153 : decode cX10_of 153 = .ok (.invokevirtual 130, 3) := by decide +kernel
theorem dX10_of_156 : decode cX10_of 156 = .ok (.aload_n 0, 1) := by decide +kernel
theorem dX10_of_157 : decode cX10_of 157 = .ok (.getfield 38, 3) := by decide +kernel
theorem dX10_of_160 : decode cX10_of 160 = .ok (.iload_n 1, 1) := by decide +kernel
theorem dX10_of_161 : decode cX10_of 161 = .ok (.aload_n 0, 1) := by decide +kernel
theorem dX10_of_162 : decode cX10_of 162 = .ok (.getfield 38, 3) := by decide +kernel
theorem dX10_of_165 : decode cX10_of 165 = .ok (.iload_n 1, 1) := by decide +kernel
theorem dX10_of_166 : decode cX10_of 166 = .ok (.invokevirtual 124, 3) := by decide +kernel
theorem dX10_of_169 : decode cX10_of 169 = .ok (.invokevirtual 134, 3) := by decide +kernel
theorem dX10_of_172 : decode cX10_of 172 = .ok (.ireturn, 1) := by decide +kernel
theorem dX10_of_173 : decode cX10_of 173 = .ok (.aload_n 0, 1) := by decide +kernel
theorem dX10_of_174 : decode cX10_of 174 = .ok (.getfield 38, 3) := by decide +kernel
theorem dX10_of_177 : decode cX10_of 177 = .ok (.iload_n 1, 1) := by decide +kernel
theorem dX10_of_178 : decode cX10_of 178 = .ok (.invokevirtual 130, 3) := by decide +kernel
theorem dX10_of_181 : decode cX10_of 181 = .ok (.invokevirtual 140, 3) := by decide +kernel
theorem dX10_of_184 : decode cX10_of 184 = .ok (.ireturn, 1) := by decide +kernel
theorem dX10_of_185 : decode cX10_of 185 = .ok (.aload_n 0, 1) := by decide +kernel
theorem dX10_of_186 : decode cX10_of 186 = .ok (.ldc 57, 2) := by decide +kernel
theorem dX10_of_188 : decode cX10_of 188 = .ok (.invokevirtual 58, 3) := by decide +kernel
theorem dX10_of_191 : decode cX10_of 191 = .ok (.ireturn, 1) := by decide +kernel
theorem dX10_set_0 : decode cX10_set 0 = .ok (.aload_n 0, 1) := by decide +kernel
theorem dX10_set_1 : decode cX10_set 1 = .ok (.iload_n 1, 1) := by decide +kernel
theorem dX10_set_2 : decode cX10_set 2 = .ok (.invokevirtual 106, 3) := by decide +kernel
theorem dX10_set_5 : decode cX10_set 5 = .ok (.ifCond .eq 10, 3) := by decide +kernel
theorem dX10_set_8 : decode cX10_set 8 = .ok (.aload_n 0, 1) := by decide +kernel
theorem dX10_set_9 : decode cX10_set 9 = .ok (.ldc 57, 2) := by decide +kernel
theorem dX10_set_11 : decode cX10_set 11 = .ok (.invokevirtual 58, 3) := by decide +kernel
theorem dX10_set_14 : decode cX10_set 14 = .ok (.ireturn, 1) := by decide +kernel
theorem dX10_set_15 : decode cX10_set 15 = .ok (.iload_n 2, 1) := by decide +kernel
theorem dX10_set_16 : decode cX10_set 16 = .ok (.tableswitch 158 1 4 #[32, 61, 92, 125], 32) := by decide +kernel
theorem dX10_set_48 : decode cX10_set 48 = .ok (.iload_n 3, 1) := by decide +kernel
theorem dX10_set_49 : decode cX10_set 49 = .ok (.invokestatic 53, 3) := by decide +kernel
theorem dX10_set_52 : decode cX10_set 52 = .ok (.ifCond .eq 12, 3) := by decide +kernel
theorem dX10_set_55 : decode cX10_set 55 = .ok (.aload_n 0, 1) := by decide +kernel
theorem dX10_set_56 : decode cX10_set 56 = .ok (.ldc 57, 2) := by decide +kernel
theorem dX10_set_58 : decode cX10_set 58 = .ok (.invokevirtual 58, 3) := by decide +kernel
theorem dX10_set_61 : decode cX10_set 61 = .ok (.goto 15, 3) := by decide +kernel
theorem dX10_set_64 : decode cX10_set 64 = .ok (.aload_n 0, 1) := by decide +kernel
theorem dX10_set_65 : decode cX10_set 65 = .ok (.getfield 38, 3) := by decide +kernel
theorem dX10_set_68 : decode cX10_set 68 = .ok (.getfield 112, 3) := by decide +kernel
theorem dX10_set_71 : decode cX10_set 71 = .ok (.iload_n 1, 1) := by decide +kernel
theorem dX10_set_72 : decode cX10_set 72 = .ok (.iload_n 3, 1) := by decide +kernel
theorem dX10_set_73 : decode cX10_set 73 = .ok (.invokestatic 143, 3) := by decide +kernel
theorem dX10_set_76 : decode cX10_set 76 = .ok (.ireturn, 1) := by decide +kernel
theorem dX10_set_77 : decode cX10_set 77 = .ok (.iload_n 3, 1) := by decide +kernel
theorem dX10_set_78 : decode cX10_set 78 = .ok (.iconst 1, 1) := by decide +kernel
theorem dX10_set_79 : decode cX10_set 79 = .ok (.iconst 4, 1) := by decide +kernel
theorem dX10_set_80 : decode cX10_set 80 = .ok (.invokestatic 49, 3) := by decide +kernel
theorem dX10_set_83 : decode cX10_set 83 = .ok (.ifCond .eq 12, 3) := by decide +kernel
theorem dX10_set_86 : decode cX10_set 86 = .ok (.aload_n 0, 1) := by decide +kernel
theorem dX10_set_87 : decode cX10_set 87 = .ok (.ldc 57, 2) := by decide +kernel
theorem dX10_set_89 : decode cX10_set 89 = .ok (.invokevirtual 58, 3) := by decide +kernel
theorem dX10_set_92 : decode cX10_set 92 = .ok (.goto 15, 3) := by decide +kernel
theorem dX10_set_95 : decode cX10_set 95 = .ok (.aload_n 0, 1) := by decide +kernel
theorem dX10_set_96 : decode cX10_set 96 = .ok (.getfield 38, 3) := by decide +kernel
theorem dX10_set_99 : decode cX10_set 99 = .ok (.getfield 115, 3) := by decide +kernel
theorem dX10_set_102 : decode cX10_set 102 = .ok (.iload_n 1, 1) := by decide +kernel
theorem dX10_set_103 : decode cX10_set 103 = .ok (.iload_n 3, 1) := by decide +kernel
theorem dX10_set_104 : decode cX10_set 104 = .ok (.invokestatic 143, 3) := by decide +kernel
theorem dX10_set_107 : decode cX10_set 107 = .ok (.ireturn, 1) := by decide +kernel
theorem dX10_set_108 : decode cX10_set 108 = .ok (.iload_n 3, 1) := by decide +kernel
theorem dX10_set_109 : decode cX10_set 109 = .ok (.iconst 0, 1) := by decide +kernel
theorem dX10_set_110 : decode cX10_set 110 = .ok (.sipush 9999, 3) := by decide +kernel
theorem dX10_set_113 : decode cX10_set 113 = .ok (.invokestatic 49, 3) := by decide +kernel
theorem dX10_set_116 : decode cX10_set 116 = .ok (.ifCond .eq 12, 3) := by decide +kernel
theorem dX10_set_119 : decode cX10_set 119 = .ok (.aload_n 0, 1) := by decide +kernel
theorem dX10_set_120 : decode cX10_set 120 = .ok (.ldc 57, 2) := by decide +kernel
theorem dX10_set_122 : decode cX10_set 122 = .ok (.invokevirtual 58, 3) := by decide +kernel
theorem dX10_set_125 : decode cX10_set 125 = .ok (.goto 15, 3) := by decide +kernel
theorem dX10_set_128 : decode cX10_set 128 = .ok (.aload_n 0, 1) := by decide +kernel
theorem dX10_set_129 : decode cX10_set 129 = .ok (.getfield 38, 3) := by decide +kernel
theorem dX10_set_132 : decode cX10_set 132 = .ok (.getfield 118, 3) := by decide +kernel
theorem dX10_set_135 : decode cX10_set 135 = .ok (.iload_n 1, 1) := by decide +kernel
theorem dX10_set_136 : decode cX10_set 136 = .ok (.iload_n 3, 1) := by decide +kernel
theorem dX10_set_137 : decode cX10_set 137 = .ok (.invokestatic 143, 3) := by decide +kernel
theorem dX10_set_140 : decode cX10_set 140 = .ok (.ireturn, 1) := by decide +kernel
theorem dX10_set_141 : decode cX10_set 141 = .ok (.iload_n 3, 1) := by decide +kernel
theorem dX10_set_142 : decode cX10_set 142 = .ok (.iconst 0, 1) := by decide +kernel
theorem dX10_set_143 : decode cX10_set 143 = .ok (.sipush 9999, 3) := by decide +kernel
theorem dX10_set_146 : decode cX10_set 146 = .ok (.invokestatic 49, 3) := by decide +kernel
theorem dX10_set_149 : decode cX10_set 149 = .ok (.ifCond .eq 12, 3) := by decide +kernel
theorem dX10_set_152 : decode cX10_set 152 = .ok (.aload_n 0, 1) := by decide +kernel
theorem dX10_set_153 : decode cX10_set 153 = .ok (.ldc 57, 2) := by decide +kernel
theorem dX10_set_155 : decode cX10_set 155 = .ok (.invokevirtual 58, 3) := by decide +kernel
theorem dX10_set_158 : decode cX10_set 158 = .ok (.goto 15, 3) := by decide +kernel
theorem dX10_set_161 : decode cX10_set 161 = .ok (.aload_n 0, 1) := by decide +kernel
theorem dX10_set_162 : decode cX10_set 162 = .ok (.getfield 38, 3) := by decide +kernel
theorem dX10_set_165 : decode cX10_set 165 = .ok (.getfield 121, 3) := by decide +kernel
theorem dX10_set_168 : decode cX10_set 168 = .ok (.iload_n 1, 1) := by decide +kernel
theorem dX10_set_169 : decode cX10_set 169 = .ok (.iload_n 3, 1) := by decide +kernel
theorem dX10_set_170 : decode cX10_set 170 = .ok (.invokestatic 143, 3) := by decide +kernel
theorem dX10_set_173 : decode cX10_set 173 = .ok (.ireturn, 1) := by decide +kernel
theorem dX10_set_174 : decode cX10_set 174 = .ok (.aload_n 0, 1) := by decide +kernel
theorem dX10_set_175 : decode cX10_set 175 = .ok (.ldc 57, 2) := by decide +kernel
theorem dX10_set_177 : decode cX10_set 177 = .ok (.invokevirtual 58, 3) := by decide +kernel
theorem dX10_set_180 : decode cX10_set 180 = .ok (.ireturn, 1) := by decide +kernel
theorem dX10_turn_0 : decode cX10_turn 0 = .ok (.aload_n 0, 1) := by decide +kernel
theorem dX10_turn_1 : decode cX10_turn 1 = .ok (.iload_n 1, 1) := by decide +kernel
theorem dX10_turn_2 : decode cX10_turn 2 = .ok (.invokevirtual 106, 3) := by decide +kernel
theorem dX10_turn_5 : decode cX10_turn 5 = .ok (.ifCond .ne 10, 3) := by decide +kernel
theorem dX10_turn_8 : decode cX10_turn 8 = .ok (.iload_n 2, 1) := by decide +kernel
theorem dX10_turn_9 : decode cX10_turn 9 = .ok (.invokestatic 95, 3) := by decide +kernel
theorem dX10_turn_12 : decode cX10_turn 12 = .ok (.ifCond .eq 10, 3) := by decide +kernel
theorem dX10_turn_15 : decode cX10_turn 15 = .ok (.aload_n 0, 1) := by decide +kernel
theorem dX10_turn_16 : decode cX10_turn 16 = .ok (.ldc 57, 2) := by decide +kernel
theorem dX10_turn_18 : decode cX10_turn 18 = .ok (.invokevirtual 58, 3) := by decide +kernel
theorem dX10_turn_21 : decode cX10_turn 21 = .ok (.ireturn, 1) := by decide +kernel
theorem dX10_turn_22 : decode cX10_turn 22 = .ok (.aload_n 0, 1) := by decide +kernel
theorem dX10_turn_23 : decode cX10_turn 23 = .ok (.getfield 38, 3) := by decide +kernel
theorem dX10_turn_26 : decode cX10_turn 26 = .ok (.getfield 109, 3) := by decide +kernel
theorem dX10_turn_29 : decode cX10_turn 29 = .ok (.iload_n 1, 1) := by decide +kernel
theorem dX10_turn_30 : decode cX10_turn 30 = .ok (.iload_n 2, 1) := by decide +kernel
theorem dX10_turn_31 : decode cX10_turn 31 = .ok (.invokestatic 143, 3) := by decide +kernel
theorem dX10_turn_34 : decode cX10_turn 34 = .ok (.ireturn, 1) := by decide +kernel
theorem dX10_as_0 : decode cX10_as 0 = .ok (.aload_n 0, 1) := by decide +kernel
theorem dX10_as_1 : decode cX10_as 1 = .ok (.iload_n 1, 1) := by decide +kernel
theorem dX10_as_2 : decode cX10_as 2 = .ok (.invokevirtual 106, 3) := by decide +kernel
theorem dX10_as_5 : decode cX10_as 5 = .ok (.ifCond .ne 10, 3) := by decide +kernel
theorem dX10_as_8 : decode cX10_as 8 = .ok (.iload_n 2, 1) := by decide +kernel
theorem dX10_as_9 : decode cX10_as 9 = .ok (.invokestatic 95, 3) := by decide +kernel
theorem dX10_as_12 : decode cX10_as 12 = .ok (.ifCond .eq 10, 3) := by decide +kernel
theorem dX10_as_15 : decode cX10_as 15 = .ok (.aload_n 0, 1) := by decide +kernel
theorem dX10_as_16 : decode cX10_as 16 = .ok (.ldc 57, 2) := by decide +kernel
theorem dX10_as_18 : decode cX10_as 18 = .ok (.invokevirtual 58, 3) := by decide +kernel
theorem dX10_as_21 : decode cX10_as 21 = .ok (.ireturn, 1) := by decide +kernel
theorem dX10_as_22 : decode cX10_as 22 = .ok (.aload_n 0, 1) := by decide +kernel
theorem dX10_as_23 : decode cX10_as 23 = .ok (.getfield 38, 3) := by decide +kernel
theorem dX10_as_26 : decode cX10_as 26 = .ok (.getfield 109, 3) := by decide +kernel
theorem dX10_as_29 : decode cX10_as 29 = .ok (.iload_n 1, 1) := by decide +kernel
theorem dX10_as_30 : decode cX10_as 30 = .ok (.iaload, 1) := by decide +kernel
theorem dX10_as_31 : decode cX10_as 31 = .ok (.iload_n 2, 1) := by decide +kernel
theorem dX10_as_32 : decode cX10_as 32 = .ok (.invokestatic 147, 3) := by decide +kernel
theorem dX10_as_35 : decode cX10_as 35 = .ok (.ifCond .ne 10, 3) := by decide +kernel
theorem dX10_as_38 : decode cX10_as 38 = .ok (.aload_n 0, 1) := by decide +kernel
theorem dX10_as_39 : decode cX10_as 39 = .ok (.ldc 151, 2) := by decide +kernel
theorem dX10_as_41 : decode cX10_as 41 = .ok (.invokevirtual 58, 3) := by decide +kernel
theorem dX10_as_44 : decode cX10_as 44 = .ok (.ireturn, 1) := by decide +kernel
theorem dX10_as_45 : decode cX10_as 45 = .ok (.aload_n 0, 1) := by decide +kernel
theorem dX10_as_46 : decode cX10_as 46 = .ok (.getfield 38, 3) := by decide +kernel
theorem dX10_as_49 : decode cX10_as 49 = .ok (.getfield 118, 3) := by decide +kernel
theorem dX10_as_52 : decode cX10_as 52 = .ok (.iload_n 1, 1) := by decide +kernel
theorem dX10_as_53 : decode cX10_as 53 = .ok (.iaload, 1) := by decide +kernel
theorem dX10_as_54 : decode cX10_as 54 = .ok (.ireturn, 1) := by decide +kernel
theorem dX10_minutes_0 : decode cX10_minutes 0 = .ok (.iload_n 1, 1) := by decide +kernel
theorem dX10_minutes_1 : decode cX10_minutes 1 = .ok (.iconst 1, 1) := by decide +kernel
theorem dX10_minutes_2 : decode cX10_minutes 2 = .ok (.sipush 200, 3) := by decide +kernel
theorem dX10_minutes_5 : decode cX10_minutes 5 = .ok (.invokestatic 49, 3) := by decide +kernel
theorem dX10_minutes_8 : decode cX10_minutes 8 = .ok (.ifCond .eq 10, 3) := by decide +kernel
theorem dX10_minutes_11 : decode cX10_minutes 11 = .ok (.aload_n 0, 1) := by decide +kernel
theorem dX10_minutes_12 : decode cX10_minutes 12 = .ok (.ldc 57, 2) := by decide +kernel
theorem dX10_minutes_14 : decode cX10_minutes 14 = .ok (.invokevirtual 58, 3) := by decide +kernel
theorem dX10_minutes_17 : decode cX10_minutes 17 = .ok (.ireturn, 1) := by decide +kernel
theorem dX10_minutes_18 : decode cX10_minutes 18 = .ok (.aload_n 0, 1) := by decide +kernel
theorem dX10_minutes_19 : decode cX10_minutes 19 = .ok (.getfield 38, 3) := by decide +kernel
theorem dX10_minutes_22 : decode cX10_minutes 22 = .ok (.getfield 71, 3) := by decide +kernel
theorem dX10_minutes_25 : decode cX10_minutes 25 = .ok (.iload_n 1, 1) := by decide +kernel
theorem dX10_minutes_26 : decode cX10_minutes 26 = .ok (.iadd, 1) := by decide +kernel
theorem dX10_minutes_27 : decode cX10_minutes 27 = .ok (.ldc 152, 2) := by decide +kernel
theorem dX10_minutes_29 : decode cX10_minutes 29 = .ok (.if_icmp .le 10, 3) := by decide +kernel
theorem dX10_minutes_32 : decode cX10_minutes 32 = .ok (.aload_n 0, 1) := by decide +kernel
theorem dX10_minutes_33 : decode cX10_minutes 33 = .ok (.ldc 153, 2) := by decide +kernel
theorem dX10_minutes_35 : decode cX10_minutes 35 = .ok (.invokevirtual 58, 3) := by decide +kernel
theorem dX10_minutes_38 : decode cX10_minutes 38 = .ok (.ireturn, 1) := by decide +kernel
theorem dX10_minutes_39 : decode cX10_minutes 39 = .ok (.aload_n 0, 1) := by decide +kernel
theorem dX10_minutes_40 : decode cX10_minutes 40 = .ok (.getfield 38, 3) := by decide +kernel
theorem dX10_minutes_43 : decode cX10_minutes 43 = .ok (.iload_n 1, 1) := by decide +kernel
theorem dX10_minutes_44 : decode cX10_minutes 44 = .ok (.invokevirtual 154, 3) := by decide +kernel
theorem dX10_minutes_47 : decode cX10_minutes 47 = .ok (.aload_n 0, 1) := by decide +kernel
theorem dX10_minutes_48 : decode cX10_minutes 48 = .ok (.getfield 38, 3) := by decide +kernel
theorem dX10_minutes_51 : decode cX10_minutes 51 = .ok (.getfield 158, 3) := by decide +kernel
theorem dX10_minutes_54 : decode cX10_minutes 54 = .ok (.ireturn, 1) := by decide +kernel
theorem dX10_on_0 : decode cX10_on 0 = .ok (.aload_n 0, 1) := by decide +kernel
theorem dX10_on_1 : decode cX10_on 1 = .ok (.iload_n 1, 1) := by decide +kernel
theorem dX10_on_2 : decode cX10_on 2 = .ok (.invokevirtual 106, 3) := by decide +kernel
theorem dX10_on_5 : decode cX10_on 5 = .ok (.ifCond .ne 23, 3) := by decide +kernel
theorem dX10_on_8 : decode cX10_on 8 = .ok (.iload_n 2, 1) := by decide +kernel
theorem dX10_on_9 : decode cX10_on 9 = .ok (.iconst 0, 1) := by decide +kernel
theorem dX10_on_10 : decode cX10_on 10 = .ok (.sipush 300, 3) := by decide +kernel
theorem dX10_on_13 : decode cX10_on 13 = .ok (.invokestatic 49, 3) := by decide +kernel
theorem dX10_on_16 : decode cX10_on 16 = .ok (.ifCond .ne 12, 3) := by decide +kernel
theorem dX10_on_19 : decode cX10_on 19 = .ok (.iload_n 3, 1) := by decide +kernel
theorem dX10_on_20 : decode cX10_on 20 = .ok (.iconst 0, 1) := by decide +kernel
theorem dX10_on_21 : decode cX10_on 21 = .ok (.iconst 2, 1) := by decide +kernel
theorem dX10_on_22 : decode cX10_on 22 = .ok (.invokestatic 49, 3) := by decide +kernel
theorem dX10_on_25 : decode cX10_on 25 = .ok (.ifCond .eq 10, 3) := by decide +kernel
theorem dX10_on_28 : decode cX10_on 28 = .ok (.aload_n 0, 1) := by decide +kernel
theorem dX10_on_29 : decode cX10_on 29 = .ok (.ldc 57, 2) := by decide +kernel
theorem dX10_on_31 : decode cX10_on 31 = .ok (.invokevirtual 58, 3) := by decide +kernel
theorem dX10_on_34 : decode cX10_on 34 = .ok (.ireturn, 1) := by decide +kernel
theorem dX10_on_35 : decode cX10_on 35 = .ok (.aload_n 0, 1) := by decide +kernel
theorem dX10_on_36 : decode cX10_on 36 = .ok (.getfield 42, 3) := by decide +kernel
theorem dX10_on_39 : decode cX10_on 39 = .ok (.aload_n 0, 1) := by decide +kernel
theorem dX10_on_40 : decode cX10_on 40 = .ok (.getfield 38, 3) := by decide +kernel
theorem dX10_on_43 : decode cX10_on 43 = .ok (.invokevirtual 161, 3) := by decide +kernel
theorem dX10_on_46 : decode cX10_on 46 = .ok (.aload_n 0, 1) := by decide +kernel
theorem dX10_on_47 : decode cX10_on 47 = .ok (.getfield 42, 3) := by decide +kernel
theorem dX10_on_50 : decode cX10_on 50 = .ok (.iload_n 2, 1) := by decide +kernel
theorem dX10_on_51 : decode cX10_on 51 = .ok (.invokevirtual 154, 3) := by decide +kernel
theorem dX10_on_54 : decode cX10_on 54 = .ok (.iload_n 3, 1) := by decide +kernel
theorem dX10_on_55 : decode cX10_on 55 = .ok (.lookupswitch 45 #[(0, 25), (1, 35)], 25) := by decide +kernel
theorem dX10_on_80 : decode cX10_on 80 = .ok (.aload_n 0, 1) := by decide +kernel
theorem dX10_on_81 : decode cX10_on 81 = .ok (.getfield 42, 3) := by decide +kernel
theorem dX10_on_84 : decode cX10_on 84 = .ok (.getfield 112, 3) := by decide +kernel
theorem dX10_on_87 : decode cX10_on 87 = .ok (.iload_n 1, 1) := by decide +kernel
theorem dX10_on_88 : decode cX10_on 88 = .ok (.iaload, 1) := by decide +kernel
theorem dX10_on_89 : decode cX10_on 89 = .ok (.ireturn, 1) := by decide +kernel
theorem dX10_on_90 : decode cX10_on 90 = .ok (.aload_n 0, 1) := by decide +kernel
theorem dX10_on_91 : decode cX10_on 91 = .ok (.getfield 42, 3) := by decide +kernel
theorem dX10_on_94 : decode cX10_on 94 = .ok (.getfield 118, 3) := by decide +kernel
theorem dX10_on_97 : decode cX10_on 97 = .ok (.iload_n 1, 1) := by decide +kernel
theorem dX10_on_98 : decode cX10_on 98 = .ok (.iaload, 1) := by decide +kernel
theorem dX10_on_99 : decode cX10_on 99 = .ok (.ireturn, 1) := by decide +kernel
theorem dX10_on_100 : decode cX10_on 100 = .ok (.aload_n 0, 1) := by decide +kernel
theorem dX10_on_101 : decode cX10_on 101 = .ok (.getfield 42, 3) := by decide +kernel
theorem dX10_on_104 : decode cX10_on 104 = .ok (.getfield 121, 3) := by decide +kernel
theorem dX10_on_107 : decode cX10_on 107 = .ok (.iload_n 1, 1) := by decide +kernel
theorem dX10_on_108 : decode cX10_on 108 = .ok (.iaload, 1) := by decide +kernel
theorem dX10_on_109 : decode cX10_on 109 = .ok (.ireturn, 1) := by decide +kernel
theorem dX10_harmony_0 : decode cX10_harmony 0 = .ok (.iload_n 1, 1) := by decide +kernel
theorem dX10_harmony_1 : decode cX10_harmony 1 = .ok (.iconst 0, 1) := by decide +kernel
theorem dX10_harmony_2 : decode cX10_harmony 2 = .ok (.sipush 300, 3) := by decide +kernel
theorem dX10_harmony_5 : decode cX10_harmony 5 = .ok (.invokestatic 49, 3) := by decide +kernel
theorem dX10_harmony_8 : decode cX10_harmony 8 = .ok (.ifCond .eq 10, 3) := by decide +kernel
theorem dX10_harmony_11 : decode cX10_harmony 11 = .ok (.aload_n 0, 1) := by decide +kernel
theorem dX10_harmony_12 : decode cX10_harmony 12 = .ok (.ldc 57, 2) := by decide +kernel
theorem dX10_harmony_14 : decode cX10_harmony 14 = .ok (.invokevirtual 58, 3) := by decide +kernel
theorem dX10_harmony_17 : decode cX10_harmony 17 = .ok (.ireturn, 1) := by decide +kernel
theorem dX10_harmony_18 : decode cX10_harmony 18 = .ok (.aload_n 0, 1) := by decide +kernel
theorem dX10_harmony_19 : decode cX10_harmony 19 = .ok (.getfield 42, 3) := by decide +kernel
theorem dX10_harmony_22 : decode cX10_harmony 22 = .ok (.aload_n 0, 1) := by decide +kernel
theorem dX10_harmony_23 : decode cX10_harmony 23 = .ok (.getfield 38, 3) := by decide +kernel
theorem dX10_harmony_26 : decode cX10_harmony 26 = .ok (.invokevirtual 161, 3) := by decide +kernel
theorem dX10_harmony_29 : decode cX10_harmony 29 = .ok (.aload_n 0, 1) := by decide +kernel
theorem dX10_harmony_30 : decode cX10_harmony 30 = .ok (.getfield 42, 3) := by decide +kernel
theorem dX10_harmony_33 : decode cX10_harmony 33 = .ok (.iload_n 1, 1) := by decide +kernel
theorem dX10_harmony_34 : decode cX10_harmony 34 = .ok (.invokevirtual 154, 3) := by decide +kernel
theorem dX10_harmony_37 : decode cX10_harmony 37 = .ok (.aload_n 0, 1) := by decide +kernel
theorem dX10_harmony_38 : decode cX10_harmony 38 = .ok (.getfield 42, 3) := by decide +kernel
theorem dX10_harmony_41 : decode cX10_harmony 41 = .ok (.invokevirtual 89, 3) := by decide +kernel
theorem dX10_harmony_44 : decode cX10_harmony 44 = .ok (.ireturn, 1) := by decide +kernel
theorem dX10_comes_0 : decode cX10_comes 0 = .ok (.aload_n 0, 1) := by decide +kernel
theorem dX10_comes_1 : decode cX10_comes 1 = .ok (.iload_n 1, 1) := by decide +kernel
theorem dX10_comes_2 : decode cX10_comes 2 = .ok (.invokevirtual 106, 3) := by decide +kernel
theorem dX10_comes_5 : decode cX10_comes 5 = .ok (.ifCond .ne 10, 3) := by decide +kernel
theorem dX10_comes_8 : decode cX10_comes 8 = .ok (.iload_n 2, 1) := by decide +kernel
theorem dX10_comes_9 : decode cX10_comes 9 = .ok (.invokestatic 53, 3) := by decide +kernel
theorem dX10_comes_12 : decode cX10_comes 12 = .ok (.ifCond .eq 10, 3) := by decide +kernel
theorem dX10_comes_15 : decode cX10_comes 15 = .ok (.aload_n 0, 1) := by decide +kernel
theorem dX10_comes_16 : decode cX10_comes 16 = .ok (.ldc 57, 2) := by decide +kernel
theorem dX10_comes_18 : decode cX10_comes 18 = .ok (.invokevirtual 58, 3) := by decide +kernel
theorem dX10_comes_21 : decode cX10_comes 21 = .ok (.ireturn, 1) := by decide +kernel
theorem dX10_comes_22 : decode cX10_comes 22 = .ok (.aload_n 0, 1) := by decide +kernel
theorem dX10_comes_23 : decode cX10_comes 23 = .ok (.getfield 42, 3) := by decide +kernel
theorem dX10_comes_26 : decode cX10_comes 26 = .ok (.aload_n 0, 1) := by decide +kernel
theorem dX10_comes_27 : decode cX10_comes 27 = .ok (.getfield 38, 3) := by decide +kernel
theorem dX10_comes_30 : decode cX10_comes 30 = .ok (.invokevirtual 161, 3) := by decide +kernel
theorem dX10_comes_33 : decode cX10_comes 33 = .ok (.iconst 0, 1) := by decide +kernel
theorem dX10_comes_34 : decode cX10_comes 34 = .ok (.istore_n 3, 1) := by decide +kernel
theorem dX10_comes_35 : decode cX10_comes 35 = .ok (.iload_n 3, 1) := by decide +kernel
theorem dX10_comes_36 : decode cX10_comes 36 = .ok (.sipush 300, 3) := by decide +kernel
theorem dX10_comes_39 : decode cX10_comes 39 = .ok (.if_icmp .gt 31, 3) := by decide +kernel
theorem dX10_comes_42 : decode cX10_comes 42 = .ok (.aload_n 0, 1) := by decide +kernel
theorem dX10_comes_43 : decode cX10_comes 43 = .ok (.getfield 42, 3) := by decide +kernel
theorem dX10_comes_46 : decode cX10_comes 46 = .ok (.getfield 112, 3) := by decide +kernel
theorem dX10_comes_49 : decode cX10_comes 49 = .ok (.iload_n 1, 1) := by decide +kernel
theorem dX10_comes_50 : decode cX10_comes 50 = .ok (.iaload, 1) := by decide +kernel
theorem dX10_comes_51 : decode cX10_comes 51 = .ok (.iload_n 2, 1) := by decide +kernel
theorem dX10_comes_52 : decode cX10_comes 52 = .ok (.if_icmp .ne 5, 3) := by decide +kernel
theorem dX10_comes_55 : decode cX10_comes 55 = .ok (.iload_n 3, 1) := by decide +kernel
theorem dX10_comes_56 : decode cX10_comes 56 = .ok (.ireturn, 1) := by decide +kernel
theorem dX10_comes_57 : decode cX10_comes 57 = .ok (.aload_n 0, 1) := by decide +kernel
theorem dX10_comes_58 : decode cX10_comes 58 = .ok (.getfield 42, 3) := by decide +kernel
theorem dX10_comes_61 : decode cX10_comes 61 = .ok (.invokevirtual 165, 3) := by decide +kernel
theorem dX10_comes_64 : decode cX10_comes 64 = .ok (.iinc 3 1, 3) := by decide +kernel
theorem dX10_comes_67 : decode cX10_comes 67 = .ok (.goto (-32), 3) := by decide +kernel
theorem dX10_comes_70 : decode cX10_comes 70 = .ok (.aload_n 0, 1) := by decide +kernel
theorem dX10_comes_71 : decode cX10_comes 71 = .ok (.ldc 168, 2) := by decide +kernel
theorem dX10_comes_73 : decode cX10_comes 73 = .ok (.invokevirtual 58, 3) := by decide +kernel
theorem dX10_comes_76 : decode cX10_comes 76 = .ok (.ireturn, 1) := by decide +kernel
theorem dX10_plays_0 : decode cX10_plays 0 = .ok (.aload_n 0, 1) := by decide +kernel
theorem dX10_plays_1 : decode cX10_plays 1 = .ok (.iload_n 1, 1) := by decide +kernel
theorem dX10_plays_2 : decode cX10_plays 2 = .ok (.invokevirtual 106, 3) := by decide +kernel
theorem dX10_plays_5 : decode cX10_plays 5 = .ok (.ifCond .eq 10, 3) := by decide +kernel
theorem dX10_plays_8 : decode cX10_plays 8 = .ok (.aload_n 0, 1) := by decide +kernel
theorem dX10_plays_9 : decode cX10_plays 9 = .ok (.ldc 57, 2) := by decide +kernel
theorem dX10_plays_11 : decode cX10_plays 11 = .ok (.invokevirtual 58, 3) := by decide +kernel
theorem dX10_plays_14 : decode cX10_plays 14 = .ok (.ireturn, 1) := by decide +kernel
theorem dX10_plays_15 : decode cX10_plays 15 = .ok (.aload_n 0, 1) := by decide +kernel
theorem dX10_plays_16 : decode cX10_plays 16 = .ok (.getfield 42, 3) := by decide +kernel
theorem dX10_plays_19 : decode cX10_plays 19 = .ok (.aload_n 0, 1) := by decide +kernel
theorem dX10_plays_20 : decode cX10_plays 20 = .ok (.getfield 38, 3) := by decide +kernel
theorem dX10_plays_23 : decode cX10_plays 23 = .ok (.invokevirtual 161, 3) := by decide +kernel
theorem dX10_plays_26 : decode cX10_plays 26 = .ok (.iconst 1, 1) := by decide +kernel
theorem dX10_plays_27 : decode cX10_plays 27 = .ok (.istore_n 2, 1) := by decide +kernel
theorem dX10_plays_28 : decode cX10_plays 28 = .ok (.iload_n 2, 1) := by decide +kernel
theorem dX10_plays_29 : decode cX10_plays 29 = .ok (.sipush 300, 3) := by decide +kernel
theorem dX10_plays_32 : decode cX10_plays 32 = .ok (.if_icmp .gt 39, 3) := by decide +kernel
theorem dX10_plays_35 : decode cX10_plays 35 = .ok (.aload_n 0, 1) := by decide +kernel
theorem dX10_plays_36 : decode cX10_plays 36 = .ok (.getfield 42, 3) := by decide +kernel
theorem dX10_plays_39 : decode cX10_plays 39 = .ok (.invokevirtual 165, 3) := by decide +kernel
theorem dX10_plays_42 : decode cX10_plays 42 = .ok (.aload_n 0, 1) := by decide +kernel
theorem dX10_plays_43 : decode cX10_plays 43 = .ok (.getfield 42, 3) := by decide +kernel
theorem dX10_plays_46 : decode cX10_plays 46 = .ok (.getfield 118, 3) := by decide +kernel
theorem dX10_plays_49 : decode cX10_plays 49 = .ok (.iload_n 1, 1) := by decide +kernel
theorem dX10_plays_50 : decode cX10_plays 50 = .ok (.iaload, 1) := by decide +kernel
theorem dX10_plays_51 : decode cX10_plays 51 = .ok (.aload_n 0, 1) := by decide +kernel
theorem dX10_plays_52 : decode cX10_plays 52 = .ok (.getfield 38, 3) := by decide +kernel
theorem dX10_plays_55 : decode cX10_plays 55 = .ok (.getfield 118, 3) := by decide +kernel
theorem dX10_plays_58 : decode cX10_plays 58 = .ok (.iload_n 1, 1) := by decide +kernel
theorem dX10_plays_59 : decode cX10_plays 59 = .ok (.iaload, 1) := by decide +kernel
theorem dX10_plays_60 : decode cX10_plays 60 = .ok (.if_icmp .le 5, 3) := by decide +kernel
theorem dX10_plays_63 : decode cX10_plays 63 = .ok (.iload_n 2, 1) := by decide +kernel
theorem dX10_plays_64 : decode cX10_plays 64 = .ok (.ireturn, 1) := by decide +kernel
theorem dX10_plays_65 : decode cX10_plays 65 = .ok (.iinc 2 1, 3) := by decide +kernel
theorem dX10_plays_68 : decode cX10_plays 68 = .ok (.goto (-40), 3) := by decide +kernel
theorem dX10_plays_71 : decode cX10_plays 71 = .ok (.aload_n 0, 1) := by decide +kernel
theorem dX10_plays_72 : decode cX10_plays 72 = .ok (.ldc 168, 2) := by decide +kernel
theorem dX10_plays_74 : decode cX10_plays 74 = .ok (.invokevirtual 58, 3) := by decide +kernel
theorem dX10_plays_77 : decode cX10_plays 77 = .ok (.ireturn, 1) := by decide +kernel
theorem dX10_meet_0 : decode cX10_meet 0 = .ok (.aload_n 0, 1) := by decide +kernel
theorem dX10_meet_1 : decode cX10_meet 1 = .ok (.iload_n 1, 1) := by decide +kernel
theorem dX10_meet_2 : decode cX10_meet 2 = .ok (.invokevirtual 106, 3) := by decide +kernel
theorem dX10_meet_5 : decode cX10_meet 5 = .ok (.ifCond .ne 16, 3) := by decide +kernel
theorem dX10_meet_8 : decode cX10_meet 8 = .ok (.aload_n 0, 1) := by decide +kernel
theorem dX10_meet_9 : decode cX10_meet 9 = .ok (.iload_n 2, 1) := by decide +kernel
theorem dX10_meet_10 : decode cX10_meet 10 = .ok (.invokevirtual 106, 3) := by decide +kernel
theorem dX10_meet_13 : decode cX10_meet 13 = .ok (.ifCond .ne 8, 3) := by decide +kernel
theorem dX10_meet_16 : decode cX10_meet 16 = .ok (.iload_n 1, 1) := by decide +kernel
theorem dX10_meet_17 : decode cX10_meet 17 = .ok (.iload_n 2, 1) := by decide +kernel
theorem dX10_meet_18 : decode cX10_meet 18 = .ok (.if_icmp .ne 10, 3) := by decide +kernel
theorem dX10_meet_21 : decode cX10_meet 21 = .ok (.aload_n 0, 1) := by decide +kernel
theorem dX10_meet_22 : decode cX10_meet 22 = .ok (.ldc 57, 2) := by decide +kernel
theorem dX10_meet_24 : decode cX10_meet 24 = .ok (.invokevirtual 58, 3) := by decide +kernel
theorem dX10_meet_27 : decode cX10_meet 27 = .ok (.ireturn, 1) := by decide +kernel
theorem dX10_meet_28 : decode cX10_meet 28 = .ok (.aload_n 0, 1) := by decide +kernel
theorem dX10_meet_29 : decode cX10_meet 29 = .ok (.getfield 42, 3) := by decide +kernel
theorem dX10_meet_32 : decode cX10_meet 32 = .ok (.aload_n 0, 1) := by decide +kernel
theorem dX10_meet_33 : decode cX10_meet 33 = .ok (.getfield 38, 3) := by decide +kernel
theorem dX10_meet_36 : decode cX10_meet 36 = .ok (.invokevirtual 161, 3) := by decide +kernel
theorem dX10_meet_39 : decode cX10_meet 39 = .ok (.iconst 0, 1) := by decide +kernel
theorem dX10_meet_40 : decode cX10_meet 40 = .ok (.istore_n 3, 1) := by decide +kernel
theorem dX10_meet_41 : decode cX10_meet 41 = .ok (.iload_n 3, 1) := by decide +kernel
theorem dX10_meet_42 : decode cX10_meet 42 = .ok (.sipush 300, 3) := by decide +kernel
theorem dX10_meet_45 : decode cX10_meet 45 = .ok (.if_icmp .gt 39, 3) := by decide +kernel
theorem dX10_meet_48 : decode cX10_meet 48 = .ok (.aload_n 0, 1) := by decide +kernel
theorem dX10_meet_49 : decode cX10_meet 49 = .ok (.getfield 42, 3) := by decide +kernel
theorem dX10_meet_52 : decode cX10_meet 52 = .ok (.getfield 112, 3) := by decide +kernel
theorem dX10_meet_55 : decode cX10_meet 55 = .ok (.iload_n 1, 1) := by decide +kernel
theorem dX10_meet_56 : decode cX10_meet 56 = .ok (.iaload, 1) := by decide +kernel
theorem dX10_meet_57 : decode cX10_meet 57 = .ok (.aload_n 0, 1) := by decide +kernel
theorem dX10_meet_58 : decode cX10_meet 58 = .ok (.getfield 42, 3) := by decide +kernel
theorem dX10_meet_61 : decode cX10_meet 61 = .ok (.getfield 112, 3) := by decide +kernel
theorem dX10_meet_64 : decode cX10_meet 64 = .ok (.iload_n 2, 1) := by decide +kernel
theorem dX10_meet_65 : decode cX10_meet 65 = .ok (.iaload, 1) := by decide +kernel
theorem dX10_meet_66 : decode cX10_meet 66 = .ok (.if_icmp .ne 5, 3) := by decide +kernel
theorem dX10_meet_69 : decode cX10_meet 69 = .ok (.iload_n 3, 1) := by decide +kernel
theorem dX10_meet_70 : decode cX10_meet 70 = .ok (.ireturn, 1) := by decide +kernel
theorem dX10_meet_71 : decode cX10_meet 71 = .ok (.aload_n 0, 1) := by decide +kernel
theorem dX10_meet_72 : decode cX10_meet 72 = .ok (.getfield 42, 3) := by decide +kernel
theorem dX10_meet_75 : decode cX10_meet 75 = .ok (.invokevirtual 165, 3) := by decide +kernel
theorem dX10_meet_78 : decode cX10_meet 78 = .ok (.iinc 3 1, 3) := by decide +kernel
theorem dX10_meet_81 : decode cX10_meet 81 = .ok (.goto (-40), 3) := by decide +kernel
theorem dX10_meet_84 : decode cX10_meet 84 = .ok (.aload_n 0, 1) := by decide +kernel
theorem dX10_meet_85 : decode cX10_meet 85 = .ok (.ldc 168, 2) := by decide +kernel
theorem dX10_meet_87 : decode cX10_meet 87 = .ok (.invokevirtual 58, 3) := by decide +kernel
theorem dX10_meet_90 : decode cX10_meet 90 = .ok (.ireturn, 1) := by decide +kernel
theorem dX10_begin_0 : decode cX10_begin 0 = .ok (.aload_n 0, 1) := by decide +kernel
theorem dX10_begin_1 : decode cX10_begin 1 = .ok (.iload_n 1, 1) := by decide +kernel
theorem dX10_begin_2 : decode cX10_begin 2 = .ok (.invokevirtual 106, 3) := by decide +kernel
theorem dX10_begin_5 : decode cX10_begin 5 = .ok (.ifCond .ne 13, 3) := by decide +kernel
theorem dX10_begin_8 : decode cX10_begin 8 = .ok (.iload_n 2, 1) := by decide +kernel
theorem dX10_begin_9 : decode cX10_begin 9 = .ok (.iconst 1, 1) := by decide +kernel
theorem dX10_begin_10 : decode cX10_begin 10 = .ok (.bipush 100, 2) := by decide +kernel
theorem dX10_begin_12 : decode cX10_begin 12 = .ok (.invokestatic 49, 3) := by decide +kernel
theorem dX10_begin_15 : decode cX10_begin 15 = .ok (.ifCond .eq 10, 3) := by decide +kernel
theorem dX10_begin_18 : decode cX10_begin 18 = .ok (.aload_n 0, 1) := by decide +kernel
theorem dX10_begin_19 : decode cX10_begin 19 = .ok (.ldc 57, 2) := by decide +kernel
theorem dX10_begin_21 : decode cX10_begin 21 = .ok (.invokevirtual 58, 3) := by decide +kernel
theorem dX10_begin_24 : decode cX10_begin 24 = .ok (.ireturn, 1) := by decide +kernel
theorem dX10_begin_25 : decode cX10_begin 25 = .ok (.aload_n 0, 1) := by decide +kernel
theorem dX10_begin_26 : decode cX10_begin 26 = .ok (.aload_n 0, 1) := by decide +kernel
theorem dX10_begin_27 : decode cX10_begin 27 = .ok (.getfield 42, 3) := by decide +kernel
theorem dX10_begin_30 : decode cX10_begin 30 = .ok (.getfield 112, 3) := by decide +kernel
theorem dX10_begin_33 : decode cX10_begin 33 = .ok (.bipush 12, 2) := by decide +kernel
theorem dX10_begin_35 : decode cX10_begin 35 = .ok (.iload_n 1, 1) := by decide +kernel
theorem dX10_begin_36 : decode cX10_begin 36 = .ok (.iload_n 2, 1) := by decide +kernel
theorem dX10_begin_37 : decode cX10_begin 37 = .ok (.invokevirtual 169, 3) := by decide +kernel
theorem dX10_begin_40 : decode cX10_begin 40 = .ok (.ireturn, 1) := by decide +kernel
theorem dX10_kind_0 : decode cX10_kind 0 = .ok (.aload_n 0, 1) := by decide +kernel
theorem dX10_kind_1 : decode cX10_kind 1 = .ok (.iload_n 1, 1) := by decide +kernel
theorem dX10_kind_2 : decode cX10_kind 2 = .ok (.invokevirtual 106, 3) := by decide +kernel
theorem dX10_kind_5 : decode cX10_kind 5 = .ok (.ifCond .ne 13, 3) := by decide +kernel
theorem dX10_kind_8 : decode cX10_kind 8 = .ok (.iload_n 2, 1) := by decide +kernel
theorem dX10_kind_9 : decode cX10_kind 9 = .ok (.iconst 1, 1) := by decide +kernel
theorem dX10_kind_10 : decode cX10_kind 10 = .ok (.bipush 100, 2) := by decide +kernel
theorem dX10_kind_12 : decode cX10_kind 12 = .ok (.invokestatic 49, 3) := by decide +kernel
theorem dX10_kind_15 : decode cX10_kind 15 = .ok (.ifCond .eq 10, 3) := by decide +kernel
theorem dX10_kind_18 : decode cX10_kind 18 = .ok (.aload_n 0, 1) := by decide +kernel
theorem dX10_kind_19 : decode cX10_kind 19 = .ok (.ldc 57, 2) := by decide +kernel
theorem dX10_kind_21 : decode cX10_kind 21 = .ok (.invokevirtual 58, 3) := by decide +kernel
theorem dX10_kind_24 : decode cX10_kind 24 = .ok (.ireturn, 1) := by decide +kernel
theorem dX10_kind_25 : decode cX10_kind 25 = .ok (.aload_n 0, 1) := by decide +kernel
theorem dX10_kind_26 : decode cX10_kind 26 = .ok (.aload_n 0, 1) := by decide +kernel
theorem dX10_kind_27 : decode cX10_kind 27 = .ok (.getfield 42, 3) := by decide +kernel
theorem dX10_kind_30 : decode cX10_kind 30 = .ok (.getfield 109, 3) := by decide +kernel
theorem dX10_kind_33 : decode cX10_kind 33 = .ok (.bipush 6, 2) := by decide +kernel
theorem dX10_kind_35 : decode cX10_kind 35 = .ok (.iload_n 1, 1) := by decide +kernel
theorem dX10_kind_36 : decode cX10_kind 36 = .ok (.iload_n 2, 1) := by decide +kernel
theorem dX10_kind_37 : decode cX10_kind 37 = .ok (.invokevirtual 169, 3) := by decide +kernel
theorem dX10_kind_40 : decode cX10_kind 40 = .ok (.ireturn, 1) := by decide +kernel
theorem dX10_quick_0 : decode cX10_quick 0 = .ok (.aload_n 0, 1) := by decide +kernel
theorem dX10_quick_1 : decode cX10_quick 1 = .ok (.iload_n 1, 1) := by decide +kernel
theorem dX10_quick_2 : decode cX10_quick 2 = .ok (.invokevirtual 106, 3) := by decide +kernel
theorem dX10_quick_5 : decode cX10_quick 5 = .ok (.ifCond .ne 24, 3) := by decide +kernel
theorem dX10_quick_8 : decode cX10_quick 8 = .ok (.iload_n 2, 1) := by decide +kernel
theorem dX10_quick_9 : decode cX10_quick 9 = .ok (.iconst 1, 1) := by decide +kernel
theorem dX10_quick_10 : decode cX10_quick 10 = .ok (.bipush 100, 2) := by decide +kernel
theorem dX10_quick_12 : decode cX10_quick 12 = .ok (.invokestatic 49, 3) := by decide +kernel
theorem dX10_quick_15 : decode cX10_quick 15 = .ok (.ifCond .ne 14, 3) := by decide +kernel
theorem dX10_quick_18 : decode cX10_quick 18 = .ok (.iload_n 3, 1) := by decide +kernel
theorem dX10_quick_19 : decode cX10_quick 19 = .ok (.iconst 0, 1) := by decide +kernel
theorem dX10_quick_20 : decode cX10_quick 20 = .ok (.sipush 9999, 3) := by decide +kernel
theorem dX10_quick_23 : decode cX10_quick 23 = .ok (.invokestatic 49, 3) := by decide +kernel
theorem dX10_quick_26 : decode cX10_quick 26 = .ok (.ifCond .eq 10, 3) := by decide +kernel
theorem dX10_quick_29 : decode cX10_quick 29 = .ok (.aload_n 0, 1) := by decide +kernel
theorem dX10_quick_30 : decode cX10_quick 30 = .ok (.ldc 57, 2) := by decide +kernel
theorem dX10_quick_32 : decode cX10_quick 32 = .ok (.invokevirtual 58, 3) := by decide +kernel
theorem dX10_quick_35 : decode cX10_quick 35 = .ok (.ireturn, 1) := by decide +kernel
theorem dX10_quick_36 : decode cX10_quick 36 = .ok (.iconst 1, 1) := by decide +kernel
theorem dX10_quick_37 : decode cX10_quick 37 = .ok (.istore 4, 2) := by decide +kernel
theorem dX10_quick_39 : decode cX10_quick 39 = .ok (.iload 4, 2) := by decide +kernel
theorem dX10_quick_41 : decode cX10_quick 41 = .ok (.iconst 4, 1) := by decide +kernel
theorem dX10_quick_42 : decode cX10_quick 42 = .ok (.if_icmp .gt 55, 3) := by decide +kernel
theorem dX10_quick_45 : decode cX10_quick 45 = .ok (.aload_n 0, 1) := by decide +kernel
theorem dX10_quick_46 : decode cX10_quick 46 = .ok (.getfield 42, 3) := by decide +kernel
theorem dX10_quick_49 : decode cX10_quick 49 = .ok (.aload_n 0, 1) := by decide +kernel
theorem dX10_quick_50 : decode cX10_quick 50 = .ok (.getfield 38, 3) := by decide +kernel
theorem dX10_quick_53 : decode cX10_quick 53 = .ok (.invokevirtual 161, 3) := by decide +kernel
theorem dX10_quick_56 : decode cX10_quick 56 = .ok (.aload_n 0, 1) := by decide +kernel
theorem dX10_quick_57 : decode cX10_quick 57 = .ok (.getfield 42, 3) := by decide +kernel
theorem dX10_quick_60 : decode cX10_quick 60 = .ok (.getfield 115, 3) := by decide +kernel
theorem dX10_quick_63 : decode cX10_quick 63 = .ok (.iload_n 1, 1) := by decide +kernel
theorem dX10_quick_64 : decode cX10_quick 64 = .ok (.iload 4, 2) := by decide +kernel
theorem dX10_quick_66 : decode cX10_quick 66 = .ok (.iastore, 1) := by decide +kernel
theorem dX10_quick_67 : decode cX10_quick 67 = .ok (.aload_n 0, 1) := by decide +kernel
theorem dX10_quick_68 : decode cX10_quick 68 = .ok (.getfield 42, 3) := by decide +kernel
theorem dX10_quick_71 : decode cX10_quick 71 = .ok (.iload_n 2, 1) := by decide +kernel
theorem dX10_quick_72 : decode cX10_quick 72 = .ok (.invokevirtual 154, 3) := by decide +kernel
theorem dX10_quick_75 : decode cX10_quick 75 = .ok (.aload_n 0, 1) := by decide +kernel
theorem dX10_quick_76 : decode cX10_quick 76 = .ok (.getfield 42, 3) := by decide +kernel
theorem dX10_quick_79 : decode cX10_quick 79 = .ok (.getfield 118, 3) := by decide +kernel
theorem dX10_quick_82 : decode cX10_quick 82 = .ok (.iload_n 1, 1) := by decide +kernel
theorem dX10_quick_83 : decode cX10_quick 83 = .ok (.iaload, 1) := by decide +kernel
theorem dX10_quick_84 : decode cX10_quick 84 = .ok (.iload_n 3, 1) := by decide +kernel
theorem dX10_quick_85 : decode cX10_quick 85 = .ok (.if_icmp .lt 6, 3) := by decide +kernel
theorem dX10_quick_88 : decode cX10_quick 88 = .ok (.iload 4, 2) := by decide +kernel
theorem dX10_quick_90 : decode cX10_quick 90 = .ok (.ireturn, 1) := by decide +kernel
theorem dX10_quick_91 : decode cX10_quick 91 = .ok (.iinc 4 1, 3) := by decide +kernel
theorem dX10_quick_94 : decode cX10_quick 94 = .ok (.goto (-55), 3) := by decide +kernel
theorem dX10_quick_97 : decode cX10_quick 97 = .ok (.aload_n 0, 1) := by decide +kernel
theorem dX10_quick_98 : decode cX10_quick 98 = .ok (.ldc 168, 2) := by decide +kernel
theorem dX10_quick_100 : decode cX10_quick 100 = .ok (.invokevirtual 58, 3) := by decide +kernel
theorem dX10_quick_103 : decode cX10_quick 103 = .ok (.ireturn, 1) := by decide +kernel
theorem dX10_compose_0 : decode cX10_compose 0 = .ok (.iload_n 1, 1) := by decide +kernel
theorem dX10_compose_1 : decode cX10_compose 1 = .ok (.iconst 0, 1) := by decide +kernel
theorem dX10_compose_2 : decode cX10_compose 2 = .ok (.iconst 5, 1) := by decide +kernel
theorem dX10_compose_3 : decode cX10_compose 3 = .ok (.invokestatic 49, 3) := by decide +kernel
theorem dX10_compose_6 : decode cX10_compose 6 = .ok (.ifCond .ne 13, 3) := by decide +kernel
theorem dX10_compose_9 : decode cX10_compose 9 = .ok (.iload_n 2, 1) := by decide +kernel
theorem dX10_compose_10 : decode cX10_compose 10 = .ok (.iconst 1, 1) := by decide +kernel
theorem dX10_compose_11 : decode cX10_compose 11 = .ok (.bipush 100, 2) := by decide +kernel
theorem dX10_compose_13 : decode cX10_compose 13 = .ok (.invokestatic 49, 3) := by decide +kernel
theorem dX10_compose_16 : decode cX10_compose 16 = .ok (.ifCond .eq 10, 3) := by decide +kernel
theorem dX10_compose_19 : decode cX10_compose 19 = .ok (.aload_n 0, 1) := by decide +kernel
theorem dX10_compose_20 : decode cX10_compose 20 = .ok (.ldc 57, 2) := by decide +kernel
theorem dX10_compose_22 : decode cX10_compose 22 = .ok (.invokevirtual 58, 3) := by decide +kernel
theorem dX10_compose_25 : decode cX10_compose 25 = .ok (.ireturn, 1) := by decide +kernel
theorem dX10_compose_26 : decode cX10_compose 26 = .ok (.iconst 0, 1) := by decide +kernel
theorem dX10_compose_27 : decode cX10_compose 27 = .ok (.istore_n 3, 1) := by decide +kernel
theorem dX10_compose_28 : decode cX10_compose 28 = .ok (.iconst 0, 1) := by decide +kernel
theorem dX10_compose_29 : decode cX10_compose 29 = .ok (.istore 4, 2) := by decide +kernel
theorem dX10_compose_31 : decode cX10_compose 31 = .ok (.iconst 0, 1) := by decide +kernel
theorem dX10_compose_32 : decode cX10_compose 32 = .ok (.istore 5, 2) := by decide +kernel
theorem dX10_compose_34 : decode cX10_compose 34 = .ok (.iload 5, 2) := by decide +kernel
theorem dX10_compose_36 : decode cX10_compose 36 = .ok (.bipush 12, 2) := by decide +kernel
theorem dX10_compose_38 : decode cX10_compose 38 = .ok (.if_icmp .ge 67, 3) := by decide +kernel
theorem dX10_compose_41 : decode cX10_compose 41 = .ok (.aload_n 0, 1) := by decide +kernel
theorem dX10_compose_42 : decode cX10_compose 42 = .ok (.getfield 42, 3) := by decide +kernel
theorem dX10_compose_45 : decode cX10_compose 45 = .ok (.aload_n 0, 1) := by decide +kernel
theorem dX10_compose_46 : decode cX10_compose 46 = .ok (.getfield 38, 3) := by decide +kernel
theorem dX10_compose_49 : decode cX10_compose 49 = .ok (.invokevirtual 161, 3) := by decide +kernel
theorem dX10_compose_52 : decode cX10_compose 52 = .ok (.aload_n 0, 1) := by decide +kernel
theorem dX10_compose_53 : decode cX10_compose 53 = .ok (.getfield 42, 3) := by decide +kernel
theorem dX10_compose_56 : decode cX10_compose 56 = .ok (.getfield 62, 3) := by decide +kernel
theorem dX10_compose_59 : decode cX10_compose 59 = .ok (.iload_n 1, 1) := by decide +kernel
theorem dX10_compose_60 : decode cX10_compose 60 = .ok (.iload 5, 2) := by decide +kernel
theorem dX10_compose_62 : decode cX10_compose 62 = .ok (.iastore, 1) := by decide +kernel
theorem dX10_compose_63 : decode cX10_compose 63 = .ok (.aload_n 0, 1) := by decide +kernel
theorem dX10_compose_64 : decode cX10_compose 64 = .ok (.getfield 42, 3) := by decide +kernel
theorem dX10_compose_67 : decode cX10_compose 67 = .ok (.iload_n 2, 1) := by decide +kernel
theorem dX10_compose_68 : decode cX10_compose 68 = .ok (.invokevirtual 154, 3) := by decide +kernel
theorem dX10_compose_71 : decode cX10_compose 71 = .ok (.aload_n 0, 1) := by decide +kernel
theorem dX10_compose_72 : decode cX10_compose 72 = .ok (.getfield 42, 3) := by decide +kernel
theorem dX10_compose_75 : decode cX10_compose 75 = .ok (.invokevirtual 89, 3) := by decide +kernel
theorem dX10_compose_78 : decode cX10_compose 78 = .ok (.istore 6, 2) := by decide +kernel
theorem dX10_compose_80 : decode cX10_compose 80 = .ok (.iload 5, 2) := by decide +kernel
theorem dX10_compose_82 : decode cX10_compose 82 = .ok (.ifCond .eq 10, 3) := by decide +kernel
theorem dX10_compose_85 : decode cX10_compose 85 = .ok (.iload 6, 2) := by decide +kernel
theorem dX10_compose_87 : decode cX10_compose 87 = .ok (.iload 4, 2) := by decide +kernel
theorem dX10_compose_89 : decode cX10_compose 89 = .ok (.if_icmp .le 10, 3) := by decide +kernel
theorem dX10_compose_92 : decode cX10_compose 92 = .ok (.iload 6, 2) := by decide +kernel
theorem dX10_compose_94 : decode cX10_compose 94 = .ok (.istore 4, 2) := by decide +kernel
theorem dX10_compose_96 : decode cX10_compose 96 = .ok (.iload 5, 2) := by decide +kernel
theorem dX10_compose_98 : decode cX10_compose 98 = .ok (.istore_n 3, 1) := by decide +kernel
theorem dX10_compose_99 : decode cX10_compose 99 = .ok (.iinc 5 1, 3) := by decide +kernel
theorem dX10_compose_102 : decode cX10_compose 102 = .ok (.goto (-68), 3) := by decide +kernel
theorem dX10_compose_105 : decode cX10_compose 105 = .ok (.iload_n 3, 1) := by decide +kernel
theorem dX10_compose_106 : decode cX10_compose 106 = .ok (.ireturn, 1) := by decide +kernel
theorem dX10_deceive_0 : decode cX10_deceive 0 = .ok (.iload_n 1, 1) := by decide +kernel
theorem dX10_deceive_1 : decode cX10_deceive 1 = .ok (.iconst 0, 1) := by decide +kernel
theorem dX10_deceive_2 : decode cX10_deceive 2 = .ok (.iconst 2, 1) := by decide +kernel
theorem dX10_deceive_3 : decode cX10_deceive 3 = .ok (.invokestatic 49, 3) := by decide +kernel
theorem dX10_deceive_6 : decode cX10_deceive 6 = .ok (.ifCond .ne 13, 3) := by decide +kernel
theorem dX10_deceive_9 : decode cX10_deceive 9 = .ok (.iload_n 2, 1) := by decide +kernel
theorem dX10_deceive_10 : decode cX10_deceive 10 = .ok (.iconst 1, 1) := by decide +kernel
theorem dX10_deceive_11 : decode cX10_deceive 11 = .ok (.bipush 60, 2) := by decide +kernel
theorem dX10_deceive_13 : decode cX10_deceive 13 = .ok (.invokestatic 49, 3) := by decide +kernel
theorem dX10_deceive_16 : decode cX10_deceive 16 = .ok (.ifCond .eq 10, 3) := by decide +kernel
theorem dX10_deceive_19 : decode cX10_deceive 19 = .ok (.aload_n 0, 1) := by decide +kernel
theorem dX10_deceive_20 : decode cX10_deceive 20 = .ok (.ldc 57, 2) := by decide +kernel
theorem dX10_deceive_22 : decode cX10_deceive 22 = .ok (.invokevirtual 58, 3) := by decide +kernel
theorem dX10_deceive_25 : decode cX10_deceive 25 = .ok (.ireturn, 1) := by decide +kernel
theorem dX10_deceive_26 : decode cX10_deceive 26 = .ok (.iconst 0, 1) := by decide +kernel
theorem dX10_deceive_27 : decode cX10_deceive 27 = .ok (.istore_n 3, 1) := by decide +kernel
theorem dX10_deceive_28 : decode cX10_deceive 28 = .ok (.iconst 0, 1) := by decide +kernel
theorem dX10_deceive_29 : decode cX10_deceive 29 = .ok (.istore 4, 2) := by decide +kernel
theorem dX10_deceive_31 : decode cX10_deceive 31 = .ok (.iconst 0, 1) := by decide +kernel
theorem dX10_deceive_32 : decode cX10_deceive 32 = .ok (.istore 5, 2) := by decide +kernel
theorem dX10_deceive_34 : decode cX10_deceive 34 = .ok (.iload 5, 2) := by decide +kernel
theorem dX10_deceive_36 : decode cX10_deceive 36 = .ok (.bipush 48, 2) := by decide +kernel
theorem dX10_deceive_38 : decode cX10_deceive 38 = .ok (.if_icmp .ge 67, 3) := by decide +kernel
theorem dX10_deceive_41 : decode cX10_deceive 41 = .ok (.aload_n 0, 1) := by decide +kernel
theorem dX10_deceive_42 : decode cX10_deceive 42 = .ok (.getfield 42, 3) := by decide +kernel
theorem dX10_deceive_45 : decode cX10_deceive 45 = .ok (.aload_n 0, 1) := by decide +kernel
theorem dX10_deceive_46 : decode cX10_deceive 46 = .ok (.getfield 38, 3) := by decide +kernel
theorem dX10_deceive_49 : decode cX10_deceive 49 = .ok (.invokevirtual 161, 3) := by decide +kernel
theorem dX10_deceive_52 : decode cX10_deceive 52 = .ok (.aload_n 0, 1) := by decide +kernel
theorem dX10_deceive_53 : decode cX10_deceive 53 = .ok (.getfield 42, 3) := by decide +kernel
theorem dX10_deceive_56 : decode cX10_deceive 56 = .ok (.getfield 65, 3) := by decide +kernel
theorem dX10_deceive_59 : decode cX10_deceive 59 = .ok (.iload_n 1, 1) := by decide +kernel
theorem dX10_deceive_60 : decode cX10_deceive 60 = .ok (.iload 5, 2) := by decide +kernel
theorem dX10_deceive_62 : decode cX10_deceive 62 = .ok (.iastore, 1) := by decide +kernel
theorem dX10_deceive_63 : decode cX10_deceive 63 = .ok (.aload_n 0, 1) := by decide +kernel
theorem dX10_deceive_64 : decode cX10_deceive 64 = .ok (.getfield 42, 3) := by decide +kernel
theorem dX10_deceive_67 : decode cX10_deceive 67 = .ok (.iload_n 2, 1) := by decide +kernel
theorem dX10_deceive_68 : decode cX10_deceive 68 = .ok (.invokevirtual 154, 3) := by decide +kernel
theorem dX10_deceive_71 : decode cX10_deceive 71 = .ok (.aload_n 0, 1) := by decide +kernel
theorem dX10_deceive_72 : decode cX10_deceive 72 = .ok (.getfield 42, 3) := by decide +kernel
theorem dX10_deceive_75 : decode cX10_deceive 75 = .ok (.invokevirtual 89, 3) := by decide +kernel
theorem dX10_deceive_78 : decode cX10_deceive 78 = .ok (.istore 6, 2) := by decide +kernel
theorem dX10_deceive_80 : decode cX10_deceive 80 = .ok (.iload 5, 2) := by decide +kernel
theorem dX10_deceive_82 : decode cX10_deceive 82 = .ok (.ifCond .eq 10, 3) := by decide +kernel
theorem dX10_deceive_85 : decode cX10_deceive 85 = .ok (.iload 6, 2) := by decide +kernel
theorem dX10_deceive_87 : decode cX10_deceive 87 = .ok (.iload 4, 2) := by decide +kernel
theorem dX10_deceive_89 : decode cX10_deceive 89 = .ok (.if_icmp .ge 10, 3) := by decide +kernel
theorem dX10_deceive_92 : decode cX10_deceive 92 = .ok (.iload 6, 2) := by decide +kernel
theorem dX10_deceive_94 : decode cX10_deceive 94 = .ok (.istore 4, 2) := by decide +kernel
theorem dX10_deceive_96 : decode cX10_deceive 96 = .ok (.iload 5, 2) := by decide +kernel
theorem dX10_deceive_98 : decode cX10_deceive 98 = .ok (.istore_n 3, 1) := by decide +kernel
theorem dX10_deceive_99 : decode cX10_deceive 99 = .ok (.iinc 5 1, 3) := by decide +kernel
theorem dX10_deceive_102 : decode cX10_deceive 102 = .ok (.goto (-68), 3) := by decide +kernel
theorem dX10_deceive_105 : decode cX10_deceive 105 = .ok (.iload_n 3, 1) := by decide +kernel
theorem dX10_deceive_106 : decode cX10_deceive 106 = .ok (.ireturn, 1) := by decide +kernel
theorem dX10_worst_0 : decode cX10_worst 0 = .ok (.iload_n 1, 1) := by decide +kernel
theorem dX10_worst_1 : decode cX10_worst 1 = .ok (.iconst 0, 1) := by decide +kernel
theorem dX10_worst_2 : decode cX10_worst 2 = .ok (.sipush 300, 3) := by decide +kernel
theorem dX10_worst_5 : decode cX10_worst 5 = .ok (.invokestatic 49, 3) := by decide +kernel
theorem dX10_worst_8 : decode cX10_worst 8 = .ok (.ifCond .eq 10, 3) := by decide +kernel
theorem dX10_worst_11 : decode cX10_worst 11 = .ok (.aload_n 0, 1) := by decide +kernel
theorem dX10_worst_12 : decode cX10_worst 12 = .ok (.ldc 57, 2) := by decide +kernel
theorem dX10_worst_14 : decode cX10_worst 14 = .ok (.invokevirtual 58, 3) := by decide +kernel
theorem dX10_worst_17 : decode cX10_worst 17 = .ok (.ireturn, 1) := by decide +kernel
theorem dX10_worst_18 : decode cX10_worst 18 = .ok (.aload_n 0, 1) := by decide +kernel
theorem dX10_worst_19 : decode cX10_worst 19 = .ok (.getfield 38, 3) := by decide +kernel
theorem dX10_worst_22 : decode cX10_worst 22 = .ok (.getfield 98, 3) := by decide +kernel
theorem dX10_worst_25 : decode cX10_worst 25 = .ok (.ifCond .ne 10, 3) := by decide +kernel
theorem dX10_worst_28 : decode cX10_worst 28 = .ok (.aload_n 0, 1) := by decide +kernel
theorem dX10_worst_29 : decode cX10_worst 29 = .ok (.ldc 168, 2) := by decide +kernel
theorem dX10_worst_31 : decode cX10_worst 31 = .ok (.invokevirtual 58, 3) := by decide +kernel
theorem dX10_worst_34 : decode cX10_worst 34 = .ok (.ireturn, 1) := by decide +kernel
theorem dX10_worst_35 : decode cX10_worst 35 = .ok (.aload_n 0, 1) := by decide +kernel
theorem dX10_worst_36 : decode cX10_worst 36 = .ok (.getfield 42, 3) := by decide +kernel
theorem dX10_worst_39 : decode cX10_worst 39 = .ok (.aload_n 0, 1) := by decide +kernel
theorem dX10_worst_40 : decode cX10_worst 40 = .ok (.getfield 38, 3) := by decide +kernel
theorem dX10_worst_43 : decode cX10_worst 43 = .ok (.invokevirtual 161, 3) := by decide +kernel
theorem dX10_worst_46 : decode cX10_worst 46 = .ok (.aload_n 0, 1) := by decide +kernel
theorem dX10_worst_47 : decode cX10_worst 47 = .ok (.getfield 42, 3) := by decide +kernel
theorem dX10_worst_50 : decode cX10_worst 50 = .ok (.iload_n 1, 1) := by decide +kernel
theorem dX10_worst_51 : decode cX10_worst 51 = .ok (.invokevirtual 154, 3) := by decide +kernel
theorem dX10_worst_54 : decode cX10_worst 54 = .ok (.iconst 0, 1) := by decide +kernel
theorem dX10_worst_55 : decode cX10_worst 55 = .ok (.istore_n 2, 1) := by decide +kernel
theorem dX10_worst_56 : decode cX10_worst 56 = .ok (.iconst 1, 1) := by decide +kernel
theorem dX10_worst_57 : decode cX10_worst 57 = .ok (.istore_n 3, 1) := by decide +kernel
theorem dX10_worst_58 : decode cX10_worst 58 = .ok (.iload_n 3, 1) := by decide +kernel
theorem dX10_worst_59 : decode cX10_worst 59 = .ok (.aload_n 0, 1) := by decide +kernel
theorem dX10_worst_60 : decode cX10_worst 60 = .ok (.getfield 42, 3) := by decide +kernel
theorem dX10_worst_63 : decode cX10_worst 63 = .ok (.getfield 98, 3) := by decide +kernel
theorem dX10_worst_66 : decode cX10_worst 66 = .ok (.if_icmp .ge 32, 3) := by decide +kernel
theorem dX10_worst_69 : decode cX10_worst 69 = .ok (.aload_n 0, 1) := by decide +kernel
theorem dX10_worst_70 : decode cX10_worst 70 = .ok (.getfield 42, 3) := by decide +kernel
theorem dX10_worst_73 : decode cX10_worst 73 = .ok (.getfield 121, 3) := by decide +kernel
theorem dX10_worst_76 : decode cX10_worst 76 = .ok (.iload_n 3, 1) := by decide +kernel
theorem dX10_worst_77 : decode cX10_worst 77 = .ok (.iaload, 1) := by decide +kernel
theorem dX10_worst_78 : decode cX10_worst 78 = .ok (.aload_n 0, 1) := by decide +kernel
theorem dX10_worst_79 : decode cX10_worst 79 = .ok (.getfield 42, 3) := by decide +kernel
theorem dX10_worst_82 : decode cX10_worst 82 = .ok (.getfield 121, 3) := by decide +kernel
theorem dX10_worst_85 : decode cX10_worst 85 = .ok (.iload_n 2, 1) := by decide +kernel
theorem dX10_worst_86 : decode cX10_worst 86 = .ok (.iaload, 1) := by decide +kernel
theorem dX10_worst_87 : decode cX10_worst 87 = .ok (.if_icmp .le 5, 3) := by decide +kernel
theorem dX10_worst_90 : decode cX10_worst 90 = .ok (.iload_n 3, 1) := by decide +kernel
theorem dX10_worst_91 : decode cX10_worst 91 = .ok (.istore_n 2, 1) := by decide +kernel
theorem dX10_worst_92 : decode cX10_worst 92 = .ok (.iinc 3 1, 3) := by decide +kernel
theorem dX10_worst_95 : decode cX10_worst 95 = .ok (.goto (-37), 3) := by decide +kernel
theorem dX10_worst_98 : decode cX10_worst 98 = .ok (.iload_n 2, 1) := by decide +kernel
theorem dX10_worst_99 : decode cX10_worst 99 = .ok (.ireturn, 1) := by decide +kernel
theorem dX10_feed_0 : decode cX10_feed 0 = .ok (.iload_n 2, 1) := by decide +kernel
theorem dX10_feed_1 : decode cX10_feed 1 = .ok (.iconst 1, 1) := by decide +kernel
theorem dX10_feed_2 : decode cX10_feed 2 = .ok (.iconst 4, 1) := by decide +kernel
theorem dX10_feed_3 : decode cX10_feed 3 = .ok (.invokestatic 49, 3) := by decide +kernel
theorem dX10_feed_6 : decode cX10_feed 6 = .ok (.ifCond .eq 10, 3) := by decide +kernel
theorem dX10_feed_9 : decode cX10_feed 9 = .ok (.aload_n 0, 1) := by decide +kernel
theorem dX10_feed_10 : decode cX10_feed 10 = .ok (.ldc 57, 2) := by decide +kernel
theorem dX10_feed_12 : decode cX10_feed 12 = .ok (.invokevirtual 58, 3) := by decide +kernel
theorem dX10_feed_15 : decode cX10_feed 15 = .ok (.ireturn, 1) := by decide +kernel
theorem dX10_feed_16 : decode cX10_feed 16 = .ok (.aload_n 0, 1) := by decide +kernel
theorem dX10_feed_17 : decode cX10_feed 17 = .ok (.getfield 10, 3) := by decide +kernel
theorem dX10_feed_20 : decode cX10_feed 20 = .ok (.getfield 173, 3) := by decide +kernel
theorem dX10_feed_23 : decode cX10_feed 23 = .ok (.iload_n 2, 1) := by decide +kernel
theorem dX10_feed_24 : decode cX10_feed 24 = .ok (.iadd, 1) := by decide +kernel
theorem dX10_feed_25 : decode cX10_feed 25 = .ok (.bipush 120, 2) := by decide +kernel
theorem dX10_feed_27 : decode cX10_feed 27 = .ok (.if_icmp .le 10, 3) := by decide +kernel
theorem dX10_feed_30 : decode cX10_feed 30 = .ok (.aload_n 0, 1) := by decide +kernel
theorem dX10_feed_31 : decode cX10_feed 31 = .ok (.ldc 101, 2) := by decide +kernel
theorem dX10_feed_33 : decode cX10_feed 33 = .ok (.invokevirtual 58, 3) := by decide +kernel
theorem dX10_feed_36 : decode cX10_feed 36 = .ok (.ireturn, 1) := by decide +kernel
theorem dX10_feed_37 : decode cX10_feed 37 = .ok (.iload_n 2, 1) := by decide +kernel
theorem dX10_feed_38 : decode cX10_feed 38 = .ok (.iconst 1, 1) := by decide +kernel
theorem dX10_feed_39 : decode cX10_feed 39 = .ok (.isub, 1) := by decide +kernel
theorem dX10_feed_40 : decode cX10_feed 40 = .ok (.istore_n 3, 1) := by decide +kernel
theorem dX10_feed_41 : decode cX10_feed 41 = .ok (.iload_n 3, 1) := by decide +kernel
theorem dX10_feed_42 : decode cX10_feed 42 = .ok (.ifCond .lt 26, 3) := by decide +kernel
theorem dX10_feed_45 : decode cX10_feed 45 = .ok (.aload_n 0, 1) := by decide +kernel
theorem dX10_feed_46 : decode cX10_feed 46 = .ok (.getfield 10, 3) := by decide +kernel
theorem dX10_feed_49 : decode cX10_feed 49 = .ok (.iload_n 1, 1) := by decide +kernel
theorem dX10_feed_50 : decode cX10_feed 50 = .ok (.bipush 8, 2) := by decide +kernel
theorem dX10_feed_52 : decode cX10_feed 52 = .ok (.iload_n 3, 1) := by decide +kernel
theorem dX10_feed_53 : decode cX10_feed 53 = .ok (.imul, 1) := by decide +kernel
theorem dX10_feed_54 : decode cX10_feed 54 = .ok (.ishr, 1) := by decide +kernel
theorem dX10_feed_55 : decode cX10_feed 55 = .ok (.sipush 255, 3) := by decide +kernel
theorem dX10_feed_58 : decode cX10_feed 58 = .ok (.iand, 1) := by decide +kernel
theorem dX10_feed_59 : decode cX10_feed 59 = .ok (.invokevirtual 176, 3) := by decide +kernel
theorem dX10_feed_62 : decode cX10_feed 62 = .ok (.iinc 3 (-1), 3) := by decide +kernel
theorem dX10_feed_65 : decode cX10_feed 65 = .ok (.goto (-24), 3) := by decide +kernel
theorem dX10_feed_68 : decode cX10_feed 68 = .ok (.aload_n 0, 1) := by decide +kernel
theorem dX10_feed_69 : decode cX10_feed 69 = .ok (.getfield 10, 3) := by decide +kernel
theorem dX10_feed_72 : decode cX10_feed 72 = .ok (.getfield 173, 3) := by decide +kernel
theorem dX10_feed_75 : decode cX10_feed 75 = .ok (.ireturn, 1) := by decide +kernel
theorem dX10_wipe_0 : decode cX10_wipe 0 = .ok (.aload_n 0, 1) := by decide +kernel
theorem dX10_wipe_1 : decode cX10_wipe 1 = .ok (.getfield 10, 3) := by decide +kernel
theorem dX10_wipe_4 : decode cX10_wipe 4 = .ok (.getfield 173, 3) := by decide +kernel
theorem dX10_wipe_7 : decode cX10_wipe 7 = .ok (.istore_n 1, 1) := by decide +kernel
theorem dX10_wipe_8 : decode cX10_wipe 8 = .ok (.aload_n 0, 1) := by decide +kernel
theorem dX10_wipe_9 : decode cX10_wipe 9 = .ok (.getfield 10, 3) := by decide +kernel
theorem dX10_wipe_12 : decode cX10_wipe 12 = .ok (.iconst 0, 1) := by decide +kernel
theorem dX10_wipe_13 : decode cX10_wipe 13 = .ok (.putfield 173, 3) := by decide +kernel
theorem dX10_wipe_16 : decode cX10_wipe 16 = .ok (.iload_n 1, 1) := by decide +kernel
theorem dX10_wipe_17 : decode cX10_wipe 17 = .ok (.ireturn, 1) := by decide +kernel
theorem dX10_interval_0 : decode cX10_interval 0 = .ok (.aload_n 0, 1) := by decide +kernel
theorem dX10_interval_1 : decode cX10_interval 1 = .ok (.getfield 42, 3) := by decide +kernel
theorem dX10_interval_4 : decode cX10_interval 4 = .ok (.aload_n 0, 1) := by decide +kernel
theorem dX10_interval_5 : decode cX10_interval 5 = .ok (.getfield 38, 3) := by decide +kernel
theorem dX10_interval_8 : decode cX10_interval 8 = .ok (.invokevirtual 161, 3) := by decide +kernel
theorem dX10_interval_11 : decode cX10_interval 11 = .ok (.aload_n 0, 1) := by decide +kernel
theorem dX10_interval_12 : decode cX10_interval 12 = .ok (.getfield 10, 3) := by decide +kernel
theorem dX10_interval_15 : decode cX10_interval 15 = .ok (.aload_n 0, 1) := by decide +kernel
theorem dX10_interval_16 : decode cX10_interval 16 = .ok (.getfield 42, 3) := by decide +kernel
theorem dX10_interval_19 : decode cX10_interval 19 = .ok (.invokevirtual 179, 3) := by decide +kernel
theorem dX10_interval_22 : decode cX10_interval 22 = .ok (.istore_n 1, 1) := by decide +kernel
theorem dX10_interval_23 : decode cX10_interval 23 = .ok (.iload_n 1, 1) := by decide +kernel
theorem dX10_interval_24 : decode cX10_interval 24 = .ok (.ifCond .lt 14, 3) := by decide +kernel
theorem dX10_interval_27 : decode cX10_interval 27 = .ok (.aload_n 0, 1) := by decide +kernel
theorem dX10_interval_28 : decode cX10_interval 28 = .ok (.getfield 38, 3) := by decide +kernel
theorem dX10_interval_31 : decode cX10_interval 31 = .ok (.aload_n 0, 1) := by decide +kernel
theorem dX10_interval_32 : decode cX10_interval 32 = .ok (.getfield 42, 3) := by decide +kernel
theorem dX10_interval_35 : decode cX10_interval 35 = .ok (.invokevirtual 161, 3) := by decide +kernel
theorem dX10_interval_38 : decode cX10_interval 38 = .ok (.aload_n 0, 1) := by decide +kernel
theorem dX10_interval_39 : decode cX10_interval 39 = .ok (.getfield 10, 3) := by decide +kernel
theorem dX10_interval_42 : decode cX10_interval 42 = .ok (.iconst 0, 1) := by decide +kernel
theorem dX10_interval_43 : decode cX10_interval 43 = .ok (.putfield 173, 3) := by decide +kernel
theorem dX10_interval_46 : decode cX10_interval 46 = .ok (.iload_n 1, 1) := by decide +kernel
theorem dX10_interval_47 : decode cX10_interval 47 = .ok (.ireturn, 1) := by decide +kernel
theorem dX10_sheet_0 : decode cX10_sheet 0 = .ok (.iload_n 1, 1) := by decide +kernel
theorem dX10_sheet_1 : decode cX10_sheet 1 = .ok (.invokestatic 183, 3) := by decide +kernel
theorem dX10_sheet_4 : decode cX10_sheet 4 = .ok (.ifCond .ne 25, 3) := by decide +kernel
theorem dX10_sheet_7 : decode cX10_sheet 7 = .ok (.iload_n 2, 1) := by decide +kernel
theorem dX10_sheet_8 : decode cX10_sheet 8 = .ok (.ifCond .eq 28, 3) := by decide +kernel
theorem dX10_sheet_11 : decode cX10_sheet 11 = .ok (.iload_n 2, 1) := by decide +kernel
theorem dX10_sheet_12 : decode cX10_sheet 12 = .ok (.bipush 8, 2) := by decide +kernel
theorem dX10_sheet_14 : decode cX10_sheet 14 = .ok (.if_icmp .eq 22, 3) := by decide +kernel
theorem dX10_sheet_17 : decode cX10_sheet 17 = .ok (.iload_n 2, 1) := by decide +kernel
theorem dX10_sheet_18 : decode cX10_sheet 18 = .ok (.bipush 16, 2) := by decide +kernel
theorem dX10_sheet_20 : decode cX10_sheet 20 = .ok (.if_icmp .eq 16, 3) := by decide +kernel
theorem dX10_sheet_23 : decode cX10_sheet 23 = .ok (.iload_n 2, 1) := by decide +kernel
theorem dX10_sheet_24 : decode cX10_sheet 24 = .ok (.bipush 64, 2) := by decide +kernel
theorem dX10_sheet_26 : decode cX10_sheet 26 = .ok (.if_icmp .eq 10, 3) := by decide +kernel
theorem dX10_sheet_29 : decode cX10_sheet 29 = .ok (.aload_n 0, 1) := by decide +kernel
theorem dX10_sheet_30 : decode cX10_sheet 30 = .ok (.ldc 57, 2) := by decide +kernel
theorem dX10_sheet_32 : decode cX10_sheet 32 = .ok (.invokevirtual 58, 3) := by decide +kernel
theorem dX10_sheet_35 : decode cX10_sheet 35 = .ok (.ireturn, 1) := by decide +kernel
theorem dX10_sheet_36 : decode cX10_sheet 36 = .ok (.iload_n 3, 1) := by decide +kernel
theorem dX10_sheet_37 : decode cX10_sheet 37 = .ok (.ifCond .ge 10, 3) := by decide +kernel
theorem dX10_sheet_40 : decode cX10_sheet 40 = .ok (.aload_n 0, 1) := by decide +kernel
theorem dX10_sheet_41 : decode cX10_sheet 41 = .ok (.ldc 186, 2) := by decide +kernel
theorem dX10_sheet_43 : decode cX10_sheet 43 = .ok (.invokevirtual 58, 3) := by decide +kernel
theorem dX10_sheet_46 : decode cX10_sheet 46 = .ok (.ireturn, 1) := by decide +kernel
theorem dX10_sheet_47 : decode cX10_sheet 47 = .ok (.iload_n 3, 1) := by decide +kernel
theorem dX10_sheet_48 : decode cX10_sheet 48 = .ok (.bipush 40, 2) := by decide +kernel
theorem dX10_sheet_50 : decode cX10_sheet 50 = .ok (.if_icmp .le 10, 3) := by decide +kernel
theorem dX10_sheet_53 : decode cX10_sheet 53 = .ok (.aload_n 0, 1) := by decide +kernel
theorem dX10_sheet_54 : decode cX10_sheet 54 = .ok (.ldc 57, 2) := by decide +kernel
theorem dX10_sheet_56 : decode cX10_sheet 56 = .ok (.invokevirtual 58, 3) := by decide +kernel
theorem dX10_sheet_59 : decode cX10_sheet 59 = .ok (.ireturn, 1) := by decide +kernel
theorem dX10_sheet_60 : decode cX10_sheet 60 = .ok (.aload_n 0, 1) := by decide +kernel
theorem dX10_sheet_61 : decode cX10_sheet 61 = .ok (.getfield 18, 3) := by decide +kernel
theorem dX10_sheet_64 : decode cX10_sheet 64 = .ok (.iload_n 1, 1) := by decide +kernel
theorem dX10_sheet_65 : decode cX10_sheet 65 = .ok (.aaload, 1) := by decide +kernel
theorem dX10_sheet_66 : decode cX10_sheet 66 = .ok (.iload_n 2, 1) := by decide +kernel
theorem dX10_sheet_67 : decode cX10_sheet 67 = .ok (.iload_n 3, 1) := by decide +kernel
theorem dX10_sheet_68 : decode cX10_sheet 68 = .ok (.invokevirtual 187, 3) := by decide +kernel
theorem dX10_sheet_71 : decode cX10_sheet 71 = .ok (.aload_n 0, 1) := by decide +kernel
theorem dX10_sheet_72 : decode cX10_sheet 72 = .ok (.getfield 18, 3) := by decide +kernel
theorem dX10_sheet_75 : decode cX10_sheet 75 = .ok (.iload_n 1, 1) := by decide +kernel
theorem dX10_sheet_76 : decode cX10_sheet 76 = .ok (.aaload, 1) := by decide +kernel
theorem dX10_sheet_77 : decode cX10_sheet 77 = .ok (.getfield 191, 3) := by decide +kernel
theorem dX10_sheet_80 : decode cX10_sheet 80 = .ok (.ireturn, 1) := by decide +kernel
theorem dX10_write_0 : decode cX10_write 0 = .ok (.aload_n 0, 1) := by decide +kernel
theorem dX10_write_1 : decode cX10_write 1 = .ok (.iload_n 1, 1) := by decide +kernel
theorem dX10_write_2 : decode cX10_write 2 = .ok (.invokevirtual 194, 3) := by decide +kernel
theorem dX10_write_5 : decode cX10_write 5 = .ok (.istore 5, 2) := by decide +kernel
theorem dX10_write_7 : decode cX10_write 7 = .ok (.iload 5, 2) := by decide +kernel
theorem dX10_write_9 : decode cX10_write 9 = .ok (.ifCond .eq 11, 3) := by decide +kernel
theorem dX10_write_12 : decode cX10_write 12 = .ok (.aload_n 0, 1) := by decide +kernel
theorem dX10_write_13 : decode cX10_write 13 = .ok (.iload 5, 2) := by decide +kernel
theorem dX10_write_15 : decode cX10_write 15 = .ok (.invokevirtual 58, 3) := by decide +kernel
theorem dX10_write_18 : decode cX10_write 18 = .ok (.i2l, 1) := by decide +kernel
theorem dX10_write_19 : decode cX10_write 19 = .ok (.lreturn, 1) := by decide +kernel
theorem dX10_write_20 : decode cX10_write 20 = .ok (.iload_n 2, 1) := by decide +kernel
theorem dX10_write_21 : decode cX10_write 21 = .ok (.iconst 0, 1) := by decide +kernel
theorem dX10_write_22 : decode cX10_write 22 = .ok (.aload_n 0, 1) := by decide +kernel
theorem dX10_write_23 : decode cX10_write 23 = .ok (.getfield 18, 3) := by decide +kernel
theorem dX10_write_26 : decode cX10_write 26 = .ok (.iload_n 1, 1) := by decide +kernel
theorem dX10_write_27 : decode cX10_write 27 = .ok (.aaload, 1) := by decide +kernel
theorem dX10_write_28 : decode cX10_write 28 = .ok (.getfield 191, 3) := by decide +kernel
theorem dX10_write_31 : decode cX10_write 31 = .ok (.iconst 1, 1) := by decide +kernel
theorem dX10_write_32 : decode cX10_write 32 = .ok (.isub, 1) := by decide +kernel
theorem dX10_write_33 : decode cX10_write 33 = .ok (.invokestatic 49, 3) := by decide +kernel
theorem dX10_write_36 : decode cX10_write 36 = .ok (.ifCond .eq 11, 3) := by decide +kernel
theorem dX10_write_39 : decode cX10_write 39 = .ok (.aload_n 0, 1) := by decide +kernel
theorem dX10_write_40 : decode cX10_write 40 = .ok (.ldc 57, 2) := by decide +kernel
theorem dX10_write_42 : decode cX10_write 42 = .ok (.invokevirtual 58, 3) := by decide +kernel
theorem dX10_write_45 : decode cX10_write 45 = .ok (.i2l, 1) := by decide +kernel
theorem dX10_write_46 : decode cX10_write 46 = .ok (.lreturn, 1) := by decide +kernel
theorem dX10_write_47 : decode cX10_write 47 = .ok (.aload_n 0, 1) := by decide +kernel
theorem dX10_write_48 : decode cX10_write 48 = .ok (.getfield 18, 3) := by decide +kernel
theorem dX10_write_51 : decode cX10_write 51 = .ok (.iload_n 1, 1) := by decide +kernel
theorem dX10_write_52 : decode cX10_write 52 = .ok (.aaload, 1) := by decide +kernel
theorem dX10_write_53 : decode cX10_write 53 = .ok (.getfield 197, 3) := by decide +kernel
theorem dX10_write_56 : decode cX10_write 56 = .ok (.iload_n 2, 1) := by decide +kernel
theorem dX10_write_57 : decode cX10_write 57 = .ok (.laload, 1) := by decide +kernel
theorem dX10_write_58 : decode cX10_write 58 = .ok (.lstore 6, 2) := by decide +kernel
theorem dX10_write_60 : decode cX10_write 60 = .ok (.aload_n 0, 1) := by decide +kernel
theorem dX10_write_61 : decode cX10_write 61 = .ok (.getfield 18, 3) := by decide +kernel
theorem dX10_write_64 : decode cX10_write 64 = .ok (.iload_n 1, 1) := by decide +kernel
theorem dX10_write_65 : decode cX10_write 65 = .ok (.aaload, 1) := by decide +kernel
theorem dX10_write_66 : decode cX10_write 66 = .ok (.getfield 197, 3) := by decide +kernel
theorem dX10_write_69 : decode cX10_write 69 = .ok (.iload_n 2, 1) := by decide +kernel
theorem dX10_write_70 : decode cX10_write 70 = .ok (.aload_n 0, 1) := by decide +kernel
theorem dX10_write_71 : decode cX10_write 71 = .ok (.getfield 18, 3) := by decide +kernel
theorem dX10_write_74 : decode cX10_write 74 = .ok (.iload_n 1, 1) := by decide +kernel
theorem dX10_write_75 : decode cX10_write 75 = .ok (.aaload, 1) := by decide +kernel
theorem dX10_write_76 : decode cX10_write 76 = .ok (.lload_n 3, 1) := by decide +kernel
theorem dX10_write_77 : decode cX10_write 77 = .ok (.invokevirtual 201, 3) := by decide +kernel
theorem dX10_write_80 : decode cX10_write 80 = .ok (.lastore, 1) := by decide +kernel
theorem dX10_write_81 : decode cX10_write 81 = .ok (.lload 6, 2) := by decide +kernel
theorem dX10_write_83 : decode cX10_write 83 = .ok (.lreturn, 1) := by decide +kernel
theorem dX10_copy_0 : decode cX10_copy 0 = .ok (.iload_n 1, 1) := by decide +kernel
theorem dX10_copy_1 : decode cX10_copy 1 = .ok (.invokestatic 183, 3) := by decide +kernel
theorem dX10_copy_4 : decode cX10_copy 4 = .ok (.ifCond .ne 10, 3) := by decide +kernel
theorem dX10_copy_7 : decode cX10_copy 7 = .ok (.iload_n 3, 1) := by decide +kernel
theorem dX10_copy_8 : decode cX10_copy 8 = .ok (.invokestatic 183, 3) := by decide +kernel
theorem dX10_copy_11 : decode cX10_copy 11 = .ok (.ifCond .eq 10, 3) := by decide +kernel
theorem dX10_copy_14 : decode cX10_copy 14 = .ok (.aload_n 0, 1) := by decide +kernel
theorem dX10_copy_15 : decode cX10_copy 15 = .ok (.ldc 57, 2) := by decide +kernel
theorem dX10_copy_17 : decode cX10_copy 17 = .ok (.invokevirtual 58, 3) := by decide +kernel
theorem dX10_copy_20 : decode cX10_copy 20 = .ok (.ireturn, 1) := by decide +kernel
theorem dX10_copy_21 : decode cX10_copy 21 = .ok (.aload_n 0, 1) := by decide +kernel
theorem dX10_copy_22 : decode cX10_copy 22 = .ok (.getfield 18, 3) := by decide +kernel
theorem dX10_copy_25 : decode cX10_copy 25 = .ok (.iload_n 1, 1) := by decide +kernel
theorem dX10_copy_26 : decode cX10_copy 26 = .ok (.aaload, 1) := by decide +kernel
theorem dX10_copy_27 : decode cX10_copy 27 = .ok (.invokevirtual 205, 3) := by decide +kernel
theorem dX10_copy_30 : decode cX10_copy 30 = .ok (.ifCond .ne 15, 3) := by decide +kernel
theorem dX10_copy_33 : decode cX10_copy 33 = .ok (.aload_n 0, 1) := by decide +kernel
theorem dX10_copy_34 : decode cX10_copy 34 = .ok (.getfield 18, 3) := by decide +kernel
theorem dX10_copy_37 : decode cX10_copy 37 = .ok (.iload_n 3, 1) := by decide +kernel
theorem dX10_copy_38 : decode cX10_copy 38 = .ok (.aaload, 1) := by decide +kernel
theorem dX10_copy_39 : decode cX10_copy 39 = .ok (.invokevirtual 205, 3) := by decide +kernel
theorem dX10_copy_42 : decode cX10_copy 42 = .ok (.ifCond .eq 10, 3) := by decide +kernel
theorem dX10_copy_45 : decode cX10_copy 45 = .ok (.aload_n 0, 1) := by decide +kernel
theorem dX10_copy_46 : decode cX10_copy 46 = .ok (.ldc 209, 2) := by decide +kernel
theorem dX10_copy_48 : decode cX10_copy 48 = .ok (.invokevirtual 58, 3) := by decide +kernel
theorem dX10_copy_51 : decode cX10_copy 51 = .ok (.ireturn, 1) := by decide +kernel
theorem dX10_copy_52 : decode cX10_copy 52 = .ok (.aload_n 0, 1) := by decide +kernel
theorem dX10_copy_53 : decode cX10_copy 53 = .ok (.getfield 18, 3) := by decide +kernel
theorem dX10_copy_56 : decode cX10_copy 56 = .ok (.iload_n 1, 1) := by decide +kernel
theorem dX10_copy_57 : decode cX10_copy 57 = .ok (.aaload, 1) := by decide +kernel
theorem dX10_copy_58 : decode cX10_copy 58 = .ok (.getfield 210, 3) := by decide +kernel
theorem dX10_copy_61 : decode cX10_copy 61 = .ok (.aload_n 0, 1) := by decide +kernel
theorem dX10_copy_62 : decode cX10_copy 62 = .ok (.getfield 18, 3) := by decide +kernel
theorem dX10_copy_65 : decode cX10_copy 65 = .ok (.iload_n 3, 1) := by decide +kernel
theorem dX10_copy_66 : decode cX10_copy 66 = .ok (.aaload, 1) := by decide +kernel
theorem dX10_copy_67 : decode cX10_copy 67 = .ok (.getfield 210, 3) := by decide +kernel
theorem dX10_copy_70 : decode cX10_copy 70 = .ok (.if_icmp .eq 10, 3) := by decide +kernel
theorem dX10_copy_73 : decode cX10_copy 73 = .ok (.aload_n 0, 1) := by decide +kernel
theorem dX10_copy_74 : decode cX10_copy 74 = .ok (.ldc 151, 2) := by decide +kernel
theorem dX10_copy_76 : decode cX10_copy 76 = .ok (.invokevirtual 58, 3) := by decide +kernel
theorem dX10_copy_79 : decode cX10_copy 79 = .ok (.ireturn, 1) := by decide +kernel
theorem dX10_copy_80 : decode cX10_copy 80 = .ok (.aload_n 0, 1) := by decide +kernel
theorem dX10_copy_81 : decode cX10_copy 81 = .ok (.getfield 18, 3) := by decide +kernel
theorem dX10_copy_84 : decode cX10_copy 84 = .ok (.iload_n 1, 1) := by decide +kernel
theorem dX10_copy_85 : decode cX10_copy 85 = .ok (.aaload, 1) := by decide +kernel
theorem dX10_copy_86 : decode cX10_copy 86 = .ok (.iload_n 2, 1) := by decide +kernel
theorem dX10_copy_87 : decode cX10_copy 87 = .ok (.iload 5, 2) := by decide +kernel
theorem dX10_copy_89 : decode cX10_copy 89 = .ok (.invokevirtual 213, 3) := by decide +kernel
theorem dX10_copy_92 : decode cX10_copy 92 = .ok (.ifCond .eq 19, 3) := by decide +kernel
theorem dX10_copy_95 : decode cX10_copy 95 = .ok (.aload_n 0, 1) := by decide +kernel
theorem dX10_copy_96 : decode cX10_copy 96 = .ok (.getfield 18, 3) := by decide +kernel
theorem dX10_copy_99 : decode cX10_copy 99 = .ok (.iload_n 3, 1) := by decide +kernel
theorem dX10_copy_100 : decode cX10_copy 100 = .ok (.aaload, 1) := by decide +kernel
theorem dX10_copy_101 : decode cX10_copy 101 = .ok (.iload 4, 2) := by decide +kernel
theorem dX10_copy_103 : decode cX10_copy 103 = .ok (.iload 5, 2) := by decide +kernel
theorem dX10_copy_105 : decode cX10_copy 105 = .ok (.invokevirtual 213, 3) := by decide +kernel
theorem dX10_copy_108 : decode cX10_copy 108 = .ok (.ifCond .ne 10, 3) := by decide +kernel
theorem dX10_copy_111 : decode cX10_copy 111 = .ok (.aload_n 0, 1) := by decide +kernel
theorem dX10_copy_112 : decode cX10_copy 112 = .ok (.ldc 57, 2) := by decide +kernel
theorem dX10_copy_114 : decode cX10_copy 114 = .ok (.invokevirtual 58, 3) := by decide +kernel
theorem dX10_copy_117 : decode cX10_copy 117 = .ok (.ireturn, 1) := by decide +kernel
theorem dX10_copy_118 : decode cX10_copy 118 = .ok (.aload_n 0, 1) := by decide +kernel
theorem dX10_copy_119 : decode cX10_copy 119 = .ok (.getfield 18, 3) := by decide +kernel
theorem dX10_copy_122 : decode cX10_copy 122 = .ok (.iload_n 1, 1) := by decide +kernel
theorem dX10_copy_123 : decode cX10_copy 123 = .ok (.aaload, 1) := by decide +kernel
theorem dX10_copy_124 : decode cX10_copy 124 = .ok (.getfield 197, 3) := by decide +kernel
theorem dX10_copy_127 : decode cX10_copy 127 = .ok (.iload_n 2, 1) := by decide +kernel
theorem dX10_copy_128 : decode cX10_copy 128 = .ok (.aload_n 0, 1) := by decide +kernel
theorem dX10_copy_129 : decode cX10_copy 129 = .ok (.getfield 18, 3) := by decide +kernel
theorem dX10_copy_132 : decode cX10_copy 132 = .ok (.iload_n 3, 1) := by decide +kernel
theorem dX10_copy_133 : decode cX10_copy 133 = .ok (.aaload, 1) := by decide +kernel
theorem dX10_copy_134 : decode cX10_copy 134 = .ok (.getfield 197, 3) := by decide +kernel
theorem dX10_copy_137 : decode cX10_copy 137 = .ok (.iload 4, 2) := by decide +kernel
theorem dX10_copy_139 : decode cX10_copy 139 = .ok (.iload 5, 2) := by decide +kernel
theorem dX10_copy_141 : decode cX10_copy 141 = .ok (.invokestatic 216, 3) := by decide +kernel
theorem dX10_copy_144 : decode cX10_copy 144 = .ok (.iload 5, 2) := by decide +kernel
theorem dX10_copy_146 : decode cX10_copy 146 = .ok (.ireturn, 1) := by decide +kernel
theorem dX10_lays_0 : decode cX10_lays 0 = .ok (.aload_n 0, 1) := by decide +kernel
theorem dX10_lays_1 : decode cX10_lays 1 = .ok (.iload_n 1, 1) := by decide +kernel
theorem dX10_lays_2 : decode cX10_lays 2 = .ok (.invokevirtual 194, 3) := by decide +kernel
theorem dX10_lays_5 : decode cX10_lays 5 = .ok (.istore_n 2, 1) := by decide +kernel
theorem dX10_lays_6 : decode cX10_lays 6 = .ok (.iload_n 2, 1) := by decide +kernel
theorem dX10_lays_7 : decode cX10_lays 7 = .ok (.ifCond .eq 9, 3) := by decide +kernel
theorem dX10_lays_10 : decode cX10_lays 10 = .ok (.aload_n 0, 1) := by decide +kernel
theorem dX10_lays_11 : decode cX10_lays 11 = .ok (.iload_n 2, 1) := by decide +kernel
theorem dX10_lays_12 : decode cX10_lays 12 = .ok (.invokevirtual 58, 3) := by decide +kernel
theorem dX10_lays_15 : decode cX10_lays 15 = .ok (.ireturn, 1) := by decide +kernel
theorem dX10_lays_16 : decode cX10_lays 16 = .ok (.iconst 0, 1) := by decide +kernel
theorem dX10_lays_17 : decode cX10_lays 17 = .ok (.istore_n 3, 1) := by decide +kernel
theorem dX10_lays_18 : decode cX10_lays 18 = .ok (.iconst 0, 1) := by decide +kernel
theorem dX10_lays_19 : decode cX10_lays 19 = .ok (.istore 4, 2) := by decide +kernel
theorem dX10_lays_21 : decode cX10_lays 21 = .ok (.iload 4, 2) := by decide +kernel
theorem dX10_lays_23 : decode cX10_lays 23 = .ok (.bipush 6, 2) := by decide +kernel
theorem dX10_lays_25 : decode cX10_lays 25 = .ok (.if_icmp .ge 69, 3) := by decide +kernel
theorem dX10_lays_28 : decode cX10_lays 28 = .ok (.iload 4, 2) := by decide +kernel
theorem dX10_lays_30 : decode cX10_lays 30 = .ok (.aload_n 0, 1) := by decide +kernel
theorem dX10_lays_31 : decode cX10_lays 31 = .ok (.getfield 18, 3) := by decide +kernel
theorem dX10_lays_34 : decode cX10_lays 34 = .ok (.iload_n 1, 1) := by decide +kernel
theorem dX10_lays_35 : decode cX10_lays 35 = .ok (.aaload, 1) := by decide +kernel
theorem dX10_lays_36 : decode cX10_lays 36 = .ok (.getfield 191, 3) := by decide +kernel
theorem dX10_lays_39 : decode cX10_lays 39 = .ok (.if_icmp .ge 55, 3) := by decide +kernel
theorem dX10_lays_42 : decode cX10_lays 42 = .ok (.aload_n 0, 1) := by decide +kernel
theorem dX10_lays_43 : decode cX10_lays 43 = .ok (.getfield 18, 3) := by decide +kernel
theorem dX10_lays_46 : decode cX10_lays 46 = .ok (.iload_n 1, 1) := by decide +kernel
theorem dX10_lays_47 : decode cX10_lays 47 = .ok (.aaload, 1) := by decide +kernel
theorem dX10_lays_48 : decode cX10_lays 48 = .ok (.getfield 197, 3) := by decide +kernel
theorem dX10_lays_51 : decode cX10_lays 51 = .ok (.iload 4, 2) := by decide +kernel
theorem dX10_lays_53 : decode cX10_lays 53 = .ok (.laload, 1) := by decide +kernel
theorem dX10_lays_54 : decode cX10_lays 54 = .ok (.lstore 5, 2) := by decide +kernel
theorem dX10_lays_56 : decode cX10_lays 56 = .ok (.lload 5, 2) := by decide +kernel
theorem dX10_lays_58 : decode cX10_lays 58 = .ok (.lconst 0, 1) := by decide +kernel
theorem dX10_lays_59 : decode cX10_lays 59 = .ok (.lcmp, 1) := by decide +kernel
theorem dX10_lays_60 : decode cX10_lays 60 = .ok (.ifCond .lt 28, 3) := by decide +kernel
theorem dX10_lays_63 : decode cX10_lays 63 = .ok (.lload 5, 2) := by decide +kernel
theorem dX10_lays_65 : decode cX10_lays 65 = .ok (.ldc2_w 222, 3) := by decide +kernel
theorem dX10_lays_68 : decode cX10_lays 68 = .ok (.lcmp, 1) := by decide +kernel
theorem dX10_lays_69 : decode cX10_lays 69 = .ok (.ifCond .gt 19, 3) := by decide +kernel
theorem dX10_lays_72 : decode cX10_lays 72 = .ok (.aload_n 0, 1) := by decide +kernel
theorem dX10_lays_73 : decode cX10_lays 73 = .ok (.getfield 38, 3) := by decide +kernel
theorem dX10_lays_76 : decode cX10_lays 76 = .ok (.getfield 62, 3) := by decide +kernel
theorem dX10_lays_79 : decode cX10_lays 79 = .ok (.iload 4, 2) := by decide +kernel
theorem dX10_lays_81 : decode cX10_lays 81 = .ok (.lload 5, 2) := by decide +kernel
theorem dX10_lays_83 : decode cX10_lays 83 = .ok (.l2i, 1) := by decide +kernel
theorem dX10_lays_84 : decode cX10_lays 84 = .ok (.iastore, 1) := by decide +kernel
theorem dX10_lays_85 : decode cX10_lays 85 = .ok (.iinc 3 1, 3) := by decide +kernel
theorem dX10_lays_88 : decode cX10_lays 88 = .ok (.iinc 4 1, 3) := by decide +kernel
theorem dX10_lays_91 : decode cX10_lays 91 = .ok (.goto (-70), 3) := by decide +kernel
theorem dX10_lays_94 : decode cX10_lays 94 = .ok (.iload_n 3, 1) := by decide +kernel
theorem dX10_lays_95 : decode cX10_lays 95 = .ok (.ireturn, 1) := by decide +kernel
theorem dX10_book_0 : decode cX10_book 0 = .ok (.aload_n 0, 1) := by decide +kernel
theorem dX10_book_1 : decode cX10_book 1 = .ok (.iload_n 1, 1) := by decide +kernel
theorem dX10_book_2 : decode cX10_book 2 = .ok (.invokevirtual 194, 3) := by decide +kernel
theorem dX10_book_5 : decode cX10_book 5 = .ok (.istore_n 3, 1) := by decide +kernel
theorem dX10_book_6 : decode cX10_book 6 = .ok (.iload_n 3, 1) := by decide +kernel
theorem dX10_book_7 : decode cX10_book 7 = .ok (.ifCond .eq 9, 3) := by decide +kernel
theorem dX10_book_10 : decode cX10_book 10 = .ok (.aload_n 0, 1) := by decide +kernel
theorem dX10_book_11 : decode cX10_book 11 = .ok (.iload_n 3, 1) := by decide +kernel
theorem dX10_book_12 : decode cX10_book 12 = .ok (.invokevirtual 58, 3) := by decide +kernel
theorem dX10_book_15 : decode cX10_book 15 = .ok (.ireturn, 1) := by decide +kernel
theorem dX10_book_16 : decode cX10_book 16 = .ok (.aload_n 0, 1) := by decide +kernel
theorem dX10_book_17 : decode cX10_book 17 = .ok (.iload_n 2, 1) := by decide +kernel
theorem dX10_book_18 : decode cX10_book 18 = .ok (.invokevirtual 106, 3) := by decide +kernel
theorem dX10_book_21 : decode cX10_book 21 = .ok (.ifCond .eq 10, 3) := by decide +kernel
theorem dX10_book_24 : decode cX10_book 24 = .ok (.aload_n 0, 1) := by decide +kernel
theorem dX10_book_25 : decode cX10_book 25 = .ok (.ldc 57, 2) := by decide +kernel
theorem dX10_book_27 : decode cX10_book 27 = .ok (.invokevirtual 58, 3) := by decide +kernel
theorem dX10_book_30 : decode cX10_book 30 = .ok (.ireturn, 1) := by decide +kernel
theorem dX10_book_31 : decode cX10_book 31 = .ok (.aload_n 0, 1) := by decide +kernel
theorem dX10_book_32 : decode cX10_book 32 = .ok (.getfield 42, 3) := by decide +kernel
theorem dX10_book_35 : decode cX10_book 35 = .ok (.aload_n 0, 1) := by decide +kernel
theorem dX10_book_36 : decode cX10_book 36 = .ok (.getfield 38, 3) := by decide +kernel
theorem dX10_book_39 : decode cX10_book 39 = .ok (.invokevirtual 161, 3) := by decide +kernel
theorem dX10_book_42 : decode cX10_book 42 = .ok (.iconst 0, 1) := by decide +kernel
theorem dX10_book_43 : decode cX10_book 43 = .ok (.istore 4, 2) := by decide +kernel
theorem dX10_book_45 : decode cX10_book 45 = .ok (.iload 4, 2) := by decide +kernel
theorem dX10_book_47 : decode cX10_book 47 = .ok (.aload_n 0, 1) := by decide +kernel
theorem dX10_book_48 : decode cX10_book 48 = .ok (.getfield 18, 3) := by decide +kernel
theorem dX10_book_51 : decode cX10_book 51 = .ok (.iload_n 1, 1) := by decide +kernel
theorem dX10_book_52 : decode cX10_book 52 = .ok (.aaload, 1) := by decide +kernel
theorem dX10_book_53 : decode cX10_book 53 = .ok (.getfield 191, 3) := by decide +kernel
theorem dX10_book_56 : decode cX10_book 56 = .ok (.if_icmp .ge 38, 3) := by decide +kernel
theorem dX10_book_59 : decode cX10_book 59 = .ok (.aload_n 0, 1) := by decide +kernel
theorem dX10_book_60 : decode cX10_book 60 = .ok (.getfield 18, 3) := by decide +kernel
theorem dX10_book_63 : decode cX10_book 63 = .ok (.iload_n 1, 1) := by decide +kernel
theorem dX10_book_64 : decode cX10_book 64 = .ok (.aaload, 1) := by decide +kernel
theorem dX10_book_65 : decode cX10_book 65 = .ok (.getfield 197, 3) := by decide +kernel
theorem dX10_book_68 : decode cX10_book 68 = .ok (.iload 4, 2) := by decide +kernel
theorem dX10_book_70 : decode cX10_book 70 = .ok (.aload_n 0, 1) := by decide +kernel
theorem dX10_book_71 : decode cX10_book 71 = .ok (.getfield 42, 3) := by decide +kernel
theorem dX10_book_74 : decode cX10_book 74 = .ok (.getfield 112, 3) := by decide +kernel
theorem dX10_book_77 : decode cX10_book 77 = .ok (.iload_n 2, 1) := by decide +kernel
theorem dX10_book_78 : decode cX10_book 78 = .ok (.iaload, 1) := by decide +kernel
theorem dX10_book_79 : decode cX10_book 79 = .ok (.i2l, 1) := by decide +kernel
theorem dX10_book_80 : decode cX10_book 80 = .ok (.lastore, 1) := by decide +kernel
theorem dX10_book_81 : decode cX10_book 81 = .ok (.aload_n 0, 1) := by decide +kernel
theorem dX10_book_82 : decode cX10_book 82 = .ok (.getfield 42, 3) := by decide +kernel
theorem dX10_book_85 : decode cX10_book 85 = .ok (.invokevirtual 165, 3) := by decide +kernel
theorem dX10_book_88 : decode cX10_book 88 = .ok (.iinc 4 1, 3) := by decide +kernel
theorem dX10_book_91 : decode cX10_book 91 = .ok (.goto (-46), 3) := by decide +kernel
theorem dX10_book_94 : decode cX10_book 94 = .ok (.aload_n 0, 1) := by decide +kernel
theorem dX10_book_95 : decode cX10_book 95 = .ok (.getfield 18, 3) := by decide +kernel
theorem dX10_book_98 : decode cX10_book 98 = .ok (.iload_n 1, 1) := by decide +kernel
theorem dX10_book_99 : decode cX10_book 99 = .ok (.aaload, 1) := by decide +kernel
theorem dX10_book_100 : decode cX10_book 100 = .ok (.getfield 191, 3) := by decide +kernel
theorem dX10_book_103 : decode cX10_book 103 = .ok (.ireturn, 1) := by decide +kernel
theorem dX10_read_0 : decode cX10_read 0 = .ok (.aload_n 0, 1) := by decide +kernel
theorem dX10_read_1 : decode cX10_read 1 = .ok (.iload_n 1, 1) := by decide +kernel
theorem dX10_read_2 : decode cX10_read 2 = .ok (.invokevirtual 194, 3) := by decide +kernel
theorem dX10_read_5 : decode cX10_read 5 = .ok (.istore_n 3, 1) := by decide +kernel
theorem dX10_read_6 : decode cX10_read 6 = .ok (.iload_n 3, 1) := by decide +kernel
theorem dX10_read_7 : decode cX10_read 7 = .ok (.ifCond .eq 9, 3) := by decide +kernel
theorem dX10_read_10 : decode cX10_read 10 = .ok (.aload_n 0, 1) := by decide +kernel
theorem dX10_read_11 : decode cX10_read 11 = .ok (.iload_n 3, 1) := by decide +kernel
theorem dX10_read_12 : decode cX10_read 12 = .ok (.invokevirtual 58, 3) := by decide +kernel
theorem dX10_read_15 : decode cX10_read 15 = .ok (.ireturn, 1) := by decide +kernel
theorem dX10_read_16 : decode cX10_read 16 = .ok (.aload_n 0, 1) := by decide +kernel
theorem dX10_read_17 : decode cX10_read 17 = .ok (.iload_n 2, 1) := by decide +kernel
theorem dX10_read_18 : decode cX10_read 18 = .ok (.invokevirtual 106, 3) := by decide +kernel
theorem dX10_read_21 : decode cX10_read 21 = .ok (.ifCond .eq 10, 3) := by decide +kernel
theorem dX10_read_24 : decode cX10_read 24 = .ok (.aload_n 0, 1) := by decide +kernel
theorem dX10_read_25 : decode cX10_read 25 = .ok (.ldc 57, 2) := by decide +kernel
theorem dX10_read_27 : decode cX10_read 27 = .ok (.invokevirtual 58, 3) := by decide +kernel
theorem dX10_read_30 : decode cX10_read 30 = .ok (.ireturn, 1) := by decide +kernel
theorem dX10_read_31 : decode cX10_read 31 = .ok (.iconst 0, 1) := by decide +kernel
theorem dX10_read_32 : decode cX10_read 32 = .ok (.istore 4, 2) := by decide +kernel
theorem dX10_read_34 : decode cX10_read 34 = .ok (.iconst 0, 1) := by decide +kernel
theorem dX10_read_35 : decode cX10_read 35 = .ok (.istore 5, 2) := by decide +kernel
theorem dX10_read_37 : decode cX10_read 37 = .ok (.iload 5, 2) := by decide +kernel
theorem dX10_read_39 : decode cX10_read 39 = .ok (.bipush 6, 2) := by decide +kernel
theorem dX10_read_41 : decode cX10_read 41 = .ok (.if_icmp .ge 74, 3) := by decide +kernel
theorem dX10_read_44 : decode cX10_read 44 = .ok (.iconst 1, 1) := by decide +kernel
theorem dX10_read_45 : decode cX10_read 45 = .ok (.istore 6, 2) := by decide +kernel
theorem dX10_read_47 : decode cX10_read 47 = .ok (.iload 6, 2) := by decide +kernel
theorem dX10_read_49 : decode cX10_read 49 = .ok (.iconst 4, 1) := by decide +kernel
theorem dX10_read_50 : decode cX10_read 50 = .ok (.if_icmp .gt 59, 3) := by decide +kernel
theorem dX10_read_53 : decode cX10_read 53 = .ok (.aload_n 0, 1) := by decide +kernel
theorem dX10_read_54 : decode cX10_read 54 = .ok (.getfield 42, 3) := by decide +kernel
theorem dX10_read_57 : decode cX10_read 57 = .ok (.aload_n 0, 1) := by decide +kernel
theorem dX10_read_58 : decode cX10_read 58 = .ok (.getfield 38, 3) := by decide +kernel
theorem dX10_read_61 : decode cX10_read 61 = .ok (.invokevirtual 161, 3) := by decide +kernel
theorem dX10_read_64 : decode cX10_read 64 = .ok (.aload_n 0, 1) := by decide +kernel
theorem dX10_read_65 : decode cX10_read 65 = .ok (.getfield 42, 3) := by decide +kernel
theorem dX10_read_68 : decode cX10_read 68 = .ok (.getfield 109, 3) := by decide +kernel
theorem dX10_read_71 : decode cX10_read 71 = .ok (.iload_n 2, 1) := by decide +kernel
theorem dX10_read_72 : decode cX10_read 72 = .ok (.iload 5, 2) := by decide +kernel
theorem dX10_read_74 : decode cX10_read 74 = .ok (.iastore, 1) := by decide +kernel
theorem dX10_read_75 : decode cX10_read 75 = .ok (.aload_n 0, 1) := by decide +kernel
theorem dX10_read_76 : decode cX10_read 76 = .ok (.getfield 42, 3) := by decide +kernel
theorem dX10_read_79 : decode cX10_read 79 = .ok (.getfield 115, 3) := by decide +kernel
theorem dX10_read_82 : decode cX10_read 82 = .ok (.iload_n 2, 1) := by decide +kernel
theorem dX10_read_83 : decode cX10_read 83 = .ok (.iload 6, 2) := by decide +kernel
theorem dX10_read_85 : decode cX10_read 85 = .ok (.iastore, 1) := by decide +kernel
theorem dX10_read_86 : decode cX10_read 86 = .ok (.aload_n 0, 1) := by decide +kernel
theorem dX10_read_87 : decode cX10_read 87 = .ok (.aload_n 0, 1) := by decide +kernel
theorem dX10_read_88 : decode cX10_read 88 = .ok (.getfield 18, 3) := by decide +kernel
theorem dX10_read_91 : decode cX10_read 91 = .ok (.iload_n 1, 1) := by decide +kernel
theorem dX10_read_92 : decode cX10_read 92 = .ok (.aaload, 1) := by decide +kernel
theorem dX10_read_93 : decode cX10_read 93 = .ok (.iload_n 2, 1) := by decide +kernel
theorem dX10_read_94 : decode cX10_read 94 = .ok (.invokevirtual 224, 3) := by decide +kernel
theorem dX10_read_97 : decode cX10_read 97 = .ok (.ifCond .eq 6, 3) := by decide +kernel
theorem dX10_read_100 : decode cX10_read 100 = .ok (.iinc 4 1, 3) := by decide +kernel
theorem dX10_read_103 : decode cX10_read 103 = .ok (.iinc 6 1, 3) := by decide +kernel
theorem dX10_read_106 : decode cX10_read 106 = .ok (.goto (-59), 3) := by decide +kernel
theorem dX10_read_109 : decode cX10_read 109 = .ok (.iinc 5 1, 3) := by decide +kernel
theorem dX10_read_112 : decode cX10_read 112 = .ok (.goto (-75), 3) := by decide +kernel
theorem dX10_read_115 : decode cX10_read 115 = .ok (.iload 4, 2) := by decide +kernel
theorem dX10_read_117 : decode cX10_read 117 = .ok (.ireturn, 1) := by decide +kernel
theorem dX10_image_0 : decode cX10_image 0 = .ok (.aload_n 0, 1) := by decide +kernel
theorem dX10_image_1 : decode cX10_image 1 = .ok (.getfield 45, 3) := by decide +kernel
theorem dX10_image_4 : decode cX10_image 4 = .ok (.aload_n 0, 1) := by decide +kernel
theorem dX10_image_5 : decode cX10_image 5 = .ok (.getfield 38, 3) := by decide +kernel
theorem dX10_image_8 : decode cX10_image 8 = .ok (.invokevirtual 161, 3) := by decide +kernel
theorem dX10_image_11 : decode cX10_image 11 = .ok (.aload_n 0, 1) := by decide +kernel
theorem dX10_image_12 : decode cX10_image 12 = .ok (.iconst 1, 1) := by decide +kernel
theorem dX10_image_13 : decode cX10_image 13 = .ok (.putfield 26, 3) := by decide +kernel
theorem dX10_image_16 : decode cX10_image 16 = .ok (.iconst 1, 1) := by decide +kernel
theorem dX10_image_17 : decode cX10_image 17 = .ok (.ireturn, 1) := by decide +kernel
theorem dX10_undo_0 : decode cX10_undo 0 = .ok (.aload_n 0, 1) := by decide +kernel
theorem dX10_undo_1 : decode cX10_undo 1 = .ok (.getfield 26, 3) := by decide +kernel
theorem dX10_undo_4 : decode cX10_undo 4 = .ok (.ifCond .ne 10, 3) := by decide +kernel
theorem dX10_undo_7 : decode cX10_undo 7 = .ok (.aload_n 0, 1) := by decide +kernel
theorem dX10_undo_8 : decode cX10_undo 8 = .ok (.ldc 168, 2) := by decide +kernel
theorem dX10_undo_10 : decode cX10_undo 10 = .ok (.invokevirtual 58, 3) := by decide +kernel
theorem dX10_undo_13 : decode cX10_undo 13 = .ok (.ireturn, 1) := by decide +kernel
theorem dX10_undo_14 : decode cX10_undo 14 = .ok (.aload_n 0, 1) := by decide +kernel
theorem dX10_undo_15 : decode cX10_undo 15 = .ok (.getfield 38, 3) := by decide +kernel
theorem dX10_undo_18 : decode cX10_undo 18 = .ok (.aload_n 0, 1) := by decide +kernel
theorem dX10_undo_19 : decode cX10_undo 19 = .ok (.getfield 45, 3) := by decide +kernel
theorem dX10_undo_22 : decode cX10_undo 22 = .ok (.invokevirtual 161, 3) := by decide +kernel
theorem dX10_undo_25 : decode cX10_undo 25 = .ok (.aload_n 0, 1) := by decide +kernel
theorem dX10_undo_26 : decode cX10_undo 26 = .ok (.getfield 38, 3) := by decide +kernel
theorem dX10_undo_29 : decode cX10_undo 29 = .ok (.getfield 98, 3) := by decide +kernel
theorem dX10_undo_32 : decode cX10_undo 32 = .ok (.ireturn, 1) := by decide +kernel
theorem dX10_tear_0 : decode cX10_tear 0 = .ok (.aload_n 0, 1) := by decide +kernel
theorem dX10_tear_1 : decode cX10_tear 1 = .ok (.getfield 26, 3) := by decide +kernel
theorem dX10_tear_4 : decode cX10_tear 4 = .ok (.ifCond .eq 7, 3) := by decide +kernel
theorem dX10_tear_7 : decode cX10_tear 7 = .ok (.iconst 1, 1) := by decide +kernel
theorem dX10_tear_8 : decode cX10_tear 8 = .ok (.goto 4, 3) := by decide +kernel
theorem dX10_tear_11 : decode cX10_tear 11 = .ok (.iconst 0, 1) := by decide +kernel
theorem dX10_tear_12 : decode cX10_tear 12 = .ok (.istore_n 1, 1) := by decide +kernel
theorem dX10_tear_13 : decode cX10_tear 13 = .ok (.aload_n 0, 1) := by decide +kernel
theorem dX10_tear_14 : decode cX10_tear 14 = .ok (.iconst 0, 1) := by decide +kernel
theorem dX10_tear_15 : decode cX10_tear 15 = .ok (.putfield 26, 3) := by decide +kernel
theorem dX10_tear_18 : decode cX10_tear 18 = .ok (.iload_n 1, 1) := by decide +kernel
theorem dX10_tear_19 : decode cX10_tear 19 = .ok (.ireturn, 1) := by decide +kernel
theorem dX10_count_0 : decode cX10_count 0 = .ok (.iload_n 1, 1) := by decide +kernel
theorem dX10_count_1 : decode cX10_count 1 = .ok (.tableswitch 77 0 3 #[31, 39, 47, 62], 31) := by decide +kernel
theorem dX10_count_32 : decode cX10_count 32 = .ok (.aload_n 0, 1) := by decide +kernel
theorem dX10_count_33 : decode cX10_count 33 = .ok (.getfield 38, 3) := by decide +kernel
theorem dX10_count_36 : decode cX10_count 36 = .ok (.getfield 98, 3) := by decide +kernel
theorem dX10_count_39 : decode cX10_count 39 = .ok (.ireturn, 1) := by decide +kernel
theorem dX10_count_40 : decode cX10_count 40 = .ok (.aload_n 0, 1) := by decide +kernel
theorem dX10_count_41 : decode cX10_count 41 = .ok (.getfield 10, 3) := by decide +kernel
theorem dX10_count_44 : decode cX10_count 44 = .ok (.getfield 173, 3) := by decide +kernel
theorem dX10_count_47 : decode cX10_count 47 = .ok (.ireturn, 1) := by decide +kernel
theorem dX10_count_48 : decode cX10_count 48 = .ok (.aload_n 0, 1) := by decide +kernel
theorem dX10_count_49 : decode cX10_count 49 = .ok (.getfield 38, 3) := by decide +kernel
theorem dX10_count_52 : decode cX10_count 52 = .ok (.aload_n 0, 1) := by decide +kernel
theorem dX10_count_53 : decode cX10_count 53 = .ok (.getfield 38, 3) := by decide +kernel
theorem dX10_count_56 : decode cX10_count 56 = .ok (.getfield 118, 3) := by decide +kernel
theorem dX10_count_59 : decode cX10_count 59 = .ok (.invokevirtual 228, 3) := by decide +kernel
theorem dX10_count_62 : decode cX10_count 62 = .ok (.ireturn, 1) := by decide +kernel
theorem dX10_count_63 : decode cX10_count 63 = .ok (.aload_n 0, 1) := by decide +kernel
theorem dX10_count_64 : decode cX10_count 64 = .ok (.getfield 38, 3) := by decide +kernel
theorem dX10_count_67 : decode cX10_count 67 = .ok (.aload_n 0, 1) := by decide +kernel
theorem dX10_count_68 : decode cX10_count 68 = .ok (.getfield 38, 3) := by decide +kernel
theorem dX10_count_71 : decode cX10_count 71 = .ok (.getfield 121, 3) := by decide +kernel
theorem dX10_count_74 : decode cX10_count 74 = .ok (.invokevirtual 228, 3) := by decide +kernel
theorem dX10_count_77 : decode cX10_count 77 = .ok (.ireturn, 1) := by decide +kernel
theorem dX10_count_78 : decode cX10_count 78 = .ok (.aload_n 0, 1) := by decide +kernel
theorem dX10_count_79 : decode cX10_count 79 = .ok (.ldc 57, 2) := by decide +kernel
theorem dX10_count_81 : decode cX10_count 81 = .ok (.invokevirtual 58, 3) := by decide +kernel
theorem dX10_count_84 : decode cX10_count 84 = .ok (.ireturn, 1) := by decide +kernel
theorem dX10_status_0 : decode cX10_status 0 = .ok (.iload_n 1, 1) := by decide +kernel
theorem dX10_status_1 : decode cX10_status 1 = .ok (.iconst (-1), 1) := by decide +kernel
theorem dX10_status_2 : decode cX10_status 2 = .ok (.bipush 6, 2) := by decide +kernel
theorem dX10_status_4 : decode cX10_status 4 = .ok (.invokestatic 49, 3) := by decide +kernel
theorem dX10_status_7 : decode cX10_status 7 = .ok (.ifCond .eq 10, 3) := by decide +kernel
theorem dX10_status_10 : decode cX10_status 10 = .ok (.aload_n 0, 1) := by decide +kernel
theorem dX10_status_11 : decode cX10_status 11 = .ok (.ldc 57, 2) := by decide +kernel
theorem dX10_status_13 : decode cX10_status 13 = .ok (.invokevirtual 58, 3) := by decide +kernel
theorem dX10_status_16 : decode cX10_status 16 = .ok (.ireturn, 1) := by decide +kernel
theorem dX10_status_17 : decode cX10_status 17 = .ok (.iload_n 1, 1) := by decide +kernel
theorem dX10_status_18 : decode cX10_status 18 = .ok (.ifCond .lt 10, 3) := by decide +kernel
theorem dX10_status_21 : decode cX10_status 21 = .ok (.aload_n 0, 1) := by decide +kernel
theorem dX10_status_22 : decode cX10_status 22 = .ok (.getfield 22, 3) := by decide +kernel
theorem dX10_status_25 : decode cX10_status 25 = .ok (.iload_n 1, 1) := by decide +kernel
theorem dX10_status_26 : decode cX10_status 26 = .ok (.iaload, 1) := by decide +kernel
theorem dX10_status_27 : decode cX10_status 27 = .ok (.ireturn, 1) := by decide +kernel
theorem dX10_status_28 : decode cX10_status 28 = .ok (.iconst 0, 1) := by decide +kernel
theorem dX10_status_29 : decode cX10_status 29 = .ok (.istore_n 2, 1) := by decide +kernel
theorem dX10_status_30 : decode cX10_status 30 = .ok (.iconst 0, 1) := by decide +kernel
theorem dX10_status_31 : decode cX10_status 31 = .ok (.istore_n 3, 1) := by decide +kernel
theorem dX10_status_32 : decode cX10_status 32 = .ok (.iload_n 3, 1) := by decide +kernel
theorem dX10_status_33 : decode cX10_status 33 = .ok (.bipush 7, 2) := by decide +kernel
theorem dX10_status_35 : decode cX10_status 35 = .ok (.if_icmp .ge 18, 3) := by decide +kernel
theorem dX10_status_38 : decode cX10_status 38 = .ok (.iload_n 2, 1) := by decide +kernel
theorem dX10_status_39 : decode cX10_status 39 = .ok (.aload_n 0, 1) := by decide +kernel
theorem dX10_status_40 : decode cX10_status 40 = .ok (.getfield 22, 3) := by decide +kernel
theorem dX10_status_43 : decode cX10_status 43 = .ok (.iload_n 3, 1) := by decide +kernel
theorem dX10_status_44 : decode cX10_status 44 = .ok (.iaload, 1) := by decide +kernel
theorem dX10_status_45 : decode cX10_status 45 = .ok (.iadd, 1) := by decide +kernel
theorem dX10_status_46 : decode cX10_status 46 = .ok (.istore_n 2, 1) := by decide +kernel
theorem dX10_status_47 : decode cX10_status 47 = .ok (.iinc 3 1, 3) := by decide +kernel
theorem dX10_status_50 : decode cX10_status 50 = .ok (.goto (-18), 3) := by decide +kernel
theorem dX10_status_53 : decode cX10_status 53 = .ok (.iload_n 2, 1) := by decide +kernel
theorem dX10_status_54 : decode cX10_status 54 = .ok (.ireturn, 1) := by decide +kernel
theorem dX10_tell_0 : decode cX10_tell 0 = .ok (.ldc 57, 2) := by decide +kernel
theorem dX10_tell_2 : decode cX10_tell 2 = .ok (.iload_n 1, 1) := by decide +kernel
theorem dX10_tell_3 : decode cX10_tell 3 = .ok (.isub, 1) := by decide +kernel
theorem dX10_tell_4 : decode cX10_tell 4 = .ok (.istore_n 2, 1) := by decide +kernel
theorem dX10_tell_5 : decode cX10_tell 5 = .ok (.iload_n 2, 1) := by decide +kernel
theorem dX10_tell_6 : decode cX10_tell 6 = .ok (.ifCond .lt 19, 3) := by decide +kernel
theorem dX10_tell_9 : decode cX10_tell 9 = .ok (.iload_n 2, 1) := by decide +kernel
theorem dX10_tell_10 : decode cX10_tell 10 = .ok (.bipush 7, 2) := by decide +kernel
theorem dX10_tell_12 : decode cX10_tell 12 = .ok (.if_icmp .ge 13, 3) := by decide +kernel
theorem dX10_tell_15 : decode cX10_tell 15 = .ok (.aload_n 0, 1) := by decide +kernel
theorem dX10_tell_16 : decode cX10_tell 16 = .ok (.getfield 22, 3) := by decide +kernel
theorem dX10_tell_19 : decode cX10_tell 19 = .ok (.iload_n 2, 1) := by decide +kernel
theorem dX10_tell_20 : decode cX10_tell 20 = .ok (.dup2, 1) := by decide +kernel
theorem dX10_tell_21 : decode cX10_tell 21 = .ok (.iaload, 1) := by decide +kernel
theorem dX10_tell_22 : decode cX10_tell 22 = .ok (.iconst 1, 1) := by decide +kernel
theorem dX10_tell_23 : decode cX10_tell 23 = .ok (.iadd, 1) := by decide +kernel
theorem dX10_tell_24 : decode cX10_tell 24 = .ok (.iastore, 1) := by decide +kernel
theorem dX10_tell_25 : decode cX10_tell 25 = .ok (.iload_n 1, 1) := by decide +kernel
theorem dX10_tell_26 : decode cX10_tell 26 = .ok (.ireturn, 1) := by decide +kernel
theorem dX10_bestPlayed_0 : decode cX10_bestPlayed 0 = .ok (.iconst 0, 1) := by decide +kernel
theorem dX10_bestPlayed_1 : decode cX10_bestPlayed 1 = .ok (.istore 5, 2) := by decide +kernel
theorem dX10_bestPlayed_3 : decode cX10_bestPlayed 3 = .ok (.iconst (-1), 1) := by decide +kernel
theorem dX10_bestPlayed_4 : decode cX10_bestPlayed 4 = .ok (.istore 6, 2) := by decide +kernel
theorem dX10_bestPlayed_6 : decode cX10_bestPlayed 6 = .ok (.iconst 0, 1) := by decide +kernel
theorem dX10_bestPlayed_7 : decode cX10_bestPlayed 7 = .ok (.istore 7, 2) := by decide +kernel
theorem dX10_bestPlayed_9 : decode cX10_bestPlayed 9 = .ok (.iload 7, 2) := by decide +kernel
theorem dX10_bestPlayed_11 : decode cX10_bestPlayed 11 = .ok (.iload_n 2, 1) := by decide +kernel
theorem dX10_bestPlayed_12 : decode cX10_bestPlayed 12 = .ok (.if_icmp .ge 63, 3) := by decide +kernel
theorem dX10_bestPlayed_15 : decode cX10_bestPlayed 15 = .ok (.aload_n 0, 1) := by decide +kernel
theorem dX10_bestPlayed_16 : decode cX10_bestPlayed 16 = .ok (.getfield 42, 3) := by decide +kernel
theorem dX10_bestPlayed_19 : decode cX10_bestPlayed 19 = .ok (.aload_n 0, 1) := by decide +kernel
theorem dX10_bestPlayed_20 : decode cX10_bestPlayed 20 = .ok (.getfield 38, 3) := by decide +kernel
theorem dX10_bestPlayed_23 : decode cX10_bestPlayed 23 = .ok (.invokevirtual 161, 3) := by decide +kernel
theorem dX10_bestPlayed_26 : decode cX10_bestPlayed 26 = .ok (.aload_n 1, 1) := by decide +kernel
theorem dX10_bestPlayed_27 : decode cX10_bestPlayed 27 = .ok (.iload_n 3, 1) := by decide +kernel
theorem dX10_bestPlayed_28 : decode cX10_bestPlayed 28 = .ok (.iload 7, 2) := by decide +kernel
theorem dX10_bestPlayed_30 : decode cX10_bestPlayed 30 = .ok (.iastore, 1) := by decide +kernel
theorem dX10_bestPlayed_31 : decode cX10_bestPlayed 31 = .ok (.aload_n 0, 1) := by decide +kernel
theorem dX10_bestPlayed_32 : decode cX10_bestPlayed 32 = .ok (.getfield 42, 3) := by decide +kernel
theorem dX10_bestPlayed_35 : decode cX10_bestPlayed 35 = .ok (.iload 4, 2) := by decide +kernel
theorem dX10_bestPlayed_37 : decode cX10_bestPlayed 37 = .ok (.invokevirtual 154, 3) := by decide +kernel
theorem dX10_bestPlayed_40 : decode cX10_bestPlayed 40 = .ok (.aload_n 0, 1) := by decide +kernel
theorem dX10_bestPlayed_41 : decode cX10_bestPlayed 41 = .ok (.getfield 42, 3) := by decide +kernel
theorem dX10_bestPlayed_44 : decode cX10_bestPlayed 44 = .ok (.getfield 118, 3) := by decide +kernel
theorem dX10_bestPlayed_47 : decode cX10_bestPlayed 47 = .ok (.iload_n 3, 1) := by decide +kernel
theorem dX10_bestPlayed_48 : decode cX10_bestPlayed 48 = .ok (.iaload, 1) := by decide +kernel
theorem dX10_bestPlayed_49 : decode cX10_bestPlayed 49 = .ok (.iload 6, 2) := by decide +kernel
theorem dX10_bestPlayed_51 : decode cX10_bestPlayed 51 = .ok (.if_icmp .le 18, 3) := by decide +kernel
theorem dX10_bestPlayed_54 : decode cX10_bestPlayed 54 = .ok (.aload_n 0, 1) := by decide +kernel
theorem dX10_bestPlayed_55 : decode cX10_bestPlayed 55 = .ok (.getfield 42, 3) := by decide +kernel
theorem dX10_bestPlayed_58 : decode cX10_bestPlayed 58 = .ok (.getfield 118, 3) := by decide +kernel
theorem dX10_bestPlayed_61 : decode cX10_bestPlayed 61 = .ok (.iload_n 3, 1) := by decide +kernel
theorem dX10_bestPlayed_62 : decode cX10_bestPlayed 62 = .ok (.iaload, 1) := by decide +kernel
theorem dX10_bestPlayed_63 : decode cX10_bestPlayed 63 = .ok (.istore 6, 2) := by decide +kernel
theorem dX10_bestPlayed_65 : decode cX10_bestPlayed 65 = .ok (.iload 7, 2) := by decide +kernel
theorem dX10_bestPlayed_67 : decode cX10_bestPlayed 67 = .ok (.istore 5, 2) := by decide +kernel
theorem dX10_bestPlayed_69 : decode cX10_bestPlayed 69 = .ok (.iinc 7 1, 3) := by decide +kernel
theorem dX10_bestPlayed_72 : decode cX10_bestPlayed 72 = .ok (.goto (-63), 3) := by decide +kernel
theorem dX10_bestPlayed_75 : decode cX10_bestPlayed 75 = .ok (.iload 5, 2) := by decide +kernel
theorem dX10_bestPlayed_77 : decode cX10_bestPlayed 77 = .ok (.ireturn, 1) := by decide +kernel
theorem dX10_sheetFinding_0 : decode cX10_sheetFinding 0 = .ok (.iload_n 1, 1) := by decide +kernel
theorem dX10_sheetFinding_1 : decode cX10_sheetFinding 1 = .ok (.invokestatic 183, 3) := by decide +kernel
theorem dX10_sheetFinding_4 : decode cX10_sheetFinding 4 = .ok (.ifCond .eq 6, 3) := by decide +kernel
theorem dX10_sheetFinding_7 : decode cX10_sheetFinding 7 = .ok (.ldc 57, 2) := by decide +kernel
theorem dX10_sheetFinding_9 : decode cX10_sheetFinding 9 = .ok (.ireturn, 1) := by decide +kernel
theorem dX10_sheetFinding_10 : decode cX10_sheetFinding 10 = .ok (.aload_n 0, 1) := by decide +kernel
theorem dX10_sheetFinding_11 : decode cX10_sheetFinding 11 = .ok (.getfield 18, 3) := by decide +kernel
theorem dX10_sheetFinding_14 : decode cX10_sheetFinding 14 = .ok (.iload_n 1, 1) := by decide +kernel
theorem dX10_sheetFinding_15 : decode cX10_sheetFinding 15 = .ok (.aaload, 1) := by decide +kernel
theorem dX10_sheetFinding_16 : decode cX10_sheetFinding 16 = .ok (.invokevirtual 205, 3) := by decide +kernel
theorem dX10_sheetFinding_19 : decode cX10_sheetFinding 19 = .ok (.ifCond .eq 8, 3) := by decide +kernel
theorem dX10_sheetFinding_22 : decode cX10_sheetFinding 22 = .ok (.ldc 209, 2) := by decide +kernel
theorem dX10_sheetFinding_24 : decode cX10_sheetFinding 24 = .ok (.goto 4, 3) := by decide +kernel
theorem dX10_sheetFinding_27 : decode cX10_sheetFinding 27 = .ok (.iconst 0, 1) := by decide +kernel
theorem dX10_sheetFinding_28 : decode cX10_sheetFinding 28 = .ok (.ireturn, 1) := by decide +kernel
theorem dX10_goesAsTold_0 : decode cX10_goesAsTold 0 = .ok (.iconst 0, 1) := by decide +kernel
theorem dX10_goesAsTold_1 : decode cX10_goesAsTold 1 = .ok (.istore_n 3, 1) := by decide +kernel
theorem dX10_goesAsTold_2 : decode cX10_goesAsTold 2 = .ok (.iload_n 3, 1) := by decide +kernel
theorem dX10_goesAsTold_3 : decode cX10_goesAsTold 3 = .ok (.aload_n 1, 1) := by decide +kernel
theorem dX10_goesAsTold_4 : decode cX10_goesAsTold 4 = .ok (.getfield 191, 3) := by decide +kernel
theorem dX10_goesAsTold_7 : decode cX10_goesAsTold 7 = .ok (.if_icmp .ge 38, 3) := by decide +kernel
theorem dX10_goesAsTold_10 : decode cX10_goesAsTold 10 = .ok (.aload_n 1, 1) := by decide +kernel
theorem dX10_goesAsTold_11 : decode cX10_goesAsTold 11 = .ok (.getfield 197, 3) := by decide +kernel
theorem dX10_goesAsTold_14 : decode cX10_goesAsTold 14 = .ok (.iload_n 3, 1) := by decide +kernel
theorem dX10_goesAsTold_15 : decode cX10_goesAsTold 15 = .ok (.laload, 1) := by decide +kernel
theorem dX10_goesAsTold_16 : decode cX10_goesAsTold 16 = .ok (.aload_n 0, 1) := by decide +kernel
theorem dX10_goesAsTold_17 : decode cX10_goesAsTold 17 = .ok (.getfield 42, 3) := by decide +kernel
theorem dX10_goesAsTold_20 : decode cX10_goesAsTold 20 = .ok (.getfield 112, 3) := by decide +kernel
theorem dX10_goesAsTold_23 : decode cX10_goesAsTold 23 = .ok (.iload_n 2, 1) := by decide +kernel
theorem dX10_goesAsTold_24 : decode cX10_goesAsTold 24 = .ok (.iaload, 1) := by decide +kernel
theorem dX10_goesAsTold_25 : decode cX10_goesAsTold 25 = .ok (.i2l, 1) := by decide +kernel
theorem dX10_goesAsTold_26 : decode cX10_goesAsTold 26 = .ok (.lcmp, 1) := by decide +kernel
theorem dX10_goesAsTold_27 : decode cX10_goesAsTold 27 = .ok (.ifCond .eq 5, 3) := by decide +kernel
theorem dX10_goesAsTold_30 : decode cX10_goesAsTold 30 = .ok (.iconst 0, 1) := by decide +kernel
theorem dX10_goesAsTold_31 : decode cX10_goesAsTold 31 = .ok (.ireturn, 1) := by decide +kernel
theorem dX10_goesAsTold_32 : decode cX10_goesAsTold 32 = .ok (.aload_n 0, 1) := by decide +kernel
theorem dX10_goesAsTold_33 : decode cX10_goesAsTold 33 = .ok (.getfield 42, 3) := by decide +kernel
theorem dX10_goesAsTold_36 : decode cX10_goesAsTold 36 = .ok (.invokevirtual 165, 3) := by decide +kernel
theorem dX10_goesAsTold_39 : decode cX10_goesAsTold 39 = .ok (.iinc 3 1, 3) := by decide +kernel
theorem dX10_goesAsTold_42 : decode cX10_goesAsTold 42 = .ok (.goto (-40), 3) := by decide +kernel
theorem dX10_goesAsTold_45 : decode cX10_goesAsTold 45 = .ok (.iconst 1, 1) := by decide +kernel
theorem dX10_goesAsTold_46 : decode cX10_goesAsTold 46 = .ok (.ireturn, 1) := by decide +kernel
theorem dX10_isNobody_0 : decode cX10_isNobody 0 = .ok (.iload_n 1, 1) := by decide +kernel
theorem dX10_isNobody_1 : decode cX10_isNobody 1 = .ok (.ifCond .lt 14, 3) := by decide +kernel
theorem dX10_isNobody_4 : decode cX10_isNobody 4 = .ok (.iload_n 1, 1) := by decide +kernel
theorem dX10_isNobody_5 : decode cX10_isNobody 5 = .ok (.aload_n 0, 1) := by decide +kernel
theorem dX10_isNobody_6 : decode cX10_isNobody 6 = .ok (.getfield 38, 3) := by decide +kernel
theorem dX10_isNobody_9 : decode cX10_isNobody 9 = .ok (.getfield 98, 3) := by decide +kernel
theorem dX10_isNobody_12 : decode cX10_isNobody 12 = .ok (.if_icmp .lt 7, 3) := by decide +kernel
theorem dX10_isNobody_15 : decode cX10_isNobody 15 = .ok (.iconst 1, 1) := by decide +kernel
theorem dX10_isNobody_16 : decode cX10_isNobody 16 = .ok (.goto 4, 3) := by decide +kernel
theorem dX10_isNobody_19 : decode cX10_isNobody 19 = .ok (.iconst 0, 1) := by decide +kernel
theorem dX10_isNobody_20 : decode cX10_isNobody 20 = .ok (.ireturn, 1) := by decide +kernel
theorem dX10_isOutside_0 : decode cX10_isOutside 0 = .ok (.iload_n 0, 1) := by decide +kernel
theorem dX10_isOutside_1 : decode cX10_isOutside 1 = .ok (.iload_n 1, 1) := by decide +kernel
theorem dX10_isOutside_2 : decode cX10_isOutside 2 = .ok (.if_icmp .lt 8, 3) := by decide +kernel
theorem dX10_isOutside_5 : decode cX10_isOutside 5 = .ok (.iload_n 0, 1) := by decide +kernel
theorem dX10_isOutside_6 : decode cX10_isOutside 6 = .ok (.iload_n 2, 1) := by decide +kernel
theorem dX10_isOutside_7 : decode cX10_isOutside 7 = .ok (.if_icmp .le 7, 3) := by decide +kernel
theorem dX10_isOutside_10 : decode cX10_isOutside 10 = .ok (.iconst 1, 1) := by decide +kernel
theorem dX10_isOutside_11 : decode cX10_isOutside 11 = .ok (.goto 4, 3) := by decide +kernel
theorem dX10_isOutside_14 : decode cX10_isOutside 14 = .ok (.iconst 0, 1) := by decide +kernel
theorem dX10_isOutside_15 : decode cX10_isOutside 15 = .ok (.ireturn, 1) := by decide +kernel
theorem dX10_isNoSpot_0 : decode cX10_isNoSpot 0 = .ok (.iload_n 0, 1) := by decide +kernel
theorem dX10_isNoSpot_1 : decode cX10_isNoSpot 1 = .ok (.iconst 0, 1) := by decide +kernel
theorem dX10_isNoSpot_2 : decode cX10_isNoSpot 2 = .ok (.bipush 11, 2) := by decide +kernel
theorem dX10_isNoSpot_4 : decode cX10_isNoSpot 4 = .ok (.invokestatic 49, 3) := by decide +kernel
theorem dX10_isNoSpot_7 : decode cX10_isNoSpot 7 = .ok (.ireturn, 1) := by decide +kernel
theorem dX10_isNoKind_0 : decode cX10_isNoKind 0 = .ok (.iload_n 0, 1) := by decide +kernel
theorem dX10_isNoKind_1 : decode cX10_isNoKind 1 = .ok (.iconst 0, 1) := by decide +kernel
theorem dX10_isNoKind_2 : decode cX10_isNoKind 2 = .ok (.iconst 5, 1) := by decide +kernel
theorem dX10_isNoKind_3 : decode cX10_isNoKind 3 = .ok (.invokestatic 49, 3) := by decide +kernel
theorem dX10_isNoKind_6 : decode cX10_isNoKind 6 = .ok (.ireturn, 1) := by decide +kernel
theorem dX10_isNoSheet_0 : decode cX10_isNoSheet 0 = .ok (.iload_n 0, 1) := by decide +kernel
theorem dX10_isNoSheet_1 : decode cX10_isNoSheet 1 = .ok (.iconst 0, 1) := by decide +kernel
theorem dX10_isNoSheet_2 : decode cX10_isNoSheet 2 = .ok (.iconst 3, 1) := by decide +kernel
theorem dX10_isNoSheet_3 : decode cX10_isNoSheet 3 = .ok (.invokestatic 49, 3) := by decide +kernel
theorem dX10_isNoSheet_6 : decode cX10_isNoSheet 6 = .ok (.ireturn, 1) := by decide +kernel
theorem dX10_isOfKind_0 : decode cX10_isOfKind 0 = .ok (.iload_n 0, 1) := by decide +kernel
theorem dX10_isOfKind_1 : decode cX10_isOfKind 1 = .ok (.istore_n 2, 1) := by decide +kernel
theorem dX10_isOfKind_2 : decode cX10_isOfKind 2 = .ok (.iconst 0, 1) := by decide +kernel
theorem dX10_isOfKind_3 : decode cX10_isOfKind 3 = .ok (.istore_n 3, 1) := by decide +kernel
theorem dX10_isOfKind_4 : decode cX10_isOfKind 4 = .ok (.iload_n 3, 1) := by decide +kernel
theorem dX10_isOfKind_5 : decode cX10_isOfKind 5 = .ok (.bipush 6, 2) := by decide +kernel
theorem dX10_isOfKind_7 : decode cX10_isOfKind 7 = .ok (.if_icmp .ge 32, 3) := by decide +kernel
theorem dX10_isOfKind_10 : decode cX10_isOfKind 10 = .ok (.iload_n 2, 1) := by decide +kernel
theorem dX10_isOfKind_11 : decode cX10_isOfKind 11 = .ok (.ifCond .lt 28, 3) := by decide +kernel
theorem dX10_isOfKind_14 : decode cX10_isOfKind 14 = .ok (.iload_n 2, 1) := by decide +kernel
theorem dX10_isOfKind_15 : decode cX10_isOfKind 15 = .ok (.bipush 6, 2) := by decide +kernel
theorem dX10_isOfKind_17 : decode cX10_isOfKind 17 = .ok (.if_icmp .ge 22, 3) := by decide +kernel
theorem dX10_isOfKind_20 : decode cX10_isOfKind 20 = .ok (.iload_n 2, 1) := by decide +kernel
theorem dX10_isOfKind_21 : decode cX10_isOfKind 21 = .ok (.iload_n 1, 1) := by decide +kernel
theorem dX10_isOfKind_22 : decode cX10_isOfKind 22 = .ok (.if_icmp .ne 5, 3) := by decide +kernel
theorem dX10_isOfKind_25 : decode cX10_isOfKind 25 = .ok (.iconst 1, 1) := by decide +kernel
theorem dX10_isOfKind_26 : decode cX10_isOfKind 26 = .ok (.ireturn, 1) := by decide +kernel
theorem dX10_isOfKind_27 : decode cX10_isOfKind 27 = .ok (.getstatic 232, 3) := by decide +kernel
theorem dX10_isOfKind_30 : decode cX10_isOfKind 30 = .ok (.iload_n 2, 1) := by decide +kernel
theorem dX10_isOfKind_31 : decode cX10_isOfKind 31 = .ok (.iaload, 1) := by decide +kernel
theorem dX10_isOfKind_32 : decode cX10_isOfKind 32 = .ok (.istore_n 2, 1) := by decide +kernel
theorem dX10_isOfKind_33 : decode cX10_isOfKind 33 = .ok (.iinc 3 1, 3) := by decide +kernel
theorem dX10_isOfKind_36 : decode cX10_isOfKind 36 = .ok (.goto (-32), 3) := by decide +kernel
theorem dX10_isOfKind_39 : decode cX10_isOfKind 39 = .ok (.iconst 0, 1) := by decide +kernel
theorem dX10_isOfKind_40 : decode cX10_isOfKind 40 = .ok (.ireturn, 1) := by decide +kernel
theorem dX10_exchange_0 : decode cX10_exchange 0 = .ok (.aload_n 0, 1) := by decide +kernel
theorem dX10_exchange_1 : decode cX10_exchange 1 = .ok (.iload_n 1, 1) := by decide +kernel
theorem dX10_exchange_2 : decode cX10_exchange 2 = .ok (.iaload, 1) := by decide +kernel
theorem dX10_exchange_3 : decode cX10_exchange 3 = .ok (.istore_n 3, 1) := by decide +kernel
theorem dX10_exchange_4 : decode cX10_exchange 4 = .ok (.aload_n 0, 1) := by decide +kernel
theorem dX10_exchange_5 : decode cX10_exchange 5 = .ok (.iload_n 1, 1) := by decide +kernel
theorem dX10_exchange_6 : decode cX10_exchange 6 = .ok (.iload_n 2, 1) := by decide +kernel
theorem dX10_exchange_7 : decode cX10_exchange 7 = .ok (.iastore, 1) := by decide +kernel
theorem dX10_exchange_8 : decode cX10_exchange 8 = .ok (.iload_n 3, 1) := by decide +kernel
theorem dX10_exchange_9 : decode cX10_exchange 9 = .ok (.ireturn, 1) := by decide +kernel
