theorem dX3_init_0 : decode cX3_init 0 = .ok (.aload_n 0, 1) := by decide +kernel
theorem dX3_init_1 : decode cX3_init 1 = .ok (.invokespecial 1, 3) := by decide +kernel
theorem dX3_init_4 : decode cX3_init 4 = .ok (.aload_n 0, 1) := by decide +kernel
theorem dX3_init_5 : decode cX3_init 5 = .ok (.new 7, 3) := by decide +kernel
theorem dX3_init_8 : decode cX3_init 8 = .ok (.dup, 1) := by decide +kernel
theorem dX3_init_9 : decode cX3_init 9 = .ok (.invokespecial 9, 3) := by decide +kernel
theorem dX3_init_12 : decode cX3_init 12 = .ok (.putfield 10, 3) := by decide +kernel
theorem dX3_init_15 : decode cX3_init 15 = .ok (.aload_n 0, 1) := by decide +kernel
theorem dX3_init_16 : decode cX3_init 16 = .ok (.new 7, 3) := by decide +kernel
theorem dX3_init_19 : decode cX3_init 19 = .ok (.dup, 1) := by decide +kernel
theorem dX3_init_20 : decode cX3_init 20 = .ok (.invokespecial 9, 3) := by decide +kernel
theorem dX3_init_23 : decode cX3_init 23 = .ok (.putfield 16, 3) := by decide +kernel
theorem dX3_init_26 : decode cX3_init 26 = .ok (.aload_n 0, 1) := by decide +kernel
theorem dX3_init_27 : decode cX3_init 27 = .ok (.new 7, 3) := by decide +kernel
theorem dX3_init_30 : decode cX3_init 30 = .ok (.dup, 1) := by decide +kernel
theorem dX3_init_31 : decode cX3_init 31 = .ok (.invokespecial 9, 3) := by decide +kernel
theorem dX3_init_34 : decode cX3_init 34 = .ok (.putfield 19, 3) := by decide +kernel
theorem dX3_init_37 : decode cX3_init 37 = .ok (.aload_n 0, 1) := by decide +kernel
theorem dX3_init_38 : decode cX3_init 38 = .ok (.new 7, 3) := by decide +kernel
theorem dX3_init_41 : decode cX3_init 41 = .ok (.dup, 1) := by decide +kernel
theorem dX3_init_42 : decode cX3_init 42 = .ok (.invokespecial 9, 3) := by decide +kernel
theorem dX3_init_45 : decode cX3_init 45 = .ok (.putfield 22, 3) := by decide +kernel
theorem dX3_init_48 : decode cX3_init 48 = .ok (.aload_n 0, 1) := by decide +kernel
theorem dX3_init_49 : decode cX3_init 49 = .ok (.bipush 8, 2) := by decide +kernel
theorem dX3_init_51 : decode cX3_init 51 = .ok (.newarray .int, 2) := by decide +kernel
theorem dX3_init_53 : decode cX3_init 53 = .ok (.putfield 25, 3) := by decide +kernel
theorem dX3_init_56 : decode cX3_init 56 = .ok (.aload_n 0, 1) := by decide +kernel
theorem dX3_init_57 : decode cX3_init 57 = .ok (.bipush 40, 2) := by decide +kernel
theorem dX3_init_59 : decode cX3_init 59 = .ok (.newarray .int, 2) := by decide +kernel
theorem dX3_init_61 : decode cX3_init 61 = .ok (.putfield 29, 3) := by decide +kernel
theorem dX3_init_64 : decode cX3_init 64 = .ok (.aload_n 0, 1) := by decide +kernel
theorem dX3_init_65 : decode cX3_init 65 = .ok (.new 32, 3) := by decide +kernel
theorem dX3_init_68 : decode cX3_init 68 = .ok (.dup, 1) := by decide +kernel
theorem dX3_init_69 : decode cX3_init 69 = .ok (.invokespecial 34, 3) := by decide +kernel
theorem dX3_init_72 : decode cX3_init 72 = .ok (.putfield 35, 3) := by decide +kernel
theorem dX3_init_75 : decode cX3_init 75 = .ok (.aload_n 0, 1) := by decide +kernel
theorem dX3_init_76 : decode cX3_init 76 = .ok (.iconst 4, 1) := by decide +kernel
theorem dX3_init_77 : decode cX3_init 77 = .ok (.anewarray 39, 3) := by decide +kernel
theorem dX3_init_80 : decode cX3_init 80 = .ok (.putfield 41, 3) := by decide +kernel
theorem dX3_init_83 : decode cX3_init 83 = .ok (.aload_n 0, 1) := by decide +kernel
theorem dX3_init_84 : decode cX3_init 84 = .ok (.bipush 7, 2) := by decide +kernel
theorem dX3_init_86 : decode cX3_init 86 = .ok (.newarray .int, 2) := by decide +kernel
theorem dX3_init_88 : decode cX3_init 88 = .ok (.putfield 45, 3) := by decide +kernel
theorem dX3_init_91 : decode cX3_init 91 = .ok (.iconst 0, 1) := by decide +kernel
theorem dX3_init_92 : decode cX3_init 92 = .ok (.istore_n 1, 1) := by decide +kernel
theorem dX3_init_93 : decode cX3_init 93 = .ok (.iload_n 1, 1) := by decide +kernel
theorem dX3_init_94 : decode cX3_init 94 = .ok (.iconst 4, 1) := by decide +kernel
theorem dX3_init_95 : decode cX3_init 95 = .ok (.if_icmp .ge 22, 3) := by decide +kernel
theorem dX3_init_98 : decode cX3_init 98 = .ok (.aload_n 0, 1) := by decide +kernel
theorem dX3_init_99 : decode cX3_init 99 = .ok (.getfield 41, 3) := by decide +kernel
theorem dX3_init_102 : decode cX3_init 102 = .ok (.iload_n 1, 1) := by decide +kernel
theorem dX3_init_103 : decode cX3_init 103 = .ok (.new 39, 3) := by decide +kernel
theorem dX3_init_106 : decode cX3_init 106 = .ok (.dup, 1) := by decide +kernel
theorem dX3_init_107 : decode cX3_init 107 = .ok (.invokespecial 48, 3) := by decide +kernel
theorem dX3_init_110 : decode cX3_init 110 = .ok (.aastore, 1) := by decide +kernel
theorem dX3_init_111 : decode cX3_init 111 = .ok (.iinc 1 1, 3) := by decide +kernel
theorem dX3_init_114 : decode cX3_init 114 = .ok (.goto (-21), 3) := by decide +kernel
theorem dX3_init_117 : decode cX3_init 117 = .ok (.return_, 1) := by decide +kernel
theorem dX3_person_0 : decode cX3_person 0 = .ok (.iload_n 1, 1) := by decide +kernel
theorem dX3_person_1 : decode cX3_person 1 = .ok (.invokestatic 49, 3) := by decide +kernel
theorem dX3_person_4 : decode cX3_person 4 = .ok (.ifCond .ne 10, 3) := by decide +kernel
theorem dX3_person_7 : decode cX3_person 7 = .ok (.aload_n 0, 1) := by decide +kernel
theorem dX3_person_8 : decode cX3_person 8 = .ok (.ldc 53, 2) := by decide +kernel
theorem dX3_person_10 : decode cX3_person 10 = .ok (.invokevirtual 54, 3) := by decide +kernel
theorem dX3_person_13 : decode cX3_person 13 = .ok (.ireturn, 1) := by decide +kernel
theorem dX3_person_14 : decode cX3_person 14 = .ok (.aload_n 0, 1) := by decide +kernel
theorem dX3_person_15 : decode cX3_person 15 = .ok (.getfield 10, 3) := by decide +kernel
theorem dX3_person_18 : decode cX3_person 18 = .ok (.getfield 58, 3) := by decide +kernel
theorem dX3_person_21 : decode cX3_person 21 = .ok (.bipush 8, 2) := by decide +kernel
theorem dX3_person_23 : decode cX3_person 23 = .ok (.if_icmp .lt 10, 3) := by decide +kernel
theorem dX3_person_26 : decode cX3_person 26 = .ok (.aload_n 0, 1) := by decide +kernel
theorem dX3_person_27 : decode cX3_person 27 = .ok (.ldc 62, 2) := by decide +kernel
theorem dX3_person_29 : decode cX3_person 29 = .ok (.invokevirtual 54, 3) := by decide +kernel
theorem dX3_person_32 : decode cX3_person 32 = .ok (.ireturn, 1) := by decide +kernel
theorem dX3_person_33 : decode cX3_person 33 = .ok (.aload_n 0, 1) := by decide +kernel
theorem dX3_person_34 : decode cX3_person 34 = .ok (.getfield 10, 3) := by decide +kernel
theorem dX3_person_37 : decode cX3_person 37 = .ok (.iload_n 1, 1) := by decide +kernel
theorem dX3_person_38 : decode cX3_person 38 = .ok (.invokevirtual 63, 3) := by decide +kernel
theorem dX3_person_41 : decode cX3_person 41 = .ok (.ireturn, 1) := by decide +kernel
theorem dX3_of_0 : decode cX3_of 0 = .ok (.aload_n 0, 1) := by decide +kernel
theorem dX3_of_1 : decode cX3_of 1 = .ok (.iload_n 1, 1) := by decide +kernel
theorem dX3_of_2 : decode cX3_of 2 = .ok (.invokevirtual 66, 3) := by decide +kernel
theorem dX3_of_5 : decode cX3_of 5 = .ok (.ifCond .ne 10, 3) := by decide +kernel
theorem dX3_of_8 : decode cX3_of 8 = .ok (.aload_n 0, 1) := by decide +kernel
theorem dX3_of_9 : decode cX3_of 9 = .ok (.ldc 53, 2) := by decide +kernel
theorem dX3_of_11 : decode cX3_of 11 = .ok (.invokevirtual 54, 3) := by decide +kernel
theorem dX3_of_14 : decode cX3_of 14 = .ok (.ireturn, 1) := by decide +kernel
theorem dX3_of_15 : decode cX3_of 15 = .ok (.iload_n 2, 1) := by decide +kernel
theorem dX3_of_16 : decode cX3_of 16 = .ok (.tableswitch 98 0 4 #[36, 46, 56, 66, 76], 36) := by decide +kernel
theorem dX3_of_52 : decode cX3_of 52 = .ok (.aload_n 0, 1) := by decide +kernel
theorem dX3_of_53 : decode cX3_of 53 = .ok (.getfield 10, 3) := by decide +kernel
theorem dX3_of_56 : decode cX3_of 56 = .ok (.getfield 69, 3) := by decide +kernel
theorem dX3_of_59 : decode cX3_of 59 = .ok (.iload_n 1, 1) := by decide +kernel
theorem dX3_of_60 : decode cX3_of 60 = .ok (.iaload, 1) := by decide +kernel
theorem dX3_of_61 : decode cX3_of 61 = .ok (.ireturn, 1) := by decide +kernel
theorem dX3_of_62 : decode cX3_of 62 = .ok (.aload_n 0, 1) := by decide +kernel
theorem dX3_of_63 : decode cX3_of 63 = .ok (.getfield 10, 3) := by decide +kernel
theorem dX3_of_66 : decode cX3_of 66 = .ok (.getfield 72, 3) := by decide +kernel
theorem dX3_of_69 : decode cX3_of 69 = .ok (.iload_n 1, 1) := by decide +kernel
theorem dX3_of_70 : decode cX3_of 70 = .ok (.iaload, 1) := by decide +kernel
theorem dX3_of_71 : decode cX3_of 71 = .ok (.ireturn, 1) := by decide +kernel
theorem dX3_of_72 : decode cX3_of 72 = .ok (.aload_n 0, 1) := by decide +kernel
theorem dX3_of_73 : decode cX3_of 73 = .ok (.getfield 10, 3) := by decide +kernel
theorem dX3_of_76 : decode cX3_of 76 = .ok (.getfield 75, 3) := by decide +kernel
theorem dX3_of_79 : decode cX3_of 79 = .ok (.iload_n 1, 1) := by decide +kernel
theorem dX3_of_80 : decode cX3_of 80 = .ok (.iaload, 1) := by decide +kernel
theorem dX3_of_81 : decode cX3_of 81 = .ok (.ireturn, 1) := by decide +kernel
theorem dX3_of_82 : decode cX3_of 82 = .ok (.aload_n 0, 1) := by decide +kernel
theorem dX3_of_83 : decode cX3_of 83 = .ok (.getfield 10, 3) := by decide +kernel
theorem dX3_of_86 : decode cX3_of 86 = .ok (.getfield 78, 3) := by decide +kernel
theorem dX3_of_89 : decode cX3_of 89 = .ok (.iload_n 1, 1) := by decide +kernel
theorem dX3_of_90 : decode cX3_of 90 = .ok (.iaload, 1) := by decide +kernel
theorem dX3_of_91 : decode cX3_of 91 = .ok (.ireturn, 1) := by decide +kernel
theorem dX3_of_92 : decode cX3_of 92 = .ok (.aload_n 0, 1) := by decide +kernel
theorem dX3_of_93 : decode cX3_of 93 = .ok (.getfield 10, 3) := by decide +kernel
theorem dX3_of_96 : decode cX3_of 96 = .ok (.getfield 69, 3) := by decide +kernel
theorem dX3_of_99 : decode cX3_of 99 = .ok (.iload_n 1, 1) := by decide +kernel
theorem dX3_of_100 : decode cX3_of 100 = .ok (.iaload, 1) := by decide +kernel
theorem dX3_of_101 : decode cX3_of 101 = .ok (.aload_n 0, 1) := by decide +kernel
theorem dX3_of_102 : decode cX3_of 102 = .ok (.getfield 10, 3) := by decide +kernel
theorem dX3_of_105 : decode cX3_of 105 = .ok (.getfield 72, 3) := by decide +kernel
theorem dX3_of_108 : decode cX3_of 108 = .ok (.iload_n 1, 1) := by decide +kernel
theorem dX3_of_109 : decode cX3_of 109 = .ok (.iaload, 1) := by decide +kernel
theorem dX3_of_110 : decode cX3_of 110 = .ok (.invokestatic 81, 3) := by decide +kernel
theorem dX3_of_113 : decode cX3_of 113 = .ok (.ireturn, 1) := by decide +kernel
theorem dX3_of_114 : decode cX3_of 114 = .ok (.aload_n 0, 1) := by decide +kernel
theorem dX3_of_115 : decode cX3_of 115 = .ok (.ldc 53, 2) := by decide +kernel
theorem dX3_of_117 : decode cX3_of 117 = .ok (.invokevirtual 54, 3) := by decide +kernel
theorem dX3_of_120 : decode cX3_of 120 = .ok (.ireturn, 1) := by decide +kernel
theorem dX3_heart_0 : decode cX3_heart 0 = .ok (.aload_n 0, 1) := by decide +kernel
theorem dX3_heart_1 : decode cX3_heart 1 = .ok (.iload_n 1, 1) := by decide +kernel
theorem dX3_heart_2 : decode cX3_heart 2 = .ok (.invokevirtual 66, 3) := by decide +kernel
theorem dX3_heart_5 : decode cX3_heart 5 = .ok (.ifCond .ne 10, 3) := by decide +kernel
theorem dX3_heart_8 : decode cX3_heart 8 = .ok (.aload_n 0, 1) := by decide +kernel
theorem dX3_heart_9 : decode cX3_heart 9 = .ok (.ldc 53, 2) := by decide +kernel
theorem dX3_heart_11 : decode cX3_heart 11 = .ok (.invokevirtual 54, 3) := by decide +kernel
theorem dX3_heart_14 : decode cX3_heart 14 = .ok (.ireturn, 1) := by decide +kernel
theorem dX3_heart_15 : decode cX3_heart 15 = .ok (.sipush 1000, 3) := by decide +kernel
theorem dX3_heart_18 : decode cX3_heart 18 = .ok (.aload_n 0, 1) := by decide +kernel
theorem dX3_heart_19 : decode cX3_heart 19 = .ok (.getfield 10, 3) := by decide +kernel
theorem dX3_heart_22 : decode cX3_heart 22 = .ok (.iload_n 1, 1) := by decide +kernel
theorem dX3_heart_23 : decode cX3_heart 23 = .ok (.invokevirtual 85, 3) := by decide +kernel
theorem dX3_heart_26 : decode cX3_heart 26 = .ok (.iadd, 1) := by decide +kernel
theorem dX3_heart_27 : decode cX3_heart 27 = .ok (.ireturn, 1) := by decide +kernel
theorem dX3_set_0 : decode cX3_set 0 = .ok (.aload_n 0, 1) := by decide +kernel
theorem dX3_set_1 : decode cX3_set 1 = .ok (.iload_n 1, 1) := by decide +kernel
theorem dX3_set_2 : decode cX3_set 2 = .ok (.invokevirtual 66, 3) := by decide +kernel
theorem dX3_set_5 : decode cX3_set 5 = .ok (.ifCond .ne 10, 3) := by decide +kernel
theorem dX3_set_8 : decode cX3_set 8 = .ok (.aload_n 0, 1) := by decide +kernel
theorem dX3_set_9 : decode cX3_set 9 = .ok (.ldc 53, 2) := by decide +kernel
theorem dX3_set_11 : decode cX3_set 11 = .ok (.invokevirtual 54, 3) := by decide +kernel
theorem dX3_set_14 : decode cX3_set 14 = .ok (.ireturn, 1) := by decide +kernel
theorem dX3_set_15 : decode cX3_set 15 = .ok (.iload_n 2, 1) := by decide +kernel
theorem dX3_set_16 : decode cX3_set 16 = .ok (.iconst 1, 1) := by decide +kernel
theorem dX3_set_17 : decode cX3_set 17 = .ok (.if_icmp .ne 23, 3) := by decide +kernel
theorem dX3_set_20 : decode cX3_set 20 = .ok (.iload_n 3, 1) := by decide +kernel
theorem dX3_set_21 : decode cX3_set 21 = .ok (.invokestatic 88, 3) := by decide +kernel
theorem dX3_set_24 : decode cX3_set 24 = .ok (.ifCond .eq 16, 3) := by decide +kernel
theorem dX3_set_27 : decode cX3_set 27 = .ok (.aload_n 0, 1) := by decide +kernel
theorem dX3_set_28 : decode cX3_set 28 = .ok (.getfield 10, 3) := by decide +kernel
theorem dX3_set_31 : decode cX3_set 31 = .ok (.getfield 72, 3) := by decide +kernel
theorem dX3_set_34 : decode cX3_set 34 = .ok (.iload_n 1, 1) := by decide +kernel
theorem dX3_set_35 : decode cX3_set 35 = .ok (.iload_n 3, 1) := by decide +kernel
theorem dX3_set_36 : decode cX3_set 36 = .ok (.invokestatic 91, 3) := by decide +kernel
theorem dX3_set_39 : decode cX3_set 39 = .ok (.ireturn, 1) := by decide +kernel
theorem dX3_set_40 : decode cX3_set 40 = .ok (.iload_n 2, 1) := by decide +kernel
theorem dX3_set_41 : decode cX3_set 41 = .ok (.iconst 2, 1) := by decide +kernel
theorem dX3_set_42 : decode cX3_set 42 = .ok (.if_icmp .ne 23, 3) := by decide +kernel
theorem dX3_set_45 : decode cX3_set 45 = .ok (.iload_n 3, 1) := by decide +kernel
theorem dX3_set_46 : decode cX3_set 46 = .ok (.invokestatic 88, 3) := by decide +kernel
theorem dX3_set_49 : decode cX3_set 49 = .ok (.ifCond .eq 16, 3) := by decide +kernel
theorem dX3_set_52 : decode cX3_set 52 = .ok (.aload_n 0, 1) := by decide +kernel
theorem dX3_set_53 : decode cX3_set 53 = .ok (.getfield 10, 3) := by decide +kernel
theorem dX3_set_56 : decode cX3_set 56 = .ok (.getfield 75, 3) := by decide +kernel
theorem dX3_set_59 : decode cX3_set 59 = .ok (.iload_n 1, 1) := by decide +kernel
theorem dX3_set_60 : decode cX3_set 60 = .ok (.iload_n 3, 1) := by decide +kernel
theorem dX3_set_61 : decode cX3_set 61 = .ok (.invokestatic 91, 3) := by decide +kernel
theorem dX3_set_64 : decode cX3_set 64 = .ok (.ireturn, 1) := by decide +kernel
theorem dX3_set_65 : decode cX3_set 65 = .ok (.iload_n 2, 1) := by decide +kernel
theorem dX3_set_66 : decode cX3_set 66 = .ok (.iconst 3, 1) := by decide +kernel
theorem dX3_set_67 : decode cX3_set 67 = .ok (.if_icmp .ne 28, 3) := by decide +kernel
theorem dX3_set_70 : decode cX3_set 70 = .ok (.iload_n 3, 1) := by decide +kernel
theorem dX3_set_71 : decode cX3_set 71 = .ok (.iconst (-1), 1) := by decide +kernel
theorem dX3_set_72 : decode cX3_set 72 = .ok (.if_icmp .eq 10, 3) := by decide +kernel
theorem dX3_set_75 : decode cX3_set 75 = .ok (.iload_n 3, 1) := by decide +kernel
theorem dX3_set_76 : decode cX3_set 76 = .ok (.invokestatic 95, 3) := by decide +kernel
theorem dX3_set_79 : decode cX3_set 79 = .ok (.ifCond .eq 16, 3) := by decide +kernel
theorem dX3_set_82 : decode cX3_set 82 = .ok (.aload_n 0, 1) := by decide +kernel
theorem dX3_set_83 : decode cX3_set 83 = .ok (.getfield 10, 3) := by decide +kernel
theorem dX3_set_86 : decode cX3_set 86 = .ok (.getfield 78, 3) := by decide +kernel
theorem dX3_set_89 : decode cX3_set 89 = .ok (.iload_n 1, 1) := by decide +kernel
theorem dX3_set_90 : decode cX3_set 90 = .ok (.iload_n 3, 1) := by decide +kernel
theorem dX3_set_91 : decode cX3_set 91 = .ok (.invokestatic 91, 3) := by decide +kernel
theorem dX3_set_94 : decode cX3_set 94 = .ok (.ireturn, 1) := by decide +kernel
theorem dX3_set_95 : decode cX3_set 95 = .ok (.aload_n 0, 1) := by decide +kernel
theorem dX3_set_96 : decode cX3_set 96 = .ok (.ldc 53, 2) := by decide +kernel
theorem dX3_set_98 : decode cX3_set 98 = .ok (.invokevirtual 54, 3) := by decide +kernel
theorem dX3_set_101 : decode cX3_set 101 = .ok (.ireturn, 1) := by decide +kernel
theorem dX3_turn_0 : decode cX3_turn 0 = .ok (.aload_n 0, 1) := by decide +kernel
theorem dX3_turn_1 : decode cX3_turn 1 = .ok (.iload_n 1, 1) := by decide +kernel
theorem dX3_turn_2 : decode cX3_turn 2 = .ok (.invokevirtual 66, 3) := by decide +kernel
theorem dX3_turn_5 : decode cX3_turn 5 = .ok (.ifCond .eq 10, 3) := by decide +kernel
theorem dX3_turn_8 : decode cX3_turn 8 = .ok (.iload_n 2, 1) := by decide +kernel
theorem dX3_turn_9 : decode cX3_turn 9 = .ok (.invokestatic 49, 3) := by decide +kernel
theorem dX3_turn_12 : decode cX3_turn 12 = .ok (.ifCond .ne 10, 3) := by decide +kernel
theorem dX3_turn_15 : decode cX3_turn 15 = .ok (.aload_n 0, 1) := by decide +kernel
theorem dX3_turn_16 : decode cX3_turn 16 = .ok (.ldc 53, 2) := by decide +kernel
theorem dX3_turn_18 : decode cX3_turn 18 = .ok (.invokevirtual 54, 3) := by decide +kernel
theorem dX3_turn_21 : decode cX3_turn 21 = .ok (.ireturn, 1) := by decide +kernel
theorem dX3_turn_22 : decode cX3_turn 22 = .ok (.aload_n 0, 1) := by decide +kernel
theorem dX3_turn_23 : decode cX3_turn 23 = .ok (.getfield 10, 3) := by decide +kernel
theorem dX3_turn_26 : decode cX3_turn 26 = .ok (.getfield 69, 3) := by decide +kernel
theorem dX3_turn_29 : decode cX3_turn 29 = .ok (.iload_n 1, 1) := by decide +kernel
theorem dX3_turn_30 : decode cX3_turn 30 = .ok (.iload_n 2, 1) := by decide +kernel
theorem dX3_turn_31 : decode cX3_turn 31 = .ok (.invokestatic 91, 3) := by decide +kernel
theorem dX3_turn_34 : decode cX3_turn 34 = .ok (.ireturn, 1) := by decide +kernel
theorem dX3_as_0 : decode cX3_as 0 = .ok (.aload_n 0, 1) := by decide +kernel
theorem dX3_as_1 : decode cX3_as 1 = .ok (.iload_n 1, 1) := by decide +kernel
theorem dX3_as_2 : decode cX3_as 2 = .ok (.invokevirtual 66, 3) := by decide +kernel
theorem dX3_as_5 : decode cX3_as 5 = .ok (.ifCond .eq 10, 3) := by decide +kernel
theorem dX3_as_8 : decode cX3_as 8 = .ok (.iload_n 2, 1) := by decide +kernel
theorem dX3_as_9 : decode cX3_as 9 = .ok (.invokestatic 49, 3) := by decide +kernel
theorem dX3_as_12 : decode cX3_as 12 = .ok (.ifCond .ne 10, 3) := by decide +kernel
theorem dX3_as_15 : decode cX3_as 15 = .ok (.aload_n 0, 1) := by decide +kernel
theorem dX3_as_16 : decode cX3_as 16 = .ok (.ldc 53, 2) := by decide +kernel
theorem dX3_as_18 : decode cX3_as 18 = .ok (.invokevirtual 54, 3) := by decide +kernel
theorem dX3_as_21 : decode cX3_as 21 = .ok (.ireturn, 1) := by decide +kernel
theorem dX3_as_22 : decode cX3_as 22 = .ok (.aload_n 0, 1) := by decide +kernel
theorem dX3_as_23 : decode cX3_as 23 = .ok (.getfield 10, 3) := by decide +kernel
theorem dX3_as_26 : decode cX3_as 26 = .ok (.getfield 69, 3) := by decide +kernel
theorem dX3_as_29 : decode cX3_as 29 = .ok (.iload_n 1, 1) := by decide +kernel
theorem dX3_as_30 : decode cX3_as 30 = .ok (.iaload, 1) := by decide +kernel
theorem dX3_as_31 : decode cX3_as 31 = .ok (.iload_n 2, 1) := by decide +kernel
theorem dX3_as_32 : decode cX3_as 32 = .ok (.invokestatic 98, 3) := by decide +kernel
theorem dX3_as_35 : decode cX3_as 35 = .ok (.ifCond .ne 10, 3) := by decide +kernel
theorem dX3_as_38 : decode cX3_as 38 = .ok (.aload_n 0, 1) := by decide +kernel
theorem dX3_as_39 : decode cX3_as 39 = .ok (.ldc 102, 2) := by decide +kernel
theorem dX3_as_41 : decode cX3_as 41 = .ok (.invokevirtual 54, 3) := by decide +kernel
theorem dX3_as_44 : decode cX3_as 44 = .ok (.ireturn, 1) := by decide +kernel
theorem dX3_as_45 : decode cX3_as 45 = .ok (.aload_n 0, 1) := by decide +kernel
theorem dX3_as_46 : decode cX3_as 46 = .ok (.getfield 10, 3) := by decide +kernel
theorem dX3_as_49 : decode cX3_as 49 = .ok (.getfield 72, 3) := by decide +kernel
theorem dX3_as_52 : decode cX3_as 52 = .ok (.iload_n 1, 1) := by decide +kernel
theorem dX3_as_53 : decode cX3_as 53 = .ok (.iaload, 1) := by decide +kernel
theorem dX3_as_54 : decode cX3_as 54 = .ok (.ireturn, 1) := by decide +kernel
theorem dX3_news_0 : decode cX3_news 0 = .ok (.aload_n 0, 1) := by decide +kernel
theorem dX3_news_1 : decode cX3_news 1 = .ok (.iload_n 1, 1) := by decide +kernel
theorem dX3_news_2 : decode cX3_news 2 = .ok (.invokevirtual 66, 3) := by decide +kernel
theorem dX3_news_5 : decode cX3_news 5 = .ok (.ifCond .eq 17, 3) := by decide +kernel
theorem dX3_news_8 : decode cX3_news 8 = .ok (.iload_n 2, 1) := by decide +kernel
theorem dX3_news_9 : decode cX3_news 9 = .ok (.invokestatic 88, 3) := by decide +kernel
theorem dX3_news_12 : decode cX3_news 12 = .ok (.ifCond .eq 10, 3) := by decide +kernel
theorem dX3_news_15 : decode cX3_news 15 = .ok (.iload_n 3, 1) := by decide +kernel
theorem dX3_news_16 : decode cX3_news 16 = .ok (.invokestatic 88, 3) := by decide +kernel
theorem dX3_news_19 : decode cX3_news 19 = .ok (.ifCond .ne 10, 3) := by decide +kernel
theorem dX3_news_22 : decode cX3_news 22 = .ok (.aload_n 0, 1) := by decide +kernel
theorem dX3_news_23 : decode cX3_news 23 = .ok (.ldc 53, 2) := by decide +kernel
theorem dX3_news_25 : decode cX3_news 25 = .ok (.invokevirtual 54, 3) := by decide +kernel
theorem dX3_news_28 : decode cX3_news 28 = .ok (.ireturn, 1) := by decide +kernel
theorem dX3_news_29 : decode cX3_news 29 = .ok (.aload_n 0, 1) := by decide +kernel
theorem dX3_news_30 : decode cX3_news 30 = .ok (.getfield 10, 3) := by decide +kernel
theorem dX3_news_33 : decode cX3_news 33 = .ok (.iload_n 1, 1) := by decide +kernel
theorem dX3_news_34 : decode cX3_news 34 = .ok (.iload_n 2, 1) := by decide +kernel
theorem dX3_news_35 : decode cX3_news 35 = .ok (.iload_n 3, 1) := by decide +kernel
theorem dX3_news_36 : decode cX3_news 36 = .ok (.invokevirtual 103, 3) := by decide +kernel
theorem dX3_news_39 : decode cX3_news 39 = .ok (.sipush 1000, 3) := by decide +kernel
theorem dX3_news_42 : decode cX3_news 42 = .ok (.aload_n 0, 1) := by decide +kernel
theorem dX3_news_43 : decode cX3_news 43 = .ok (.getfield 10, 3) := by decide +kernel
theorem dX3_news_46 : decode cX3_news 46 = .ok (.iload_n 1, 1) := by decide +kernel
theorem dX3_news_47 : decode cX3_news 47 = .ok (.invokevirtual 85, 3) := by decide +kernel
theorem dX3_news_50 : decode cX3_news 50 = .ok (.iadd, 1) := by decide +kernel
theorem dX3_news_51 : decode cX3_news 51 = .ok (.ireturn, 1) := by decide +kernel
theorem dX3_load_0 : decode cX3_load 0 = .ok (.iload_n 1, 1) := by decide +kernel
theorem dX3_load_1 : decode cX3_load 1 = .ok (.invokestatic 95, 3) := by decide +kernel
theorem dX3_load_4 : decode cX3_load 4 = .ok (.ifCond .ne 10, 3) := by decide +kernel
theorem dX3_load_7 : decode cX3_load 7 = .ok (.aload_n 0, 1) := by decide +kernel
theorem dX3_load_8 : decode cX3_load 8 = .ok (.ldc 53, 2) := by decide +kernel
theorem dX3_load_10 : decode cX3_load 10 = .ok (.invokevirtual 54, 3) := by decide +kernel
theorem dX3_load_13 : decode cX3_load 13 = .ok (.ireturn, 1) := by decide +kernel
theorem dX3_load_14 : decode cX3_load 14 = .ok (.sipush 1000, 3) := by decide +kernel
theorem dX3_load_17 : decode cX3_load 17 = .ok (.aload_n 0, 1) := by decide +kernel
theorem dX3_load_18 : decode cX3_load 18 = .ok (.getfield 10, 3) := by decide +kernel
theorem dX3_load_21 : decode cX3_load 21 = .ok (.iload_n 1, 1) := by decide +kernel
theorem dX3_load_22 : decode cX3_load 22 = .ok (.invokevirtual 107, 3) := by decide +kernel
theorem dX3_load_25 : decode cX3_load 25 = .ok (.iadd, 1) := by decide +kernel
theorem dX3_load_26 : decode cX3_load 26 = .ok (.ireturn, 1) := by decide +kernel
theorem dX3_at_0 : decode cX3_at 0 = .ok (.iload_n 1, 1) := by decide +kernel
theorem dX3_at_1 : decode cX3_at 1 = .ok (.invokestatic 95, 3) := by decide +kernel
theorem dX3_at_4 : decode cX3_at 4 = .ok (.ifCond .ne 10, 3) := by decide +kernel
theorem dX3_at_7 : decode cX3_at 7 = .ok (.aload_n 0, 1) := by decide +kernel
theorem dX3_at_8 : decode cX3_at 8 = .ok (.ldc 53, 2) := by decide +kernel
theorem dX3_at_10 : decode cX3_at 10 = .ok (.invokevirtual 54, 3) := by decide +kernel
theorem dX3_at_13 : decode cX3_at 13 = .ok (.ireturn, 1) := by decide +kernel
theorem dX3_at_14 : decode cX3_at 14 = .ok (.aload_n 0, 1) := by decide +kernel
theorem dX3_at_15 : decode cX3_at 15 = .ok (.getfield 10, 3) := by decide +kernel
theorem dX3_at_18 : decode cX3_at 18 = .ok (.iload_n 1, 1) := by decide +kernel
theorem dX3_at_19 : decode cX3_at 19 = .ok (.invokevirtual 110, 3) := by decide +kernel
theorem dX3_at_22 : decode cX3_at 22 = .ok (.ireturn, 1) := by decide +kernel
theorem dX3_hang_0 : decode cX3_hang 0 = .ok (.iload_n 1, 1) := by decide +kernel
theorem dX3_hang_1 : decode cX3_hang 1 = .ok (.invokestatic 95, 3) := by decide +kernel
theorem dX3_hang_4 : decode cX3_hang 4 = .ok (.ifCond .ne 10, 3) := by decide +kernel
theorem dX3_hang_7 : decode cX3_hang 7 = .ok (.aload_n 0, 1) := by decide +kernel
theorem dX3_hang_8 : decode cX3_hang 8 = .ok (.ldc 53, 2) := by decide +kernel
theorem dX3_hang_10 : decode cX3_hang 10 = .ok (.invokevirtual 54, 3) := by decide +kernel
theorem dX3_hang_13 : decode cX3_hang 13 = .ok (.ireturn, 1) := by decide +kernel
theorem dX3_hang_14 : decode cX3_hang 14 = .ok (.aload_n 0, 1) := by decide +kernel
theorem dX3_hang_15 : decode cX3_hang 15 = .ok (.getfield 10, 3) := by decide +kernel
theorem dX3_hang_18 : decode cX3_hang 18 = .ok (.getfield 113, 3) := by decide +kernel
theorem dX3_hang_21 : decode cX3_hang 21 = .ok (.ifCond .gt 10, 3) := by decide +kernel
theorem dX3_hang_24 : decode cX3_hang 24 = .ok (.aload_n 0, 1) := by decide +kernel
theorem dX3_hang_25 : decode cX3_hang 25 = .ok (.ldc 116, 2) := by decide +kernel
theorem dX3_hang_27 : decode cX3_hang 27 = .ok (.invokevirtual 54, 3) := by decide +kernel
theorem dX3_hang_30 : decode cX3_hang 30 = .ok (.ireturn, 1) := by decide +kernel
theorem dX3_hang_31 : decode cX3_hang 31 = .ok (.aload_n 0, 1) := by decide +kernel
theorem dX3_hang_32 : decode cX3_hang 32 = .ok (.getfield 10, 3) := by decide +kernel
theorem dX3_hang_35 : decode cX3_hang 35 = .ok (.dup, 1) := by decide +kernel
theorem dX3_hang_36 : decode cX3_hang 36 = .ok (.getfield 113, 3) := by decide +kernel
theorem dX3_hang_39 : decode cX3_hang 39 = .ok (.iconst 1, 1) := by decide +kernel
theorem dX3_hang_40 : decode cX3_hang 40 = .ok (.isub, 1) := by decide +kernel
theorem dX3_hang_41 : decode cX3_hang 41 = .ok (.putfield 113, 3) := by decide +kernel
theorem dX3_hang_44 : decode cX3_hang 44 = .ok (.aload_n 0, 1) := by decide +kernel
theorem dX3_hang_45 : decode cX3_hang 45 = .ok (.getfield 10, 3) := by decide +kernel
theorem dX3_hang_48 : decode cX3_hang 48 = .ok (.getfield 117, 3) := by decide +kernel
theorem dX3_hang_51 : decode cX3_hang 51 = .ok (.iload_n 1, 1) := by decide +kernel
theorem dX3_hang_52 : decode cX3_hang 52 = .ok (.dup2, 1) := by decide +kernel
theorem dX3_hang_53 : decode cX3_hang 53 = .ok (.iaload, 1) := by decide +kernel
theorem dX3_hang_54 : decode cX3_hang 54 = .ok (.iconst 1, 1) := by decide +kernel
theorem dX3_hang_55 : decode cX3_hang 55 = .ok (.iadd, 1) := by decide +kernel
theorem dX3_hang_56 : decode cX3_hang 56 = .ok (.iastore, 1) := by decide +kernel
theorem dX3_hang_57 : decode cX3_hang 57 = .ok (.aload_n 0, 1) := by decide +kernel
theorem dX3_hang_58 : decode cX3_hang 58 = .ok (.getfield 10, 3) := by decide +kernel
theorem dX3_hang_61 : decode cX3_hang 61 = .ok (.getfield 117, 3) := by decide +kernel
theorem dX3_hang_64 : decode cX3_hang 64 = .ok (.iload_n 1, 1) := by decide +kernel
theorem dX3_hang_65 : decode cX3_hang 65 = .ok (.iaload, 1) := by decide +kernel
theorem dX3_hang_66 : decode cX3_hang 66 = .ok (.ireturn, 1) := by decide +kernel
theorem dX3_take_0 : decode cX3_take 0 = .ok (.iload_n 1, 1) := by decide +kernel
theorem dX3_take_1 : decode cX3_take 1 = .ok (.invokestatic 95, 3) := by decide +kernel
theorem dX3_take_4 : decode cX3_take 4 = .ok (.ifCond .ne 10, 3) := by decide +kernel
theorem dX3_take_7 : decode cX3_take 7 = .ok (.aload_n 0, 1) := by decide +kernel
theorem dX3_take_8 : decode cX3_take 8 = .ok (.ldc 53, 2) := by decide +kernel
theorem dX3_take_10 : decode cX3_take 10 = .ok (.invokevirtual 54, 3) := by decide +kernel
theorem dX3_take_13 : decode cX3_take 13 = .ok (.ireturn, 1) := by decide +kernel
theorem dX3_take_14 : decode cX3_take 14 = .ok (.aload_n 0, 1) := by decide +kernel
theorem dX3_take_15 : decode cX3_take 15 = .ok (.getfield 10, 3) := by decide +kernel
theorem dX3_take_18 : decode cX3_take 18 = .ok (.getfield 117, 3) := by decide +kernel
theorem dX3_take_21 : decode cX3_take 21 = .ok (.iload_n 1, 1) := by decide +kernel
theorem dX3_take_22 : decode cX3_take 22 = .ok (.iaload, 1) := by decide +kernel
theorem dX3_take_23 : decode cX3_take 23 = .ok (.ifCond .gt 10, 3) := by decide +kernel
theorem dX3_take_26 : decode cX3_take 26 = .ok (.aload_n 0, 1) := by decide +kernel
theorem dX3_take_27 : decode cX3_take 27 = .ok (.ldc 116, 2) := by decide +kernel
theorem dX3_take_29 : decode cX3_take 29 = .ok (.invokevirtual 54, 3) := by decide +kernel
theorem dX3_take_32 : decode cX3_take 32 = .ok (.ireturn, 1) := by decide +kernel
theorem dX3_take_33 : decode cX3_take 33 = .ok (.aload_n 0, 1) := by decide +kernel
theorem dX3_take_34 : decode cX3_take 34 = .ok (.getfield 10, 3) := by decide +kernel
theorem dX3_take_37 : decode cX3_take 37 = .ok (.getfield 113, 3) := by decide +kernel
theorem dX3_take_40 : decode cX3_take 40 = .ok (.bipush 20, 2) := by decide +kernel
theorem dX3_take_42 : decode cX3_take 42 = .ok (.if_icmp .lt 10, 3) := by decide +kernel
theorem dX3_take_45 : decode cX3_take 45 = .ok (.aload_n 0, 1) := by decide +kernel
theorem dX3_take_46 : decode cX3_take 46 = .ok (.ldc 62, 2) := by decide +kernel
theorem dX3_take_48 : decode cX3_take 48 = .ok (.invokevirtual 54, 3) := by decide +kernel
theorem dX3_take_51 : decode cX3_take 51 = .ok (.ireturn, 1) := by decide +kernel
theorem dX3_take_52 : decode cX3_take 52 = .ok (.aload_n 0, 1) := by decide +kernel
theorem dX3_take_53 : decode cX3_take 53 = .ok (.getfield 10, 3) := by decide +kernel
theorem dX3_take_56 : decode cX3_take 56 = .ok (.dup, 1) := by decide +kernel
theorem dX3_take_57 : decode cX3_take 57 = .ok (.getfield 113, 3) := by decide +kernel
theorem dX3_take_60 : decode cX3_take 60 = .ok (.iconst 1, 1) := by decide +kernel
theorem dX3_take_61 : decode cX3_take 61 = .ok (.iadd, 1) := by decide +kernel
theorem dX3_take_62 : decode cX3_take 62 = .ok (.putfield 113, 3) := by decide +kernel
theorem dX3_take_65 : decode cX3_take 65 = .ok (.aload_n 0, 1) := by decide +kernel
theorem dX3_take_66 : decode cX3_take 66 = .ok (.getfield 10, 3) := by decide +kernel
theorem dX3_take_69 : decode cX3_take 69 = .ok (.getfield 117, 3) := by decide +kernel
theorem dX3_take_72 : decode cX3_take 72 = .ok (.iload_n 1, 1) := by decide +kernel
theorem dX3_take_73 : decode cX3_take 73 = .ok (.dup2, 1) := by decide +kernel
theorem dX3_take_74 : decode cX3_take 74 = .ok (.iaload, 1) := by decide +kernel
theorem dX3_take_75 : decode cX3_take 75 = .ok (.iconst 1, 1) := by decide +kernel
theorem dX3_take_76 : decode cX3_take 76 = .ok (.isub, 1) := by decide +kernel
theorem dX3_take_77 : decode cX3_take 77 = .ok (.iastore, 1) := by decide +kernel
theorem dX3_take_78 : decode cX3_take 78 = .ok (.aload_n 0, 1) := by decide +kernel
theorem dX3_take_79 : decode cX3_take 79 = .ok (.getfield 10, 3) := by decide +kernel
theorem dX3_take_82 : decode cX3_take 82 = .ok (.getfield 117, 3) := by decide +kernel
theorem dX3_take_85 : decode cX3_take 85 = .ok (.iload_n 1, 1) := by decide +kernel
theorem dX3_take_86 : decode cX3_take 86 = .ok (.iaload, 1) := by decide +kernel
theorem dX3_take_87 : decode cX3_take 87 = .ok (.ireturn, 1) := by decide +kernel
theorem dX3_bag_0 : decode cX3_bag 0 = .ok (.iload_n 1, 1) := by decide +kernel
theorem dX3_bag_1 : decode cX3_bag 1 = .ok (.iconst 0, 1) := by decide +kernel
theorem dX3_bag_2 : decode cX3_bag 2 = .ok (.bipush 20, 2) := by decide +kernel
theorem dX3_bag_4 : decode cX3_bag 4 = .ok (.invokestatic 120, 3) := by decide +kernel
theorem dX3_bag_7 : decode cX3_bag 7 = .ok (.ifCond .ne 10, 3) := by decide +kernel
theorem dX3_bag_10 : decode cX3_bag 10 = .ok (.aload_n 0, 1) := by decide +kernel
theorem dX3_bag_11 : decode cX3_bag 11 = .ok (.ldc 53, 2) := by decide +kernel
theorem dX3_bag_13 : decode cX3_bag 13 = .ok (.invokevirtual 54, 3) := by decide +kernel
theorem dX3_bag_16 : decode cX3_bag 16 = .ok (.ireturn, 1) := by decide +kernel
theorem dX3_bag_17 : decode cX3_bag 17 = .ok (.aload_n 0, 1) := by decide +kernel
theorem dX3_bag_18 : decode cX3_bag 18 = .ok (.getfield 10, 3) := by decide +kernel
theorem dX3_bag_21 : decode cX3_bag 21 = .ok (.getfield 113, 3) := by decide +kernel
theorem dX3_bag_24 : decode cX3_bag 24 = .ok (.istore_n 2, 1) := by decide +kernel
theorem dX3_bag_25 : decode cX3_bag 25 = .ok (.aload_n 0, 1) := by decide +kernel
theorem dX3_bag_26 : decode cX3_bag 26 = .ok (.getfield 10, 3) := by decide +kernel
theorem dX3_bag_29 : decode cX3_bag 29 = .ok (.iload_n 1, 1) := by decide +kernel
theorem dX3_bag_30 : decode cX3_bag 30 = .ok (.putfield 113, 3) := by decide +kernel
theorem dX3_bag_33 : decode cX3_bag 33 = .ok (.iload_n 2, 1) := by decide +kernel
theorem dX3_bag_34 : decode cX3_bag 34 = .ok (.ireturn, 1) := by decide +kernel
theorem dX3_minutes_0 : decode cX3_minutes 0 = .ok (.iload_n 1, 1) := by decide +kernel
theorem dX3_minutes_1 : decode cX3_minutes 1 = .ok (.iconst 1, 1) := by decide +kernel
theorem dX3_minutes_2 : decode cX3_minutes 2 = .ok (.bipush 100, 2) := by decide +kernel
theorem dX3_minutes_4 : decode cX3_minutes 4 = .ok (.invokestatic 120, 3) := by decide +kernel
theorem dX3_minutes_7 : decode cX3_minutes 7 = .ok (.ifCond .ne 10, 3) := by decide +kernel
theorem dX3_minutes_10 : decode cX3_minutes 10 = .ok (.aload_n 0, 1) := by decide +kernel
theorem dX3_minutes_11 : decode cX3_minutes 11 = .ok (.ldc 53, 2) := by decide +kernel
theorem dX3_minutes_13 : decode cX3_minutes 13 = .ok (.invokevirtual 54, 3) := by decide +kernel
theorem dX3_minutes_16 : decode cX3_minutes 16 = .ok (.ireturn, 1) := by decide +kernel
theorem dX3_minutes_17 : decode cX3_minutes 17 = .ok (.aload_n 0, 1) := by decide +kernel
theorem dX3_minutes_18 : decode cX3_minutes 18 = .ok (.getfield 10, 3) := by decide +kernel
theorem dX3_minutes_21 : decode cX3_minutes 21 = .ok (.getfield 124, 3) := by decide +kernel
theorem dX3_minutes_24 : decode cX3_minutes 24 = .ok (.iload_n 1, 1) := by decide +kernel
theorem dX3_minutes_25 : decode cX3_minutes 25 = .ok (.iadd, 1) := by decide +kernel
theorem dX3_minutes_26 : decode cX3_minutes 26 = .ok (.ldc 127, 2) := by decide +kernel
theorem dX3_minutes_28 : decode cX3_minutes 28 = .ok (.if_icmp .le 10, 3) := by decide +kernel
theorem dX3_minutes_31 : decode cX3_minutes 31 = .ok (.aload_n 0, 1) := by decide +kernel
theorem dX3_minutes_32 : decode cX3_minutes 32 = .ok (.ldc 128, 2) := by decide +kernel
theorem dX3_minutes_34 : decode cX3_minutes 34 = .ok (.invokevirtual 54, 3) := by decide +kernel
theorem dX3_minutes_37 : decode cX3_minutes 37 = .ok (.ireturn, 1) := by decide +kernel
theorem dX3_minutes_38 : decode cX3_minutes 38 = .ok (.aload_n 0, 1) := by decide +kernel
theorem dX3_minutes_39 : decode cX3_minutes 39 = .ok (.getfield 10, 3) := by decide +kernel
theorem dX3_minutes_42 : decode cX3_minutes 42 = .ok (.iload_n 1, 1) := by decide +kernel
theorem dX3_minutes_43 : decode cX3_minutes 43 = .ok (.invokevirtual 129, 3) := by decide +kernel
theorem dX3_minutes_46 : decode cX3_minutes 46 = .ok (.sipush 10000, 3) := by decide +kernel
theorem dX3_minutes_49 : decode cX3_minutes 49 = .ok (.aload_n 0, 1) := by decide +kernel
theorem dX3_minutes_50 : decode cX3_minutes 50 = .ok (.getfield 10, 3) := by decide +kernel
theorem dX3_minutes_53 : decode cX3_minutes 53 = .ok (.invokevirtual 133, 3) := by decide +kernel
theorem dX3_minutes_56 : decode cX3_minutes 56 = .ok (.iadd, 1) := by decide +kernel
theorem dX3_minutes_57 : decode cX3_minutes 57 = .ok (.ireturn, 1) := by decide +kernel
theorem dX3_now_0 : decode cX3_now 0 = .ok (.iload_n 1, 1) := by decide +kernel
theorem dX3_now_1 : decode cX3_now 1 = .ok (.tableswitch 141 0 6 #[43, 51, 59, 71, 87, 105, 123], 43) := by decide +kernel
theorem dX3_now_44 : decode cX3_now 44 = .ok (.aload_n 0, 1) := by decide +kernel
theorem dX3_now_45 : decode cX3_now 45 = .ok (.getfield 10, 3) := by decide +kernel
theorem dX3_now_48 : decode cX3_now 48 = .ok (.getfield 124, 3) := by decide +kernel
theorem dX3_now_51 : decode cX3_now 51 = .ok (.ireturn, 1) := by decide +kernel
theorem dX3_now_52 : decode cX3_now 52 = .ok (.aload_n 0, 1) := by decide +kernel
theorem dX3_now_53 : decode cX3_now 53 = .ok (.getfield 10, 3) := by decide +kernel
theorem dX3_now_56 : decode cX3_now 56 = .ok (.getfield 113, 3) := by decide +kernel
theorem dX3_now_59 : decode cX3_now 59 = .ok (.ireturn, 1) := by decide +kernel
theorem dX3_now_60 : decode cX3_now 60 = .ok (.sipush 10000, 3) := by decide +kernel
theorem dX3_now_63 : decode cX3_now 63 = .ok (.aload_n 0, 1) := by decide +kernel
theorem dX3_now_64 : decode cX3_now 64 = .ok (.getfield 10, 3) := by decide +kernel
theorem dX3_now_67 : decode cX3_now 67 = .ok (.invokevirtual 133, 3) := by decide +kernel
theorem dX3_now_70 : decode cX3_now 70 = .ok (.iadd, 1) := by decide +kernel
theorem dX3_now_71 : decode cX3_now 71 = .ok (.ireturn, 1) := by decide +kernel
theorem dX3_now_72 : decode cX3_now 72 = .ok (.aload_n 0, 1) := by decide +kernel
theorem dX3_now_73 : decode cX3_now 73 = .ok (.getfield 10, 3) := by decide +kernel
theorem dX3_now_76 : decode cX3_now 76 = .ok (.invokevirtual 137, 3) := by decide +kernel
theorem dX3_now_79 : decode cX3_now 79 = .ok (.ifCond .eq 7, 3) := by decide +kernel
theorem dX3_now_82 : decode cX3_now 82 = .ok (.iconst 1, 1) := by decide +kernel
theorem dX3_now_83 : decode cX3_now 83 = .ok (.goto 4, 3) := by decide +kernel
theorem dX3_now_86 : decode cX3_now 86 = .ok (.iconst 0, 1) := by decide +kernel
theorem dX3_now_87 : decode cX3_now 87 = .ok (.ireturn, 1) := by decide +kernel
theorem dX3_now_88 : decode cX3_now 88 = .ok (.aload_n 0, 1) := by decide +kernel
theorem dX3_now_89 : decode cX3_now 89 = .ok (.getfield 10, 3) := by decide +kernel
theorem dX3_now_92 : decode cX3_now 92 = .ok (.iconst 0, 1) := by decide +kernel
theorem dX3_now_93 : decode cX3_now 93 = .ok (.invokevirtual 110, 3) := by decide +kernel
theorem dX3_now_96 : decode cX3_now 96 = .ok (.aload_n 0, 1) := by decide +kernel
theorem dX3_now_97 : decode cX3_now 97 = .ok (.getfield 10, 3) := by decide +kernel
theorem dX3_now_100 : decode cX3_now 100 = .ok (.iconst 1, 1) := by decide +kernel
theorem dX3_now_101 : decode cX3_now 101 = .ok (.invokevirtual 110, 3) := by decide +kernel
theorem dX3_now_104 : decode cX3_now 104 = .ok (.ior, 1) := by decide +kernel
theorem dX3_now_105 : decode cX3_now 105 = .ok (.ireturn, 1) := by decide +kernel
theorem dX3_now_106 : decode cX3_now 106 = .ok (.aload_n 0, 1) := by decide +kernel
theorem dX3_now_107 : decode cX3_now 107 = .ok (.getfield 10, 3) := by decide +kernel
theorem dX3_now_110 : decode cX3_now 110 = .ok (.getfield 72, 3) := by decide +kernel
theorem dX3_now_113 : decode cX3_now 113 = .ok (.aload_n 0, 1) := by decide +kernel
theorem dX3_now_114 : decode cX3_now 114 = .ok (.getfield 10, 3) := by decide +kernel
theorem dX3_now_117 : decode cX3_now 117 = .ok (.getfield 58, 3) := by decide +kernel
theorem dX3_now_120 : decode cX3_now 120 = .ok (.invokestatic 141, 3) := by decide +kernel
theorem dX3_now_123 : decode cX3_now 123 = .ok (.ireturn, 1) := by decide +kernel
theorem dX3_now_124 : decode cX3_now 124 = .ok (.aload_n 0, 1) := by decide +kernel
theorem dX3_now_125 : decode cX3_now 125 = .ok (.getfield 10, 3) := by decide +kernel
theorem dX3_now_128 : decode cX3_now 128 = .ok (.getfield 75, 3) := by decide +kernel
theorem dX3_now_131 : decode cX3_now 131 = .ok (.aload_n 0, 1) := by decide +kernel
theorem dX3_now_132 : decode cX3_now 132 = .ok (.getfield 10, 3) := by decide +kernel
theorem dX3_now_135 : decode cX3_now 135 = .ok (.getfield 58, 3) := by decide +kernel
theorem dX3_now_138 : decode cX3_now 138 = .ok (.invokestatic 141, 3) := by decide +kernel
theorem dX3_now_141 : decode cX3_now 141 = .ok (.ireturn, 1) := by decide +kernel
theorem dX3_now_142 : decode cX3_now 142 = .ok (.aload_n 0, 1) := by decide +kernel
theorem dX3_now_143 : decode cX3_now 143 = .ok (.ldc 53, 2) := by decide +kernel
theorem dX3_now_145 : decode cX3_now 145 = .ok (.invokevirtual 54, 3) := by decide +kernel
theorem dX3_now_148 : decode cX3_now 148 = .ok (.ireturn, 1) := by decide +kernel
theorem dX3_on_0 : decode cX3_on 0 = .ok (.aload_n 0, 1) := by decide +kernel
theorem dX3_on_1 : decode cX3_on 1 = .ok (.iload_n 1, 1) := by decide +kernel
theorem dX3_on_2 : decode cX3_on 2 = .ok (.invokevirtual 66, 3) := by decide +kernel
theorem dX3_on_5 : decode cX3_on 5 = .ok (.ifCond .eq 22, 3) := by decide +kernel
theorem dX3_on_8 : decode cX3_on 8 = .ok (.iload_n 2, 1) := by decide +kernel
theorem dX3_on_9 : decode cX3_on 9 = .ok (.iconst 0, 1) := by decide +kernel
theorem dX3_on_10 : decode cX3_on 10 = .ok (.bipush 100, 2) := by decide +kernel
theorem dX3_on_12 : decode cX3_on 12 = .ok (.invokestatic 120, 3) := by decide +kernel
theorem dX3_on_15 : decode cX3_on 15 = .ok (.ifCond .eq 12, 3) := by decide +kernel
theorem dX3_on_18 : decode cX3_on 18 = .ok (.iload_n 3, 1) := by decide +kernel
theorem dX3_on_19 : decode cX3_on 19 = .ok (.iconst 0, 1) := by decide +kernel
theorem dX3_on_20 : decode cX3_on 20 = .ok (.iconst 1, 1) := by decide +kernel
theorem dX3_on_21 : decode cX3_on 21 = .ok (.invokestatic 120, 3) := by decide +kernel
theorem dX3_on_24 : decode cX3_on 24 = .ok (.ifCond .ne 10, 3) := by decide +kernel
theorem dX3_on_27 : decode cX3_on 27 = .ok (.aload_n 0, 1) := by decide +kernel
theorem dX3_on_28 : decode cX3_on 28 = .ok (.ldc 53, 2) := by decide +kernel
theorem dX3_on_30 : decode cX3_on 30 = .ok (.invokevirtual 54, 3) := by decide +kernel
theorem dX3_on_33 : decode cX3_on 33 = .ok (.ireturn, 1) := by decide +kernel
theorem dX3_on_34 : decode cX3_on 34 = .ok (.aload_n 0, 1) := by decide +kernel
theorem dX3_on_35 : decode cX3_on 35 = .ok (.getfield 19, 3) := by decide +kernel
theorem dX3_on_38 : decode cX3_on 38 = .ok (.aload_n 0, 1) := by decide +kernel
theorem dX3_on_39 : decode cX3_on 39 = .ok (.getfield 10, 3) := by decide +kernel
theorem dX3_on_42 : decode cX3_on 42 = .ok (.invokevirtual 145, 3) := by decide +kernel
theorem dX3_on_45 : decode cX3_on 45 = .ok (.aload_n 0, 1) := by decide +kernel
theorem dX3_on_46 : decode cX3_on 46 = .ok (.getfield 19, 3) := by decide +kernel
theorem dX3_on_49 : decode cX3_on 49 = .ok (.iload_n 2, 1) := by decide +kernel
theorem dX3_on_50 : decode cX3_on 50 = .ok (.invokevirtual 129, 3) := by decide +kernel
theorem dX3_on_53 : decode cX3_on 53 = .ok (.iload_n 3, 1) := by decide +kernel
theorem dX3_on_54 : decode cX3_on 54 = .ok (.ifCond .ne 15, 3) := by decide +kernel
theorem dX3_on_57 : decode cX3_on 57 = .ok (.aload_n 0, 1) := by decide +kernel
theorem dX3_on_58 : decode cX3_on 58 = .ok (.getfield 19, 3) := by decide +kernel
theorem dX3_on_61 : decode cX3_on 61 = .ok (.getfield 72, 3) := by decide +kernel
theorem dX3_on_64 : decode cX3_on 64 = .ok (.iload_n 1, 1) := by decide +kernel
theorem dX3_on_65 : decode cX3_on 65 = .ok (.iaload, 1) := by decide +kernel
theorem dX3_on_66 : decode cX3_on 66 = .ok (.goto 12, 3) := by decide +kernel
theorem dX3_on_69 : decode cX3_on 69 = .ok (.aload_n 0, 1) := by decide +kernel
theorem dX3_on_70 : decode cX3_on 70 = .ok (.getfield 19, 3) := by decide +kernel
theorem dX3_on_73 : decode cX3_on 73 = .ok (.getfield 75, 3) := by decide +kernel
theorem dX3_on_76 : decode cX3_on 76 = .ok (.iload_n 1, 1) := by decide +kernel
theorem dX3_on_77 : decode cX3_on 77 = .ok (.iaload, 1) := by decide +kernel
theorem dX3_on_78 : decode cX3_on 78 = .ok (.ireturn, 1) := by decide +kernel
theorem dX3_tilt_0 : decode cX3_tilt 0 = .ok (.iload_n 1, 1) := by decide +kernel
theorem dX3_tilt_1 : decode cX3_tilt 1 = .ok (.iconst 0, 1) := by decide +kernel
theorem dX3_tilt_2 : decode cX3_tilt 2 = .ok (.bipush 100, 2) := by decide +kernel
theorem dX3_tilt_4 : decode cX3_tilt 4 = .ok (.invokestatic 120, 3) := by decide +kernel
theorem dX3_tilt_7 : decode cX3_tilt 7 = .ok (.ifCond .ne 10, 3) := by decide +kernel
theorem dX3_tilt_10 : decode cX3_tilt 10 = .ok (.aload_n 0, 1) := by decide +kernel
theorem dX3_tilt_11 : decode cX3_tilt 11 = .ok (.ldc 53, 2) := by decide +kernel
theorem dX3_tilt_13 : decode cX3_tilt 13 = .ok (.invokevirtual 54, 3) := by decide +kernel
theorem dX3_tilt_16 : decode cX3_tilt 16 = .ok (.ireturn, 1) := by decide +kernel
theorem dX3_tilt_17 : decode cX3_tilt 17 = .ok (.aload_n 0, 1) := by decide +kernel
theorem dX3_tilt_18 : decode cX3_tilt 18 = .ok (.getfield 19, 3) := by decide +kernel
theorem dX3_tilt_21 : decode cX3_tilt 21 = .ok (.aload_n 0, 1) := by decide +kernel
theorem dX3_tilt_22 : decode cX3_tilt 22 = .ok (.getfield 10, 3) := by decide +kernel
theorem dX3_tilt_25 : decode cX3_tilt 25 = .ok (.invokevirtual 145, 3) := by decide +kernel
theorem dX3_tilt_28 : decode cX3_tilt 28 = .ok (.aload_n 0, 1) := by decide +kernel
theorem dX3_tilt_29 : decode cX3_tilt 29 = .ok (.getfield 19, 3) := by decide +kernel
theorem dX3_tilt_32 : decode cX3_tilt 32 = .ok (.iload_n 1, 1) := by decide +kernel
theorem dX3_tilt_33 : decode cX3_tilt 33 = .ok (.invokevirtual 129, 3) := by decide +kernel
theorem dX3_tilt_36 : decode cX3_tilt 36 = .ok (.sipush 10000, 3) := by decide +kernel
theorem dX3_tilt_39 : decode cX3_tilt 39 = .ok (.aload_n 0, 1) := by decide +kernel
theorem dX3_tilt_40 : decode cX3_tilt 40 = .ok (.getfield 19, 3) := by decide +kernel
theorem dX3_tilt_43 : decode cX3_tilt 43 = .ok (.invokevirtual 133, 3) := by decide +kernel
theorem dX3_tilt_46 : decode cX3_tilt 46 = .ok (.iadd, 1) := by decide +kernel
theorem dX3_tilt_47 : decode cX3_tilt 47 = .ok (.ireturn, 1) := by decide +kernel
theorem dX3_level_0 : decode cX3_level 0 = .ok (.aload_n 0, 1) := by decide +kernel
theorem dX3_level_1 : decode cX3_level 1 = .ok (.getfield 19, 3) := by decide +kernel
theorem dX3_level_4 : decode cX3_level 4 = .ok (.aload_n 0, 1) := by decide +kernel
theorem dX3_level_5 : decode cX3_level 5 = .ok (.getfield 10, 3) := by decide +kernel
theorem dX3_level_8 : decode cX3_level 8 = .ok (.invokevirtual 145, 3) := by decide +kernel
theorem dX3_level_11 : decode cX3_level 11 = .ok (.iconst 0, 1) := by decide +kernel
theorem dX3_level_12 : decode cX3_level 12 = .ok (.istore_n 1, 1) := by decide +kernel
theorem dX3_level_13 : decode cX3_level 13 = .ok (.iload_n 1, 1) := by decide +kernel
theorem dX3_level_14 : decode cX3_level 14 = .ok (.bipush 100, 2) := by decide +kernel
theorem dX3_level_16 : decode cX3_level 16 = .ok (.if_icmp .gt 29, 3) := by decide +kernel
theorem dX3_level_19 : decode cX3_level 19 = .ok (.aload_n 0, 1) := by decide +kernel
theorem dX3_level_20 : decode cX3_level 20 = .ok (.getfield 19, 3) := by decide +kernel
theorem dX3_level_23 : decode cX3_level 23 = .ok (.invokevirtual 137, 3) := by decide +kernel
theorem dX3_level_26 : decode cX3_level 26 = .ok (.ifCond .eq 5, 3) := by decide +kernel
theorem dX3_level_29 : decode cX3_level 29 = .ok (.iload_n 1, 1) := by decide +kernel
theorem dX3_level_30 : decode cX3_level 30 = .ok (.ireturn, 1) := by decide +kernel
theorem dX3_level_31 : decode cX3_level 31 = .ok (.aload_n 0, 1) := by decide +kernel
theorem dX3_level_32 : decode cX3_level 32 = .ok (.getfield 19, 3) := by decide +kernel
theorem dX3_level_35 : decode cX3_level 35 = .ok (.iconst 1, 1) := by decide +kernel
theorem dX3_level_36 : decode cX3_level 36 = .ok (.invokevirtual 129, 3) := by decide +kernel
theorem dX3_level_39 : decode cX3_level 39 = .ok (.iinc 1 1, 3) := by decide +kernel
theorem dX3_level_42 : decode cX3_level 42 = .ok (.goto (-29), 3) := by decide +kernel
theorem dX3_level_45 : decode cX3_level 45 = .ok (.aload_n 0, 1) := by decide +kernel
theorem dX3_level_46 : decode cX3_level 46 = .ok (.ldc 116, 2) := by decide +kernel
theorem dX3_level_48 : decode cX3_level 48 = .ok (.invokevirtual 54, 3) := by decide +kernel
theorem dX3_level_51 : decode cX3_level 51 = .ok (.ireturn, 1) := by decide +kernel
theorem dX3_mixed_0 : decode cX3_mixed 0 = .ok (.aload_n 0, 1) := by decide +kernel
theorem dX3_mixed_1 : decode cX3_mixed 1 = .ok (.iload_n 1, 1) := by decide +kernel
theorem dX3_mixed_2 : decode cX3_mixed 2 = .ok (.invokevirtual 66, 3) := by decide +kernel
theorem dX3_mixed_5 : decode cX3_mixed 5 = .ok (.ifCond .ne 10, 3) := by decide +kernel
theorem dX3_mixed_8 : decode cX3_mixed 8 = .ok (.aload_n 0, 1) := by decide +kernel
theorem dX3_mixed_9 : decode cX3_mixed 9 = .ok (.ldc 53, 2) := by decide +kernel
theorem dX3_mixed_11 : decode cX3_mixed 11 = .ok (.invokevirtual 54, 3) := by decide +kernel
theorem dX3_mixed_14 : decode cX3_mixed 14 = .ok (.ireturn, 1) := by decide +kernel
theorem dX3_mixed_15 : decode cX3_mixed 15 = .ok (.aload_n 0, 1) := by decide +kernel
theorem dX3_mixed_16 : decode cX3_mixed 16 = .ok (.getfield 19, 3) := by decide +kernel
theorem dX3_mixed_19 : decode cX3_mixed 19 = .ok (.aload_n 0, 1) := by decide +kernel
theorem dX3_mixed_20 : decode cX3_mixed 20 = .ok (.getfield 10, 3) := by decide +kernel
theorem dX3_mixed_23 : decode cX3_mixed 23 = .ok (.invokevirtual 145, 3) := by decide +kernel
theorem dX3_mixed_26 : decode cX3_mixed 26 = .ok (.iconst 0, 1) := by decide +kernel
theorem dX3_mixed_27 : decode cX3_mixed 27 = .ok (.istore_n 2, 1) := by decide +kernel
theorem dX3_mixed_28 : decode cX3_mixed 28 = .ok (.iload_n 2, 1) := by decide +kernel
theorem dX3_mixed_29 : decode cX3_mixed 29 = .ok (.bipush 100, 2) := by decide +kernel
theorem dX3_mixed_31 : decode cX3_mixed 31 = .ok (.if_icmp .gt 40, 3) := by decide +kernel
theorem dX3_mixed_34 : decode cX3_mixed 34 = .ok (.aload_n 0, 1) := by decide +kernel
theorem dX3_mixed_35 : decode cX3_mixed 35 = .ok (.getfield 19, 3) := by decide +kernel
theorem dX3_mixed_38 : decode cX3_mixed 38 = .ok (.getfield 72, 3) := by decide +kernel
theorem dX3_mixed_41 : decode cX3_mixed 41 = .ok (.iload_n 1, 1) := by decide +kernel
theorem dX3_mixed_42 : decode cX3_mixed 42 = .ok (.iaload, 1) := by decide +kernel
theorem dX3_mixed_43 : decode cX3_mixed 43 = .ok (.aload_n 0, 1) := by decide +kernel
theorem dX3_mixed_44 : decode cX3_mixed 44 = .ok (.getfield 19, 3) := by decide +kernel
theorem dX3_mixed_47 : decode cX3_mixed 47 = .ok (.getfield 75, 3) := by decide +kernel
theorem dX3_mixed_50 : decode cX3_mixed 50 = .ok (.iload_n 1, 1) := by decide +kernel
theorem dX3_mixed_51 : decode cX3_mixed 51 = .ok (.iaload, 1) := by decide +kernel
theorem dX3_mixed_52 : decode cX3_mixed 52 = .ok (.if_icmp .ne 5, 3) := by decide +kernel
theorem dX3_mixed_55 : decode cX3_mixed 55 = .ok (.iload_n 2, 1) := by decide +kernel
theorem dX3_mixed_56 : decode cX3_mixed 56 = .ok (.ireturn, 1) := by decide +kernel
theorem dX3_mixed_57 : decode cX3_mixed 57 = .ok (.aload_n 0, 1) := by decide +kernel
theorem dX3_mixed_58 : decode cX3_mixed 58 = .ok (.getfield 19, 3) := by decide +kernel
theorem dX3_mixed_61 : decode cX3_mixed 61 = .ok (.iconst 1, 1) := by decide +kernel
theorem dX3_mixed_62 : decode cX3_mixed 62 = .ok (.invokevirtual 129, 3) := by decide +kernel
theorem dX3_mixed_65 : decode cX3_mixed 65 = .ok (.iinc 2 1, 3) := by decide +kernel
theorem dX3_mixed_68 : decode cX3_mixed 68 = .ok (.goto (-40), 3) := by decide +kernel
theorem dX3_mixed_71 : decode cX3_mixed 71 = .ok (.aload_n 0, 1) := by decide +kernel
theorem dX3_mixed_72 : decode cX3_mixed 72 = .ok (.ldc 116, 2) := by decide +kernel
theorem dX3_mixed_74 : decode cX3_mixed 74 = .ok (.invokevirtual 54, 3) := by decide +kernel
theorem dX3_mixed_77 : decode cX3_mixed 77 = .ok (.ireturn, 1) := by decide +kernel
theorem dX3_match_0 : decode cX3_match 0 = .ok (.aload_n 0, 1) := by decide +kernel
theorem dX3_match_1 : decode cX3_match 1 = .ok (.iload_n 1, 1) := by decide +kernel
theorem dX3_match_2 : decode cX3_match 2 = .ok (.invokevirtual 66, 3) := by decide +kernel
theorem dX3_match_5 : decode cX3_match 5 = .ok (.ifCond .ne 10, 3) := by decide +kernel
theorem dX3_match_8 : decode cX3_match 8 = .ok (.aload_n 0, 1) := by decide +kernel
theorem dX3_match_9 : decode cX3_match 9 = .ok (.ldc 53, 2) := by decide +kernel
theorem dX3_match_11 : decode cX3_match 11 = .ok (.invokevirtual 54, 3) := by decide +kernel
theorem dX3_match_14 : decode cX3_match 14 = .ok (.ireturn, 1) := by decide +kernel
theorem dX3_match_15 : decode cX3_match 15 = .ok (.aload_n 0, 1) := by decide +kernel
theorem dX3_match_16 : decode cX3_match 16 = .ok (.getfield 10, 3) := by decide +kernel
theorem dX3_match_19 : decode cX3_match 19 = .ok (.iload_n 1, 1) := by decide +kernel
theorem dX3_match_20 : decode cX3_match 20 = .ok (.invokevirtual 85, 3) := by decide +kernel
theorem dX3_match_23 : decode cX3_match 23 = .ok (.istore_n 2, 1) := by decide +kernel
theorem dX3_match_24 : decode cX3_match 24 = .ok (.iconst 0, 1) := by decide +kernel
theorem dX3_match_25 : decode cX3_match 25 = .ok (.istore_n 3, 1) := by decide +kernel
theorem dX3_match_26 : decode cX3_match 26 = .ok (.iconst 0, 1) := by decide +kernel
theorem dX3_match_27 : decode cX3_match 27 = .ok (.istore 4, 2) := by decide +kernel
theorem dX3_match_29 : decode cX3_match 29 = .ok (.iload 4, 2) := by decide +kernel
theorem dX3_match_31 : decode cX3_match 31 = .ok (.aload_n 0, 1) := by decide +kernel
theorem dX3_match_32 : decode cX3_match 32 = .ok (.getfield 10, 3) := by decide +kernel
theorem dX3_match_35 : decode cX3_match 35 = .ok (.getfield 58, 3) := by decide +kernel
theorem dX3_match_38 : decode cX3_match 38 = .ok (.if_icmp .ge 36, 3) := by decide +kernel
theorem dX3_match_41 : decode cX3_match 41 = .ok (.iload 4, 2) := by decide +kernel
theorem dX3_match_43 : decode cX3_match 43 = .ok (.iload_n 1, 1) := by decide +kernel
theorem dX3_match_44 : decode cX3_match 44 = .ok (.if_icmp .eq 24, 3) := by decide +kernel
theorem dX3_match_47 : decode cX3_match 47 = .ok (.iload_n 2, 1) := by decide +kernel
theorem dX3_match_48 : decode cX3_match 48 = .ok (.aload_n 0, 1) := by decide +kernel
theorem dX3_match_49 : decode cX3_match 49 = .ok (.getfield 10, 3) := by decide +kernel
theorem dX3_match_52 : decode cX3_match 52 = .ok (.iload 4, 2) := by decide +kernel
theorem dX3_match_54 : decode cX3_match 54 = .ok (.invokevirtual 85, 3) := by decide +kernel
theorem dX3_match_57 : decode cX3_match 57 = .ok (.iadd, 1) := by decide +kernel
theorem dX3_match_58 : decode cX3_match 58 = .ok (.ifCond .ne 10, 3) := by decide +kernel
theorem dX3_match_61 : decode cX3_match 61 = .ok (.iload_n 3, 1) := by decide +kernel
theorem dX3_match_62 : decode cX3_match 62 = .ok (.iconst 1, 1) := by decide +kernel
theorem dX3_match_63 : decode cX3_match 63 = .ok (.iload 4, 2) := by decide +kernel
theorem dX3_match_65 : decode cX3_match 65 = .ok (.ishl, 1) := by decide +kernel
theorem dX3_match_66 : decode cX3_match 66 = .ok (.ior, 1) := by decide +kernel
theorem dX3_match_67 : decode cX3_match 67 = .ok (.istore_n 3, 1) := by decide +kernel
theorem dX3_match_68 : decode cX3_match 68 = .ok (.iinc 4 1, 3) := by decide +kernel
theorem dX3_match_71 : decode cX3_match 71 = .ok (.goto (-42), 3) := by decide +kernel
theorem dX3_match_74 : decode cX3_match 74 = .ok (.iload_n 3, 1) := by decide +kernel
theorem dX3_match_75 : decode cX3_match 75 = .ok (.ireturn, 1) := by decide +kernel
theorem dX3_seats_0 : decode cX3_seats 0 = .ok (.aload_n 0, 1) := by decide +kernel
theorem dX3_seats_1 : decode cX3_seats 1 = .ok (.getfield 10, 3) := by decide +kernel
theorem dX3_seats_4 : decode cX3_seats 4 = .ok (.getfield 58, 3) := by decide +kernel
theorem dX3_seats_7 : decode cX3_seats 7 = .ok (.iconst 2, 1) := by decide +kernel
theorem dX3_seats_8 : decode cX3_seats 8 = .ok (.if_icmp .ge 10, 3) := by decide +kernel
theorem dX3_seats_11 : decode cX3_seats 11 = .ok (.aload_n 0, 1) := by decide +kernel
theorem dX3_seats_12 : decode cX3_seats 12 = .ok (.ldc 149, 2) := by decide +kernel
theorem dX3_seats_14 : decode cX3_seats 14 = .ok (.invokevirtual 54, 3) := by decide +kernel
theorem dX3_seats_17 : decode cX3_seats 17 = .ok (.ireturn, 1) := by decide +kernel
theorem dX3_seats_18 : decode cX3_seats 18 = .ok (.aload_n 0, 1) := by decide +kernel
theorem dX3_seats_19 : decode cX3_seats 19 = .ok (.invokevirtual 150, 3) := by decide +kernel
theorem dX3_seats_22 : decode cX3_seats 22 = .ok (.iconst 2, 1) := by decide +kernel
theorem dX3_seats_23 : decode cX3_seats 23 = .ok (.aload_n 0, 1) := by decide +kernel
theorem dX3_seats_24 : decode cX3_seats 24 = .ok (.getfield 10, 3) := by decide +kernel
theorem dX3_seats_27 : decode cX3_seats 27 = .ok (.getfield 117, 3) := by decide +kernel
theorem dX3_seats_30 : decode cX3_seats 30 = .ok (.iconst 0, 1) := by decide +kernel
theorem dX3_seats_31 : decode cX3_seats 31 = .ok (.iaload, 1) := by decide +kernel
theorem dX3_seats_32 : decode cX3_seats 32 = .ok (.aload_n 0, 1) := by decide +kernel
theorem dX3_seats_33 : decode cX3_seats 33 = .ok (.getfield 10, 3) := by decide +kernel
theorem dX3_seats_36 : decode cX3_seats 36 = .ok (.getfield 117, 3) := by decide +kernel
theorem dX3_seats_39 : decode cX3_seats 39 = .ok (.iconst 1, 1) := by decide +kernel
theorem dX3_seats_40 : decode cX3_seats 40 = .ok (.iaload, 1) := by decide +kernel
theorem dX3_seats_41 : decode cX3_seats 41 = .ok (.iadd, 1) := by decide +kernel
theorem dX3_seats_42 : decode cX3_seats 42 = .ok (.imul, 1) := by decide +kernel
theorem dX3_seats_43 : decode cX3_seats 43 = .ok (.istore_n 1, 1) := by decide +kernel
theorem dX3_seats_44 : decode cX3_seats 44 = .ok (.iconst 0, 1) := by decide +kernel
theorem dX3_seats_45 : decode cX3_seats 45 = .ok (.istore_n 2, 1) := by decide +kernel
theorem dX3_seats_46 : decode cX3_seats 46 = .ok (.iconst 0, 1) := by decide +kernel
theorem dX3_seats_47 : decode cX3_seats 47 = .ok (.istore_n 3, 1) := by decide +kernel
theorem dX3_seats_48 : decode cX3_seats 48 = .ok (.iconst 3, 1) := by decide +kernel
theorem dX3_seats_49 : decode cX3_seats 49 = .ok (.istore 4, 2) := by decide +kernel
theorem dX3_seats_51 : decode cX3_seats 51 = .ok (.iload 4, 2) := by decide +kernel
theorem dX3_seats_53 : decode cX3_seats 53 = .ok (.iconst 1, 1) := by decide +kernel
theorem dX3_seats_54 : decode cX3_seats 54 = .ok (.aload_n 0, 1) := by decide +kernel
theorem dX3_seats_55 : decode cX3_seats 55 = .ok (.getfield 10, 3) := by decide +kernel
theorem dX3_seats_58 : decode cX3_seats 58 = .ok (.getfield 58, 3) := by decide +kernel
theorem dX3_seats_61 : decode cX3_seats 61 = .ok (.ishl, 1) := by decide +kernel
theorem dX3_seats_62 : decode cX3_seats 62 = .ok (.if_icmp .ge 47, 3) := by decide +kernel
theorem dX3_seats_65 : decode cX3_seats 65 = .ok (.iload 4, 2) := by decide +kernel
theorem dX3_seats_67 : decode cX3_seats 67 = .ok (.invokestatic 153, 3) := by decide +kernel
theorem dX3_seats_70 : decode cX3_seats 70 = .ok (.iconst 2, 1) := by decide +kernel
theorem dX3_seats_71 : decode cX3_seats 71 = .ok (.if_icmp .lt 32, 3) := by decide +kernel
theorem dX3_seats_74 : decode cX3_seats 74 = .ok (.aload_n 0, 1) := by decide +kernel
theorem dX3_seats_75 : decode cX3_seats 75 = .ok (.iload 4, 2) := by decide +kernel
theorem dX3_seats_77 : decode cX3_seats 77 = .ok (.invokevirtual 158, 3) := by decide +kernel
theorem dX3_seats_80 : decode cX3_seats 80 = .ok (.iload_n 1, 1) := by decide +kernel
theorem dX3_seats_81 : decode cX3_seats 81 = .ok (.isub, 1) := by decide +kernel
theorem dX3_seats_82 : decode cX3_seats 82 = .ok (.invokestatic 161, 3) := by decide +kernel
theorem dX3_seats_85 : decode cX3_seats 85 = .ok (.istore 5, 2) := by decide +kernel
theorem dX3_seats_87 : decode cX3_seats 87 = .ok (.iload_n 2, 1) := by decide +kernel
theorem dX3_seats_88 : decode cX3_seats 88 = .ok (.ifCond .eq 9, 3) := by decide +kernel
theorem dX3_seats_91 : decode cX3_seats 91 = .ok (.iload 5, 2) := by decide +kernel
theorem dX3_seats_93 : decode cX3_seats 93 = .ok (.iload_n 3, 1) := by decide +kernel
theorem dX3_seats_94 : decode cX3_seats 94 = .ok (.if_icmp .ge 9, 3) := by decide +kernel
theorem dX3_seats_97 : decode cX3_seats 97 = .ok (.iload 4, 2) := by decide +kernel
theorem dX3_seats_99 : decode cX3_seats 99 = .ok (.istore_n 2, 1) := by decide +kernel
theorem dX3_seats_100 : decode cX3_seats 100 = .ok (.iload 5, 2) := by decide +kernel
theorem dX3_seats_102 : decode cX3_seats 102 = .ok (.istore_n 3, 1) := by decide +kernel
theorem dX3_seats_103 : decode cX3_seats 103 = .ok (.iinc 4 1, 3) := by decide +kernel
theorem dX3_seats_106 : decode cX3_seats 106 = .ok (.goto (-55), 3) := by decide +kernel
theorem dX3_seats_109 : decode cX3_seats 109 = .ok (.iload_n 2, 1) := by decide +kernel
theorem dX3_seats_110 : decode cX3_seats 110 = .ok (.ireturn, 1) := by decide +kernel
theorem dX3_weights_0 : decode cX3_weights 0 = .ok (.aload_n 0, 1) := by decide +kernel
theorem dX3_weights_1 : decode cX3_weights 1 = .ok (.getfield 10, 3) := by decide +kernel
theorem dX3_weights_4 : decode cX3_weights 4 = .ok (.invokevirtual 166, 3) := by decide +kernel
theorem dX3_weights_7 : decode cX3_weights 7 = .ok (.ifCond .ne 10, 3) := by decide +kernel
theorem dX3_weights_10 : decode cX3_weights 10 = .ok (.aload_n 0, 1) := by decide +kernel
theorem dX3_weights_11 : decode cX3_weights 11 = .ok (.ldc 116, 2) := by decide +kernel
theorem dX3_weights_13 : decode cX3_weights 13 = .ok (.invokevirtual 54, 3) := by decide +kernel
theorem dX3_weights_16 : decode cX3_weights 16 = .ok (.ireturn, 1) := by decide +kernel
theorem dX3_weights_17 : decode cX3_weights 17 = .ok (.aload_n 0, 1) := by decide +kernel
theorem dX3_weights_18 : decode cX3_weights 18 = .ok (.getfield 10, 3) := by decide +kernel
theorem dX3_weights_21 : decode cX3_weights 21 = .ok (.invokevirtual 133, 3) := by decide +kernel
theorem dX3_weights_24 : decode cX3_weights 24 = .ok (.istore_n 1, 1) := by decide +kernel
theorem dX3_weights_25 : decode cX3_weights 25 = .ok (.iconst 0, 1) := by decide +kernel
theorem dX3_weights_26 : decode cX3_weights 26 = .ok (.istore_n 2, 1) := by decide +kernel
theorem dX3_weights_27 : decode cX3_weights 27 = .ok (.iload_n 2, 1) := by decide +kernel
theorem dX3_weights_28 : decode cX3_weights 28 = .ok (.aload_n 0, 1) := by decide +kernel
theorem dX3_weights_29 : decode cX3_weights 29 = .ok (.getfield 10, 3) := by decide +kernel
theorem dX3_weights_32 : decode cX3_weights 32 = .ok (.getfield 113, 3) := by decide +kernel
theorem dX3_weights_35 : decode cX3_weights 35 = .ok (.if_icmp .gt 18, 3) := by decide +kernel
theorem dX3_weights_38 : decode cX3_weights 38 = .ok (.iload_n 1, 1) := by decide +kernel
theorem dX3_weights_39 : decode cX3_weights 39 = .ok (.iconst 2, 1) := by decide +kernel
theorem dX3_weights_40 : decode cX3_weights 40 = .ok (.iload_n 2, 1) := by decide +kernel
theorem dX3_weights_41 : decode cX3_weights 41 = .ok (.imul, 1) := by decide +kernel
theorem dX3_weights_42 : decode cX3_weights 42 = .ok (.if_icmp .ne 5, 3) := by decide +kernel
theorem dX3_weights_45 : decode cX3_weights 45 = .ok (.iload_n 2, 1) := by decide +kernel
theorem dX3_weights_46 : decode cX3_weights 46 = .ok (.ireturn, 1) := by decide +kernel
theorem dX3_weights_47 : decode cX3_weights 47 = .ok (.iinc 2 1, 3) := by decide +kernel
theorem dX3_weights_50 : decode cX3_weights 50 = .ok (.goto (-23), 3) := by decide +kernel
theorem dX3_weights_53 : decode cX3_weights 53 = .ok (.aload_n 0, 1) := by decide +kernel
theorem dX3_weights_54 : decode cX3_weights 54 = .ok (.ldc 116, 2) := by decide +kernel
theorem dX3_weights_56 : decode cX3_weights 56 = .ok (.invokevirtual 54, 3) := by decide +kernel
theorem dX3_weights_59 : decode cX3_weights 59 = .ok (.ireturn, 1) := by decide +kernel
theorem dX3_sorrow_0 : decode cX3_sorrow 0 = .ok (.aload_n 0, 1) := by decide +kernel
theorem dX3_sorrow_1 : decode cX3_sorrow 1 = .ok (.iload_n 1, 1) := by decide +kernel
theorem dX3_sorrow_2 : decode cX3_sorrow 2 = .ok (.invokevirtual 66, 3) := by decide +kernel
theorem dX3_sorrow_5 : decode cX3_sorrow 5 = .ok (.ifCond .ne 10, 3) := by decide +kernel
theorem dX3_sorrow_8 : decode cX3_sorrow 8 = .ok (.aload_n 0, 1) := by decide +kernel
theorem dX3_sorrow_9 : decode cX3_sorrow 9 = .ok (.ldc 53, 2) := by decide +kernel
theorem dX3_sorrow_11 : decode cX3_sorrow 11 = .ok (.invokevirtual 54, 3) := by decide +kernel
theorem dX3_sorrow_14 : decode cX3_sorrow 14 = .ok (.ireturn, 1) := by decide +kernel
theorem dX3_sorrow_15 : decode cX3_sorrow 15 = .ok (.iconst 0, 1) := by decide +kernel
theorem dX3_sorrow_16 : decode cX3_sorrow 16 = .ok (.istore_n 2, 1) := by decide +kernel
theorem dX3_sorrow_17 : decode cX3_sorrow 17 = .ok (.iload_n 2, 1) := by decide +kernel
theorem dX3_sorrow_18 : decode cX3_sorrow 18 = .ok (.bipush 99, 2) := by decide +kernel
theorem dX3_sorrow_20 : decode cX3_sorrow 20 = .ok (.if_icmp .gt 42, 3) := by decide +kernel
theorem dX3_sorrow_23 : decode cX3_sorrow 23 = .ok (.aload_n 0, 1) := by decide +kernel
theorem dX3_sorrow_24 : decode cX3_sorrow 24 = .ok (.getfield 19, 3) := by decide +kernel
theorem dX3_sorrow_27 : decode cX3_sorrow 27 = .ok (.aload_n 0, 1) := by decide +kernel
theorem dX3_sorrow_28 : decode cX3_sorrow 28 = .ok (.getfield 10, 3) := by decide +kernel
theorem dX3_sorrow_31 : decode cX3_sorrow 31 = .ok (.invokevirtual 145, 3) := by decide +kernel
theorem dX3_sorrow_34 : decode cX3_sorrow 34 = .ok (.aload_n 0, 1) := by decide +kernel
theorem dX3_sorrow_35 : decode cX3_sorrow 35 = .ok (.getfield 19, 3) := by decide +kernel
theorem dX3_sorrow_38 : decode cX3_sorrow 38 = .ok (.iload_n 1, 1) := by decide +kernel
theorem dX3_sorrow_39 : decode cX3_sorrow 39 = .ok (.iconst 0, 1) := by decide +kernel
theorem dX3_sorrow_40 : decode cX3_sorrow 40 = .ok (.iload_n 2, 1) := by decide +kernel
theorem dX3_sorrow_41 : decode cX3_sorrow 41 = .ok (.invokevirtual 103, 3) := by decide +kernel
theorem dX3_sorrow_44 : decode cX3_sorrow 44 = .ok (.aload_n 0, 1) := by decide +kernel
theorem dX3_sorrow_45 : decode cX3_sorrow 45 = .ok (.getfield 19, 3) := by decide +kernel
theorem dX3_sorrow_48 : decode cX3_sorrow 48 = .ok (.invokevirtual 137, 3) := by decide +kernel
theorem dX3_sorrow_51 : decode cX3_sorrow 51 = .ok (.ifCond .eq 5, 3) := by decide +kernel
theorem dX3_sorrow_54 : decode cX3_sorrow 54 = .ok (.iload_n 2, 1) := by decide +kernel
theorem dX3_sorrow_55 : decode cX3_sorrow 55 = .ok (.ireturn, 1) := by decide +kernel
theorem dX3_sorrow_56 : decode cX3_sorrow 56 = .ok (.iinc 2 1, 3) := by decide +kernel
theorem dX3_sorrow_59 : decode cX3_sorrow 59 = .ok (.goto (-42), 3) := by decide +kernel
theorem dX3_sorrow_62 : decode cX3_sorrow 62 = .ok (.aload_n 0, 1) := by decide +kernel
theorem dX3_sorrow_63 : decode cX3_sorrow 63 = .ok (.ldc 116, 2) := by decide +kernel
theorem dX3_sorrow_65 : decode cX3_sorrow 65 = .ok (.invokevirtual 54, 3) := by decide +kernel
theorem dX3_sorrow_68 : decode cX3_sorrow 68 = .ok (.ireturn, 1) := by decide +kernel
theorem dX3_kind_0 : decode cX3_kind 0 = .ok (.aload_n 0, 1) := by decide +kernel
theorem dX3_kind_1 : decode cX3_kind 1 = .ok (.iload_n 1, 1) := by decide +kernel
theorem dX3_kind_2 : decode cX3_kind 2 = .ok (.invokevirtual 66, 3) := by decide +kernel
theorem dX3_kind_5 : decode cX3_kind 5 = .ok (.ifCond .ne 10, 3) := by decide +kernel
theorem dX3_kind_8 : decode cX3_kind 8 = .ok (.aload_n 0, 1) := by decide +kernel
theorem dX3_kind_9 : decode cX3_kind 9 = .ok (.ldc 53, 2) := by decide +kernel
theorem dX3_kind_11 : decode cX3_kind 11 = .ok (.invokevirtual 54, 3) := by decide +kernel
theorem dX3_kind_14 : decode cX3_kind 14 = .ok (.ireturn, 1) := by decide +kernel
theorem dX3_kind_15 : decode cX3_kind 15 = .ok (.aload_n 0, 1) := by decide +kernel
theorem dX3_kind_16 : decode cX3_kind 16 = .ok (.getfield 19, 3) := by decide +kernel
theorem dX3_kind_19 : decode cX3_kind 19 = .ok (.aload_n 0, 1) := by decide +kernel
theorem dX3_kind_20 : decode cX3_kind 20 = .ok (.getfield 10, 3) := by decide +kernel
theorem dX3_kind_23 : decode cX3_kind 23 = .ok (.invokevirtual 145, 3) := by decide +kernel
theorem dX3_kind_26 : decode cX3_kind 26 = .ok (.iconst (-1), 1) := by decide +kernel
theorem dX3_kind_27 : decode cX3_kind 27 = .ok (.istore_n 2, 1) := by decide +kernel
theorem dX3_kind_28 : decode cX3_kind 28 = .ok (.iconst 0, 1) := by decide +kernel
theorem dX3_kind_29 : decode cX3_kind 29 = .ok (.istore_n 3, 1) := by decide +kernel
theorem dX3_kind_30 : decode cX3_kind 30 = .ok (.iconst 0, 1) := by decide +kernel
theorem dX3_kind_31 : decode cX3_kind 31 = .ok (.istore 4, 2) := by decide +kernel
theorem dX3_kind_33 : decode cX3_kind 33 = .ok (.iload 4, 2) := by decide +kernel
theorem dX3_kind_35 : decode cX3_kind 35 = .ok (.bipush 6, 2) := by decide +kernel
theorem dX3_kind_37 : decode cX3_kind 37 = .ok (.if_icmp .ge 48, 3) := by decide +kernel
theorem dX3_kind_40 : decode cX3_kind 40 = .ok (.aload_n 0, 1) := by decide +kernel
theorem dX3_kind_41 : decode cX3_kind 41 = .ok (.getfield 19, 3) := by decide +kernel
theorem dX3_kind_44 : decode cX3_kind 44 = .ok (.getfield 69, 3) := by decide +kernel
theorem dX3_kind_47 : decode cX3_kind 47 = .ok (.iload_n 1, 1) := by decide +kernel
theorem dX3_kind_48 : decode cX3_kind 48 = .ok (.iload 4, 2) := by decide +kernel
theorem dX3_kind_50 : decode cX3_kind 50 = .ok (.iastore, 1) := by decide +kernel
theorem dX3_kind_51 : decode cX3_kind 51 = .ok (.aload_n 0, 1) := by decide +kernel
theorem dX3_kind_52 : decode cX3_kind 52 = .ok (.getfield 19, 3) := by decide +kernel
theorem dX3_kind_55 : decode cX3_kind 55 = .ok (.invokevirtual 133, 3) := by decide +kernel
theorem dX3_kind_58 : decode cX3_kind 58 = .ok (.invokestatic 161, 3) := by decide +kernel
theorem dX3_kind_61 : decode cX3_kind 61 = .ok (.istore 5, 2) := by decide +kernel
theorem dX3_kind_63 : decode cX3_kind 63 = .ok (.iload_n 2, 1) := by decide +kernel
theorem dX3_kind_64 : decode cX3_kind 64 = .ok (.ifCond .lt 9, 3) := by decide +kernel
theorem dX3_kind_67 : decode cX3_kind 67 = .ok (.iload 5, 2) := by decide +kernel
theorem dX3_kind_69 : decode cX3_kind 69 = .ok (.iload_n 3, 1) := by decide +kernel
theorem dX3_kind_70 : decode cX3_kind 70 = .ok (.if_icmp .ge 9, 3) := by decide +kernel
theorem dX3_kind_73 : decode cX3_kind 73 = .ok (.iload 4, 2) := by decide +kernel
theorem dX3_kind_75 : decode cX3_kind 75 = .ok (.istore_n 2, 1) := by decide +kernel
theorem dX3_kind_76 : decode cX3_kind 76 = .ok (.iload 5, 2) := by decide +kernel
theorem dX3_kind_78 : decode cX3_kind 78 = .ok (.istore_n 3, 1) := by decide +kernel
theorem dX3_kind_79 : decode cX3_kind 79 = .ok (.iinc 4 1, 3) := by decide +kernel
theorem dX3_kind_82 : decode cX3_kind 82 = .ok (.goto (-49), 3) := by decide +kernel
theorem dX3_kind_85 : decode cX3_kind 85 = .ok (.iload_n 2, 1) := by decide +kernel
theorem dX3_kind_86 : decode cX3_kind 86 = .ok (.ireturn, 1) := by decide +kernel
theorem dX3_delay_0 : decode cX3_delay 0 = .ok (.aload_n 0, 1) := by decide +kernel
theorem dX3_delay_1 : decode cX3_delay 1 = .ok (.iload_n 1, 1) := by decide +kernel
theorem dX3_delay_2 : decode cX3_delay 2 = .ok (.invokevirtual 66, 3) := by decide +kernel
theorem dX3_delay_5 : decode cX3_delay 5 = .ok (.ifCond .eq 20, 3) := by decide +kernel
theorem dX3_delay_8 : decode cX3_delay 8 = .ok (.iload_n 2, 1) := by decide +kernel
theorem dX3_delay_9 : decode cX3_delay 9 = .ok (.invokestatic 95, 3) := by decide +kernel
theorem dX3_delay_12 : decode cX3_delay 12 = .ok (.ifCond .eq 13, 3) := by decide +kernel
theorem dX3_delay_15 : decode cX3_delay 15 = .ok (.iload_n 3, 1) := by decide +kernel
theorem dX3_delay_16 : decode cX3_delay 16 = .ok (.iconst 1, 1) := by decide +kernel
theorem dX3_delay_17 : decode cX3_delay 17 = .ok (.bipush 60, 2) := by decide +kernel
theorem dX3_delay_19 : decode cX3_delay 19 = .ok (.invokestatic 120, 3) := by decide +kernel
theorem dX3_delay_22 : decode cX3_delay 22 = .ok (.ifCond .ne 10, 3) := by decide +kernel
theorem dX3_delay_25 : decode cX3_delay 25 = .ok (.aload_n 0, 1) := by decide +kernel
theorem dX3_delay_26 : decode cX3_delay 26 = .ok (.ldc 53, 2) := by decide +kernel
theorem dX3_delay_28 : decode cX3_delay 28 = .ok (.invokevirtual 54, 3) := by decide +kernel
theorem dX3_delay_31 : decode cX3_delay 31 = .ok (.ireturn, 1) := by decide +kernel
theorem dX3_delay_32 : decode cX3_delay 32 = .ok (.aload_n 0, 1) := by decide +kernel
theorem dX3_delay_33 : decode cX3_delay 33 = .ok (.getfield 10, 3) := by decide +kernel
theorem dX3_delay_36 : decode cX3_delay 36 = .ok (.getfield 78, 3) := by decide +kernel
theorem dX3_delay_39 : decode cX3_delay 39 = .ok (.iload_n 1, 1) := by decide +kernel
theorem dX3_delay_40 : decode cX3_delay 40 = .ok (.iaload, 1) := by decide +kernel
theorem dX3_delay_41 : decode cX3_delay 41 = .ok (.iconst (-1), 1) := by decide +kernel
theorem dX3_delay_42 : decode cX3_delay 42 = .ok (.if_icmp .eq 10, 3) := by decide +kernel
theorem dX3_delay_45 : decode cX3_delay 45 = .ok (.aload_n 0, 1) := by decide +kernel
theorem dX3_delay_46 : decode cX3_delay 46 = .ok (.ldc 128, 2) := by decide +kernel
theorem dX3_delay_48 : decode cX3_delay 48 = .ok (.invokevirtual 54, 3) := by decide +kernel
theorem dX3_delay_51 : decode cX3_delay 51 = .ok (.ireturn, 1) := by decide +kernel
theorem dX3_delay_52 : decode cX3_delay 52 = .ok (.aload_n 0, 1) := by decide +kernel
theorem dX3_delay_53 : decode cX3_delay 53 = .ok (.getfield 22, 3) := by decide +kernel
theorem dX3_delay_56 : decode cX3_delay 56 = .ok (.aload_n 0, 1) := by decide +kernel
theorem dX3_delay_57 : decode cX3_delay 57 = .ok (.getfield 10, 3) := by decide +kernel
theorem dX3_delay_60 : decode cX3_delay 60 = .ok (.invokevirtual 145, 3) := by decide +kernel
theorem dX3_delay_63 : decode cX3_delay 63 = .ok (.iconst 0, 1) := by decide +kernel
theorem dX3_delay_64 : decode cX3_delay 64 = .ok (.istore 4, 2) := by decide +kernel
theorem dX3_delay_66 : decode cX3_delay 66 = .ok (.iload 4, 2) := by decide +kernel
theorem dX3_delay_68 : decode cX3_delay 68 = .ok (.iload_n 3, 1) := by decide +kernel
theorem dX3_delay_69 : decode cX3_delay 69 = .ok (.if_icmp .gt 62, 3) := by decide +kernel
theorem dX3_delay_72 : decode cX3_delay 72 = .ok (.aload_n 0, 1) := by decide +kernel
theorem dX3_delay_73 : decode cX3_delay 73 = .ok (.getfield 19, 3) := by decide +kernel
theorem dX3_delay_76 : decode cX3_delay 76 = .ok (.aload_n 0, 1) := by decide +kernel
theorem dX3_delay_77 : decode cX3_delay 77 = .ok (.getfield 22, 3) := by decide +kernel
theorem dX3_delay_80 : decode cX3_delay 80 = .ok (.invokevirtual 145, 3) := by decide +kernel
theorem dX3_delay_83 : decode cX3_delay 83 = .ok (.aload_n 0, 1) := by decide +kernel
theorem dX3_delay_84 : decode cX3_delay 84 = .ok (.getfield 19, 3) := by decide +kernel
theorem dX3_delay_87 : decode cX3_delay 87 = .ok (.getfield 78, 3) := by decide +kernel
theorem dX3_delay_90 : decode cX3_delay 90 = .ok (.iload_n 1, 1) := by decide +kernel
theorem dX3_delay_91 : decode cX3_delay 91 = .ok (.iload_n 2, 1) := by decide +kernel
theorem dX3_delay_92 : decode cX3_delay 92 = .ok (.iastore, 1) := by decide +kernel
theorem dX3_delay_93 : decode cX3_delay 93 = .ok (.aload_n 0, 1) := by decide +kernel
theorem dX3_delay_94 : decode cX3_delay 94 = .ok (.getfield 19, 3) := by decide +kernel
theorem dX3_delay_97 : decode cX3_delay 97 = .ok (.iload_n 3, 1) := by decide +kernel
theorem dX3_delay_98 : decode cX3_delay 98 = .ok (.iload 4, 2) := by decide +kernel
theorem dX3_delay_100 : decode cX3_delay 100 = .ok (.isub, 1) := by decide +kernel
theorem dX3_delay_101 : decode cX3_delay 101 = .ok (.invokevirtual 129, 3) := by decide +kernel
theorem dX3_delay_104 : decode cX3_delay 104 = .ok (.aload_n 0, 1) := by decide +kernel
theorem dX3_delay_105 : decode cX3_delay 105 = .ok (.getfield 19, 3) := by decide +kernel
theorem dX3_delay_108 : decode cX3_delay 108 = .ok (.invokevirtual 137, 3) := by decide +kernel
theorem dX3_delay_111 : decode cX3_delay 111 = .ok (.ifCond .eq 6, 3) := by decide +kernel
theorem dX3_delay_114 : decode cX3_delay 114 = .ok (.iload 4, 2) := by decide +kernel
theorem dX3_delay_116 : decode cX3_delay 116 = .ok (.ireturn, 1) := by decide +kernel
theorem dX3_delay_117 : decode cX3_delay 117 = .ok (.aload_n 0, 1) := by decide +kernel
theorem dX3_delay_118 : decode cX3_delay 118 = .ok (.getfield 22, 3) := by decide +kernel
theorem dX3_delay_121 : decode cX3_delay 121 = .ok (.iconst 1, 1) := by decide +kernel
theorem dX3_delay_122 : decode cX3_delay 122 = .ok (.invokevirtual 129, 3) := by decide +kernel
theorem dX3_delay_125 : decode cX3_delay 125 = .ok (.iinc 4 1, 3) := by decide +kernel
theorem dX3_delay_128 : decode cX3_delay 128 = .ok (.goto (-62), 3) := by decide +kernel
theorem dX3_delay_131 : decode cX3_delay 131 = .ok (.aload_n 0, 1) := by decide +kernel
theorem dX3_delay_132 : decode cX3_delay 132 = .ok (.ldc 116, 2) := by decide +kernel
theorem dX3_delay_134 : decode cX3_delay 134 = .ok (.invokevirtual 54, 3) := by decide +kernel
theorem dX3_delay_137 : decode cX3_delay 137 = .ok (.ireturn, 1) := by decide +kernel
theorem dX3_fewest_0 : decode cX3_fewest 0 = .ok (.iload_n 1, 1) := by decide +kernel
theorem dX3_fewest_1 : decode cX3_fewest 1 = .ok (.invokestatic 95, 3) := by decide +kernel
theorem dX3_fewest_4 : decode cX3_fewest 4 = .ok (.ifCond .ne 10, 3) := by decide +kernel
theorem dX3_fewest_7 : decode cX3_fewest 7 = .ok (.aload_n 0, 1) := by decide +kernel
theorem dX3_fewest_8 : decode cX3_fewest 8 = .ok (.ldc 53, 2) := by decide +kernel
theorem dX3_fewest_10 : decode cX3_fewest 10 = .ok (.invokevirtual 54, 3) := by decide +kernel
theorem dX3_fewest_13 : decode cX3_fewest 13 = .ok (.ireturn, 1) := by decide +kernel
theorem dX3_fewest_14 : decode cX3_fewest 14 = .ok (.aload_n 0, 1) := by decide +kernel
theorem dX3_fewest_15 : decode cX3_fewest 15 = .ok (.getfield 10, 3) := by decide +kernel
theorem dX3_fewest_18 : decode cX3_fewest 18 = .ok (.invokevirtual 166, 3) := by decide +kernel
theorem dX3_fewest_21 : decode cX3_fewest 21 = .ok (.ifCond .ne 10, 3) := by decide +kernel
theorem dX3_fewest_24 : decode cX3_fewest 24 = .ok (.aload_n 0, 1) := by decide +kernel
theorem dX3_fewest_25 : decode cX3_fewest 25 = .ok (.ldc 116, 2) := by decide +kernel
theorem dX3_fewest_27 : decode cX3_fewest 27 = .ok (.invokevirtual 54, 3) := by decide +kernel
theorem dX3_fewest_30 : decode cX3_fewest 30 = .ok (.ireturn, 1) := by decide +kernel
theorem dX3_fewest_31 : decode cX3_fewest 31 = .ok (.aload_n 0, 1) := by decide +kernel
theorem dX3_fewest_32 : decode cX3_fewest 32 = .ok (.invokevirtual 150, 3) := by decide +kernel
theorem dX3_fewest_35 : decode cX3_fewest 35 = .ok (.aload_n 0, 1) := by decide +kernel
theorem dX3_fewest_36 : decode cX3_fewest 36 = .ok (.getfield 10, 3) := by decide +kernel
theorem dX3_fewest_39 : decode cX3_fewest 39 = .ok (.iload_n 1, 1) := by decide +kernel
theorem dX3_fewest_40 : decode cX3_fewest 40 = .ok (.invokevirtual 110, 3) := by decide +kernel
theorem dX3_fewest_43 : decode cX3_fewest 43 = .ok (.istore_n 2, 1) := by decide +kernel
theorem dX3_fewest_44 : decode cX3_fewest 44 = .ok (.aload_n 0, 1) := by decide +kernel
theorem dX3_fewest_45 : decode cX3_fewest 45 = .ok (.getfield 10, 3) := by decide +kernel
theorem dX3_fewest_48 : decode cX3_fewest 48 = .ok (.invokevirtual 133, 3) := by decide +kernel
theorem dX3_fewest_51 : decode cX3_fewest 51 = .ok (.istore_n 3, 1) := by decide +kernel
theorem dX3_fewest_52 : decode cX3_fewest 52 = .ok (.iconst (-1), 1) := by decide +kernel
theorem dX3_fewest_53 : decode cX3_fewest 53 = .ok (.istore 4, 2) := by decide +kernel
theorem dX3_fewest_55 : decode cX3_fewest 55 = .ok (.iconst 0, 1) := by decide +kernel
theorem dX3_fewest_56 : decode cX3_fewest 56 = .ok (.istore 5, 2) := by decide +kernel
theorem dX3_fewest_58 : decode cX3_fewest 58 = .ok (.iload 5, 2) := by decide +kernel
theorem dX3_fewest_60 : decode cX3_fewest 60 = .ok (.iload_n 2, 1) := by decide +kernel
theorem dX3_fewest_61 : decode cX3_fewest 61 = .ok (.if_icmp .ge 74, 3) := by decide +kernel
theorem dX3_fewest_64 : decode cX3_fewest 64 = .ok (.iload 5, 2) := by decide +kernel
theorem dX3_fewest_66 : decode cX3_fewest 66 = .ok (.iload_n 2, 1) := by decide +kernel
theorem dX3_fewest_67 : decode cX3_fewest 67 = .ok (.iand, 1) := by decide +kernel
theorem dX3_fewest_68 : decode cX3_fewest 68 = .ok (.iload 5, 2) := by decide +kernel
theorem dX3_fewest_70 : decode cX3_fewest 70 = .ok (.if_icmp .ne 7, 3) := by decide +kernel
theorem dX3_fewest_73 : decode cX3_fewest 73 = .ok (.iconst 1, 1) := by decide +kernel
theorem dX3_fewest_74 : decode cX3_fewest 74 = .ok (.goto 4, 3) := by decide +kernel
theorem dX3_fewest_77 : decode cX3_fewest 77 = .ok (.iconst 0, 1) := by decide +kernel
theorem dX3_fewest_78 : decode cX3_fewest 78 = .ok (.istore 6, 2) := by decide +kernel
theorem dX3_fewest_80 : decode cX3_fewest 80 = .ok (.iload 4, 2) := by decide +kernel
theorem dX3_fewest_82 : decode cX3_fewest 82 = .ok (.ifCond .lt 16, 3) := by decide +kernel
theorem dX3_fewest_85 : decode cX3_fewest 85 = .ok (.iload 5, 2) := by decide +kernel
theorem dX3_fewest_87 : decode cX3_fewest 87 = .ok (.invokestatic 153, 3) := by decide +kernel
theorem dX3_fewest_90 : decode cX3_fewest 90 = .ok (.iload 4, 2) := by decide +kernel
theorem dX3_fewest_92 : decode cX3_fewest 92 = .ok (.invokestatic 153, 3) := by decide +kernel
theorem dX3_fewest_95 : decode cX3_fewest 95 = .ok (.if_icmp .ge 7, 3) := by decide +kernel
theorem dX3_fewest_98 : decode cX3_fewest 98 = .ok (.iconst 1, 1) := by decide +kernel
theorem dX3_fewest_99 : decode cX3_fewest 99 = .ok (.goto 4, 3) := by decide +kernel
theorem dX3_fewest_102 : decode cX3_fewest 102 = .ok (.iconst 0, 1) := by decide +kernel
theorem dX3_fewest_103 : decode cX3_fewest 103 = .ok (.istore 7, 2) := by decide +kernel
theorem dX3_fewest_105 : decode cX3_fewest 105 = .ok (.iload 6, 2) := by decide +kernel
theorem dX3_fewest_107 : decode cX3_fewest 107 = .ok (.ifCond .eq 22, 3) := by decide +kernel
theorem dX3_fewest_110 : decode cX3_fewest 110 = .ok (.iload 7, 2) := by decide +kernel
theorem dX3_fewest_112 : decode cX3_fewest 112 = .ok (.ifCond .eq 17, 3) := by decide +kernel
theorem dX3_fewest_115 : decode cX3_fewest 115 = .ok (.iload_n 3, 1) := by decide +kernel
theorem dX3_fewest_116 : decode cX3_fewest 116 = .ok (.aload_n 0, 1) := by decide +kernel
theorem dX3_fewest_117 : decode cX3_fewest 117 = .ok (.iload 5, 2) := by decide +kernel
theorem dX3_fewest_119 : decode cX3_fewest 119 = .ok (.invokevirtual 158, 3) := by decide +kernel
theorem dX3_fewest_122 : decode cX3_fewest 122 = .ok (.if_icmp .ne 7, 3) := by decide +kernel
theorem dX3_fewest_125 : decode cX3_fewest 125 = .ok (.iload 5, 2) := by decide +kernel
theorem dX3_fewest_127 : decode cX3_fewest 127 = .ok (.istore 4, 2) := by decide +kernel
theorem dX3_fewest_129 : decode cX3_fewest 129 = .ok (.iinc 5 1, 3) := by decide +kernel
theorem dX3_fewest_132 : decode cX3_fewest 132 = .ok (.goto (-74), 3) := by decide +kernel
theorem dX3_fewest_135 : decode cX3_fewest 135 = .ok (.iload 4, 2) := by decide +kernel
theorem dX3_fewest_137 : decode cX3_fewest 137 = .ok (.ifCond .ge 12, 3) := by decide +kernel
theorem dX3_fewest_140 : decode cX3_fewest 140 = .ok (.aload_n 0, 1) := by decide +kernel
theorem dX3_fewest_141 : decode cX3_fewest 141 = .ok (.ldc 116, 2) := by decide +kernel
theorem dX3_fewest_143 : decode cX3_fewest 143 = .ok (.invokevirtual 54, 3) := by decide +kernel
theorem dX3_fewest_146 : decode cX3_fewest 146 = .ok (.goto 5, 3) := by decide +kernel
theorem dX3_fewest_149 : decode cX3_fewest 149 = .ok (.iload 4, 2) := by decide +kernel
theorem dX3_fewest_151 : decode cX3_fewest 151 = .ok (.ireturn, 1) := by decide +kernel
theorem dX3_helps_0 : decode cX3_helps 0 = .ok (.aload_n 0, 1) := by decide +kernel
theorem dX3_helps_1 : decode cX3_helps 1 = .ok (.iload_n 1, 1) := by decide +kernel
theorem dX3_helps_2 : decode cX3_helps 2 = .ok (.invokevirtual 66, 3) := by decide +kernel
theorem dX3_helps_5 : decode cX3_helps 5 = .ok (.ifCond .eq 20, 3) := by decide +kernel
theorem dX3_helps_8 : decode cX3_helps 8 = .ok (.iload_n 2, 1) := by decide +kernel
theorem dX3_helps_9 : decode cX3_helps 9 = .ok (.invokestatic 95, 3) := by decide +kernel
theorem dX3_helps_12 : decode cX3_helps 12 = .ok (.ifCond .eq 13, 3) := by decide +kernel
theorem dX3_helps_15 : decode cX3_helps 15 = .ok (.iload_n 3, 1) := by decide +kernel
theorem dX3_helps_16 : decode cX3_helps 16 = .ok (.iconst 0, 1) := by decide +kernel
theorem dX3_helps_17 : decode cX3_helps 17 = .ok (.bipush 60, 2) := by decide +kernel
theorem dX3_helps_19 : decode cX3_helps 19 = .ok (.invokestatic 120, 3) := by decide +kernel
theorem dX3_helps_22 : decode cX3_helps 22 = .ok (.ifCond .ne 10, 3) := by decide +kernel
theorem dX3_helps_25 : decode cX3_helps 25 = .ok (.aload_n 0, 1) := by decide +kernel
theorem dX3_helps_26 : decode cX3_helps 26 = .ok (.ldc 53, 2) := by decide +kernel
theorem dX3_helps_28 : decode cX3_helps 28 = .ok (.invokevirtual 54, 3) := by decide +kernel
theorem dX3_helps_31 : decode cX3_helps 31 = .ok (.ireturn, 1) := by decide +kernel
theorem dX3_helps_32 : decode cX3_helps 32 = .ok (.aload_n 0, 1) := by decide +kernel
theorem dX3_helps_33 : decode cX3_helps 33 = .ok (.getfield 10, 3) := by decide +kernel
theorem dX3_helps_36 : decode cX3_helps 36 = .ok (.getfield 78, 3) := by decide +kernel
theorem dX3_helps_39 : decode cX3_helps 39 = .ok (.iload_n 1, 1) := by decide +kernel
theorem dX3_helps_40 : decode cX3_helps 40 = .ok (.iaload, 1) := by decide +kernel
theorem dX3_helps_41 : decode cX3_helps 41 = .ok (.iconst (-1), 1) := by decide +kernel
theorem dX3_helps_42 : decode cX3_helps 42 = .ok (.if_icmp .eq 10, 3) := by decide +kernel
theorem dX3_helps_45 : decode cX3_helps 45 = .ok (.aload_n 0, 1) := by decide +kernel
theorem dX3_helps_46 : decode cX3_helps 46 = .ok (.ldc 128, 2) := by decide +kernel
theorem dX3_helps_48 : decode cX3_helps 48 = .ok (.invokevirtual 54, 3) := by decide +kernel
theorem dX3_helps_51 : decode cX3_helps 51 = .ok (.ireturn, 1) := by decide +kernel
theorem dX3_helps_52 : decode cX3_helps 52 = .ok (.aload_n 0, 1) := by decide +kernel
theorem dX3_helps_53 : decode cX3_helps 53 = .ok (.getfield 19, 3) := by decide +kernel
theorem dX3_helps_56 : decode cX3_helps 56 = .ok (.aload_n 0, 1) := by decide +kernel
theorem dX3_helps_57 : decode cX3_helps 57 = .ok (.getfield 10, 3) := by decide +kernel
theorem dX3_helps_60 : decode cX3_helps 60 = .ok (.invokevirtual 145, 3) := by decide +kernel
theorem dX3_helps_63 : decode cX3_helps 63 = .ok (.aload_n 0, 1) := by decide +kernel
theorem dX3_helps_64 : decode cX3_helps 64 = .ok (.getfield 19, 3) := by decide +kernel
theorem dX3_helps_67 : decode cX3_helps 67 = .ok (.iload_n 3, 1) := by decide +kernel
theorem dX3_helps_68 : decode cX3_helps 68 = .ok (.invokevirtual 129, 3) := by decide +kernel
theorem dX3_helps_71 : decode cX3_helps 71 = .ok (.aload_n 0, 1) := by decide +kernel
theorem dX3_helps_72 : decode cX3_helps 72 = .ok (.getfield 19, 3) := by decide +kernel
theorem dX3_helps_75 : decode cX3_helps 75 = .ok (.invokevirtual 133, 3) := by decide +kernel
theorem dX3_helps_78 : decode cX3_helps 78 = .ok (.invokestatic 161, 3) := by decide +kernel
theorem dX3_helps_81 : decode cX3_helps 81 = .ok (.istore 4, 2) := by decide +kernel
theorem dX3_helps_83 : decode cX3_helps 83 = .ok (.aload_n 0, 1) := by decide +kernel
theorem dX3_helps_84 : decode cX3_helps 84 = .ok (.getfield 19, 3) := by decide +kernel
theorem dX3_helps_87 : decode cX3_helps 87 = .ok (.aload_n 0, 1) := by decide +kernel
theorem dX3_helps_88 : decode cX3_helps 88 = .ok (.getfield 10, 3) := by decide +kernel
theorem dX3_helps_91 : decode cX3_helps 91 = .ok (.invokevirtual 145, 3) := by decide +kernel
theorem dX3_helps_94 : decode cX3_helps 94 = .ok (.aload_n 0, 1) := by decide +kernel
theorem dX3_helps_95 : decode cX3_helps 95 = .ok (.getfield 19, 3) := by decide +kernel
theorem dX3_helps_98 : decode cX3_helps 98 = .ok (.getfield 78, 3) := by decide +kernel
theorem dX3_helps_101 : decode cX3_helps 101 = .ok (.iload_n 1, 1) := by decide +kernel
theorem dX3_helps_102 : decode cX3_helps 102 = .ok (.iload_n 2, 1) := by decide +kernel
theorem dX3_helps_103 : decode cX3_helps 103 = .ok (.iastore, 1) := by decide +kernel
theorem dX3_helps_104 : decode cX3_helps 104 = .ok (.aload_n 0, 1) := by decide +kernel
theorem dX3_helps_105 : decode cX3_helps 105 = .ok (.getfield 19, 3) := by decide +kernel
theorem dX3_helps_108 : decode cX3_helps 108 = .ok (.iload_n 3, 1) := by decide +kernel
theorem dX3_helps_109 : decode cX3_helps 109 = .ok (.invokevirtual 129, 3) := by decide +kernel
theorem dX3_helps_112 : decode cX3_helps 112 = .ok (.aload_n 0, 1) := by decide +kernel
theorem dX3_helps_113 : decode cX3_helps 113 = .ok (.getfield 19, 3) := by decide +kernel
theorem dX3_helps_116 : decode cX3_helps 116 = .ok (.invokevirtual 133, 3) := by decide +kernel
theorem dX3_helps_119 : decode cX3_helps 119 = .ok (.invokestatic 161, 3) := by decide +kernel
theorem dX3_helps_122 : decode cX3_helps 122 = .ok (.iload 4, 2) := by decide +kernel
theorem dX3_helps_124 : decode cX3_helps 124 = .ok (.if_icmp .ge 7, 3) := by decide +kernel
theorem dX3_helps_127 : decode cX3_helps 127 = .ok (.iconst 1, 1) := by decide +kernel
theorem dX3_helps_128 : decode cX3_helps 128 = .ok (.goto 4, 3) := by decide +kernel
theorem dX3_helps_131 : decode cX3_helps 131 = .ok (.iconst 0, 1) := by decide +kernel
theorem dX3_helps_132 : decode cX3_helps 132 = .ok (.ireturn, 1) := by decide +kernel
theorem dX3_feed_0 : decode cX3_feed 0 = .ok (.iload_n 2, 1) := by decide +kernel
theorem dX3_feed_1 : decode cX3_feed 1 = .ok (.iconst 1, 1) := by decide +kernel
theorem dX3_feed_2 : decode cX3_feed 2 = .ok (.iconst 4, 1) := by decide +kernel
theorem dX3_feed_3 : decode cX3_feed 3 = .ok (.invokestatic 120, 3) := by decide +kernel
theorem dX3_feed_6 : decode cX3_feed 6 = .ok (.ifCond .ne 10, 3) := by decide +kernel
theorem dX3_feed_9 : decode cX3_feed 9 = .ok (.aload_n 0, 1) := by decide +kernel
theorem dX3_feed_10 : decode cX3_feed 10 = .ok (.ldc 53, 2) := by decide +kernel
theorem dX3_feed_12 : decode cX3_feed 12 = .ok (.invokevirtual 54, 3) := by decide +kernel
theorem dX3_feed_15 : decode cX3_feed 15 = .ok (.ireturn, 1) := by decide +kernel
theorem dX3_feed_16 : decode cX3_feed 16 = .ok (.aload_n 0, 1) := by decide +kernel
theorem dX3_feed_17 : decode cX3_feed 17 = .ok (.getfield 35, 3) := by decide +kernel
theorem dX3_feed_20 : decode cX3_feed 20 = .ok (.getfield 169, 3) := by decide +kernel
theorem dX3_feed_23 : decode cX3_feed 23 = .ok (.iload_n 2, 1) := by decide +kernel
theorem dX3_feed_24 : decode cX3_feed 24 = .ok (.iadd, 1) := by decide +kernel
theorem dX3_feed_25 : decode cX3_feed 25 = .ok (.bipush 120, 2) := by decide +kernel
theorem dX3_feed_27 : decode cX3_feed 27 = .ok (.if_icmp .le 10, 3) := by decide +kernel
theorem dX3_feed_30 : decode cX3_feed 30 = .ok (.aload_n 0, 1) := by decide +kernel
theorem dX3_feed_31 : decode cX3_feed 31 = .ok (.ldc 62, 2) := by decide +kernel
theorem dX3_feed_33 : decode cX3_feed 33 = .ok (.invokevirtual 54, 3) := by decide +kernel
theorem dX3_feed_36 : decode cX3_feed 36 = .ok (.ireturn, 1) := by decide +kernel
theorem dX3_feed_37 : decode cX3_feed 37 = .ok (.iload_n 2, 1) := by decide +kernel
theorem dX3_feed_38 : decode cX3_feed 38 = .ok (.iconst 1, 1) := by decide +kernel
theorem dX3_feed_39 : decode cX3_feed 39 = .ok (.isub, 1) := by decide +kernel
theorem dX3_feed_40 : decode cX3_feed 40 = .ok (.istore_n 3, 1) := by decide +kernel
theorem dX3_feed_41 : decode cX3_feed 41 = .ok (.iload_n 3, 1) := by decide +kernel
theorem dX3_feed_42 : decode cX3_feed 42 = .ok (.ifCond .lt 26, 3) := by decide +kernel
theorem dX3_feed_45 : decode cX3_feed 45 = .ok (.aload_n 0, 1) := by decide +kernel
theorem dX3_feed_46 : decode cX3_feed 46 = .ok (.getfield 35, 3) := by decide +kernel
theorem dX3_feed_49 : decode cX3_feed 49 = .ok (.iload_n 1, 1) := by decide +kernel
theorem dX3_feed_50 : decode cX3_feed 50 = .ok (.bipush 8, 2) := by decide +kernel
theorem dX3_feed_52 : decode cX3_feed 52 = .ok (.iload_n 3, 1) := by decide +kernel
theorem dX3_feed_53 : decode cX3_feed 53 = .ok (.imul, 1) := by decide +kernel
theorem dX3_feed_54 : decode cX3_feed 54 = .ok (.ishr, 1) := by decide +kernel
theorem dX3_feed_55 : decode cX3_feed 55 = .ok (.sipush 255, 3) := by decide +kernel
theorem dX3_feed_58 : decode cX3_feed 58 = .ok (.iand, 1) := by decide +kernel
theorem dX3_feed_59 : decode cX3_feed 59 = .ok (.invokevirtual 172, 3) := by decide +kernel
theorem dX3_feed_62 : decode cX3_feed 62 = .ok (.iinc 3 (-1), 3) := by decide +kernel
theorem dX3_feed_65 : decode cX3_feed 65 = .ok (.goto (-24), 3) := by decide +kernel
theorem dX3_feed_68 : decode cX3_feed 68 = .ok (.aload_n 0, 1) := by decide +kernel
theorem dX3_feed_69 : decode cX3_feed 69 = .ok (.getfield 35, 3) := by decide +kernel
theorem dX3_feed_72 : decode cX3_feed 72 = .ok (.getfield 169, 3) := by decide +kernel
theorem dX3_feed_75 : decode cX3_feed 75 = .ok (.ireturn, 1) := by decide +kernel
theorem dX3_wipe_0 : decode cX3_wipe 0 = .ok (.aload_n 0, 1) := by decide +kernel
theorem dX3_wipe_1 : decode cX3_wipe 1 = .ok (.getfield 35, 3) := by decide +kernel
theorem dX3_wipe_4 : decode cX3_wipe 4 = .ok (.getfield 169, 3) := by decide +kernel
theorem dX3_wipe_7 : decode cX3_wipe 7 = .ok (.istore_n 1, 1) := by decide +kernel
theorem dX3_wipe_8 : decode cX3_wipe 8 = .ok (.aload_n 0, 1) := by decide +kernel
theorem dX3_wipe_9 : decode cX3_wipe 9 = .ok (.getfield 35, 3) := by decide +kernel
theorem dX3_wipe_12 : decode cX3_wipe 12 = .ok (.iconst 0, 1) := by decide +kernel
theorem dX3_wipe_13 : decode cX3_wipe 13 = .ok (.putfield 169, 3) := by decide +kernel
theorem dX3_wipe_16 : decode cX3_wipe 16 = .ok (.iload_n 1, 1) := by decide +kernel
theorem dX3_wipe_17 : decode cX3_wipe 17 = .ok (.ireturn, 1) := by decide +kernel
theorem dX3_park_0 : decode cX3_park 0 = .ok (.aload_n 0, 1) := by decide +kernel
theorem dX3_park_1 : decode cX3_park 1 = .ok (.getfield 19, 3) := by decide +kernel
theorem dX3_park_4 : decode cX3_park 4 = .ok (.aload_n 0, 1) := by decide +kernel
theorem dX3_park_5 : decode cX3_park 5 = .ok (.getfield 10, 3) := by decide +kernel
theorem dX3_park_8 : decode cX3_park 8 = .ok (.invokevirtual 145, 3) := by decide +kernel
theorem dX3_park_11 : decode cX3_park 11 = .ok (.aload_n 0, 1) := by decide +kernel
theorem dX3_park_12 : decode cX3_park 12 = .ok (.getfield 35, 3) := by decide +kernel
theorem dX3_park_15 : decode cX3_park 15 = .ok (.aload_n 0, 1) := by decide +kernel
theorem dX3_park_16 : decode cX3_park 16 = .ok (.getfield 19, 3) := by decide +kernel
theorem dX3_park_19 : decode cX3_park 19 = .ok (.invokevirtual 175, 3) := by decide +kernel
theorem dX3_park_22 : decode cX3_park 22 = .ok (.istore_n 1, 1) := by decide +kernel
theorem dX3_park_23 : decode cX3_park 23 = .ok (.iload_n 1, 1) := by decide +kernel
theorem dX3_park_24 : decode cX3_park 24 = .ok (.ifCond .lt 14, 3) := by decide +kernel
theorem dX3_park_27 : decode cX3_park 27 = .ok (.aload_n 0, 1) := by decide +kernel
theorem dX3_park_28 : decode cX3_park 28 = .ok (.getfield 10, 3) := by decide +kernel
theorem dX3_park_31 : decode cX3_park 31 = .ok (.aload_n 0, 1) := by decide +kernel
theorem dX3_park_32 : decode cX3_park 32 = .ok (.getfield 19, 3) := by decide +kernel
theorem dX3_park_35 : decode cX3_park 35 = .ok (.invokevirtual 145, 3) := by decide +kernel
theorem dX3_park_38 : decode cX3_park 38 = .ok (.aload_n 0, 1) := by decide +kernel
theorem dX3_park_39 : decode cX3_park 39 = .ok (.getfield 35, 3) := by decide +kernel
theorem dX3_park_42 : decode cX3_park 42 = .ok (.iconst 0, 1) := by decide +kernel
theorem dX3_park_43 : decode cX3_park 43 = .ok (.putfield 169, 3) := by decide +kernel
theorem dX3_park_46 : decode cX3_park 46 = .ok (.iload_n 1, 1) := by decide +kernel
theorem dX3_park_47 : decode cX3_park 47 = .ok (.ireturn, 1) := by decide +kernel
theorem dX3_sheet_0 : decode cX3_sheet 0 = .ok (.iload_n 1, 1) := by decide +kernel
theorem dX3_sheet_1 : decode cX3_sheet 1 = .ok (.invokestatic 179, 3) := by decide +kernel
theorem dX3_sheet_4 : decode cX3_sheet 4 = .ok (.ifCond .eq 25, 3) := by decide +kernel
theorem dX3_sheet_7 : decode cX3_sheet 7 = .ok (.iload_n 2, 1) := by decide +kernel
theorem dX3_sheet_8 : decode cX3_sheet 8 = .ok (.ifCond .eq 28, 3) := by decide +kernel
theorem dX3_sheet_11 : decode cX3_sheet 11 = .ok (.iload_n 2, 1) := by decide +kernel
theorem dX3_sheet_12 : decode cX3_sheet 12 = .ok (.bipush 8, 2) := by decide +kernel
theorem dX3_sheet_14 : decode cX3_sheet 14 = .ok (.if_icmp .eq 22, 3) := by decide +kernel
theorem dX3_sheet_17 : decode cX3_sheet 17 = .ok (.iload_n 2, 1) := by decide +kernel
theorem dX3_sheet_18 : decode cX3_sheet 18 = .ok (.bipush 16, 2) := by decide +kernel
theorem dX3_sheet_20 : decode cX3_sheet 20 = .ok (.if_icmp .eq 16, 3) := by decide +kernel
theorem dX3_sheet_23 : decode cX3_sheet 23 = .ok (.iload_n 2, 1) := by decide +kernel
theorem dX3_sheet_24 : decode cX3_sheet 24 = .ok (.bipush 64, 2) := by decide +kernel
theorem dX3_sheet_26 : decode cX3_sheet 26 = .ok (.if_icmp .eq 10, 3) := by decide +kernel
theorem dX3_sheet_29 : decode cX3_sheet 29 = .ok (.aload_n 0, 1) := by decide +kernel
theorem dX3_sheet_30 : decode cX3_sheet 30 = .ok (.ldc 53, 2) := by decide +kernel
theorem dX3_sheet_32 : decode cX3_sheet 32 = .ok (.invokevirtual 54, 3) := by decide +kernel
theorem dX3_sheet_35 : decode cX3_sheet 35 = .ok (.ireturn, 1) := by decide +kernel
theorem dX3_sheet_36 : decode cX3_sheet 36 = .ok (.iload_n 3, 1) := by decide +kernel
theorem dX3_sheet_37 : decode cX3_sheet 37 = .ok (.ifCond .ge 10, 3) := by decide +kernel
theorem dX3_sheet_40 : decode cX3_sheet 40 = .ok (.aload_n 0, 1) := by decide +kernel
theorem dX3_sheet_41 : decode cX3_sheet 41 = .ok (.ldc 149, 2) := by decide +kernel
theorem dX3_sheet_43 : decode cX3_sheet 43 = .ok (.invokevirtual 54, 3) := by decide +kernel
theorem dX3_sheet_46 : decode cX3_sheet 46 = .ok (.ireturn, 1) := by decide +kernel
theorem dX3_sheet_47 : decode cX3_sheet 47 = .ok (.iload_n 3, 1) := by decide +kernel
theorem dX3_sheet_48 : decode cX3_sheet 48 = .ok (.bipush 40, 2) := by decide +kernel
theorem dX3_sheet_50 : decode cX3_sheet 50 = .ok (.if_icmp .le 10, 3) := by decide +kernel
theorem dX3_sheet_53 : decode cX3_sheet 53 = .ok (.aload_n 0, 1) := by decide +kernel
theorem dX3_sheet_54 : decode cX3_sheet 54 = .ok (.ldc 53, 2) := by decide +kernel
theorem dX3_sheet_56 : decode cX3_sheet 56 = .ok (.invokevirtual 54, 3) := by decide +kernel
theorem dX3_sheet_59 : decode cX3_sheet 59 = .ok (.ireturn, 1) := by decide +kernel
theorem dX3_sheet_60 : decode cX3_sheet 60 = .ok (.aload_n 0, 1) := by decide +kernel
theorem dX3_sheet_61 : decode cX3_sheet 61 = .ok (.getfield 41, 3) := by decide +kernel
theorem dX3_sheet_64 : decode cX3_sheet 64 = .ok (.iload_n 1, 1) := by decide +kernel
theorem dX3_sheet_65 : decode cX3_sheet 65 = .ok (.aaload, 1) := by decide +kernel
theorem dX3_sheet_66 : decode cX3_sheet 66 = .ok (.iload_n 2, 1) := by decide +kernel
theorem dX3_sheet_67 : decode cX3_sheet 67 = .ok (.iload_n 2, 1) := by decide +kernel
theorem dX3_sheet_68 : decode cX3_sheet 68 = .ok (.ifCond .ne 7, 3) := by decide +kernel
theorem dX3_sheet_71 : decode cX3_sheet 71 = .ok (.iconst 0, 1) := by decide +kernel
theorem dX3_sheet_72 : decode cX3_sheet 72 = .ok (.goto 4, 3) := by decide +kernel
theorem dX3_sheet_75 : decode cX3_sheet 75 = .ok (.iload_n 3, 1) := by decide +kernel
theorem dX3_sheet_76 : decode cX3_sheet 76 = .ok (.invokevirtual 182, 3) := by decide +kernel
theorem dX3_sheet_79 : decode cX3_sheet 79 = .ok (.ireturn, 1) := by decide +kernel
theorem dX3_write_0 : decode cX3_write 0 = .ok (.aload_n 0, 1) := by decide +kernel
theorem dX3_write_1 : decode cX3_write 1 = .ok (.iload_n 1, 1) := by decide +kernel
theorem dX3_write_2 : decode cX3_write 2 = .ok (.invokevirtual 185, 3) := by decide +kernel
theorem dX3_write_5 : decode cX3_write 5 = .ok (.istore 5, 2) := by decide +kernel
theorem dX3_write_7 : decode cX3_write 7 = .ok (.iload 5, 2) := by decide +kernel
theorem dX3_write_9 : decode cX3_write 9 = .ok (.ifCond .eq 11, 3) := by decide +kernel
theorem dX3_write_12 : decode cX3_write 12 = .ok (.aload_n 0, 1) := by decide +kernel
theorem dX3_write_13 : decode cX3_write 13 = .ok (.iload 5, 2) := by decide +kernel
theorem dX3_write_15 : decode cX3_write 15 = .ok (.invokevirtual 54, 3) := by decide +kernel
theorem dX3_write_18 : decode cX3_write 18 = .ok (.i2l, 1) := by decide +kernel
theorem dX3_write_19 : decode cX3_write 19 = .ok (.lreturn, 1) := by decide +kernel
theorem dX3_write_20 : decode cX3_write 20 = .ok (.aload_n 0, 1) := by decide +kernel
theorem dX3_write_21 : decode cX3_write 21 = .ok (.getfield 41, 3) := by decide +kernel
theorem dX3_write_24 : decode cX3_write 24 = .ok (.iload_n 1, 1) := by decide +kernel
theorem dX3_write_25 : decode cX3_write 25 = .ok (.aaload, 1) := by decide +kernel
theorem dX3_write_26 : decode cX3_write 26 = .ok (.astore 6, 2) := by decide +kernel
theorem dX3_write_28 : decode cX3_write 28 = .ok (.iload_n 2, 1) := by decide +kernel
theorem dX3_write_29 : decode cX3_write 29 = .ok (.iconst 0, 1) := by decide +kernel
theorem dX3_write_30 : decode cX3_write 30 = .ok (.aload 6, 2) := by decide +kernel
theorem dX3_write_32 : decode cX3_write 32 = .ok (.getfield 188, 3) := by decide +kernel
theorem dX3_write_35 : decode cX3_write 35 = .ok (.iconst 1, 1) := by decide +kernel
theorem dX3_write_36 : decode cX3_write 36 = .ok (.isub, 1) := by decide +kernel
theorem dX3_write_37 : decode cX3_write 37 = .ok (.invokestatic 120, 3) := by decide +kernel
theorem dX3_write_40 : decode cX3_write 40 = .ok (.ifCond .ne 11, 3) := by decide +kernel
theorem dX3_write_43 : decode cX3_write 43 = .ok (.aload_n 0, 1) := by decide +kernel
theorem dX3_write_44 : decode cX3_write 44 = .ok (.ldc 53, 2) := by decide +kernel
theorem dX3_write_46 : decode cX3_write 46 = .ok (.invokevirtual 54, 3) := by decide +kernel
theorem dX3_write_49 : decode cX3_write 49 = .ok (.i2l, 1) := by decide +kernel
theorem dX3_write_50 : decode cX3_write 50 = .ok (.lreturn, 1) := by decide +kernel
theorem dX3_write_51 : decode cX3_write 51 = .ok (.aload 6, 2) := by decide +kernel
theorem dX3_write_53 : decode cX3_write 53 = .ok (.getfield 191, 3) := by decide +kernel
theorem dX3_write_56 : decode cX3_write 56 = .ok (.iload_n 2, 1) := by decide +kernel
theorem dX3_write_57 : decode cX3_write 57 = .ok (.laload, 1) := by decide +kernel
theorem dX3_write_58 : decode cX3_write 58 = .ok (.lstore 7, 2) := by decide +kernel
theorem dX3_write_60 : decode cX3_write 60 = .ok (.aload 6, 2) := by decide +kernel
theorem dX3_write_62 : decode cX3_write 62 = .ok (.iload_n 2, 1) := by decide +kernel
theorem dX3_write_63 : decode cX3_write 63 = .ok (.lload_n 3, 1) := by decide +kernel
theorem dX3_write_64 : decode cX3_write 64 = .ok (.invokevirtual 195, 3) := by decide +kernel
theorem dX3_write_67 : decode cX3_write 67 = .ok (.lload 7, 2) := by decide +kernel
theorem dX3_write_69 : decode cX3_write 69 = .ok (.lreturn, 1) := by decide +kernel
theorem dX3_copy_0 : decode cX3_copy 0 = .ok (.iload_n 1, 1) := by decide +kernel
theorem dX3_copy_1 : decode cX3_copy 1 = .ok (.invokestatic 179, 3) := by decide +kernel
theorem dX3_copy_4 : decode cX3_copy 4 = .ok (.ifCond .eq 10, 3) := by decide +kernel
theorem dX3_copy_7 : decode cX3_copy 7 = .ok (.iload_n 3, 1) := by decide +kernel
theorem dX3_copy_8 : decode cX3_copy 8 = .ok (.invokestatic 179, 3) := by decide +kernel
theorem dX3_copy_11 : decode cX3_copy 11 = .ok (.ifCond .ne 10, 3) := by decide +kernel
theorem dX3_copy_14 : decode cX3_copy 14 = .ok (.aload_n 0, 1) := by decide +kernel
theorem dX3_copy_15 : decode cX3_copy 15 = .ok (.ldc 53, 2) := by decide +kernel
theorem dX3_copy_17 : decode cX3_copy 17 = .ok (.invokevirtual 54, 3) := by decide +kernel
theorem dX3_copy_20 : decode cX3_copy 20 = .ok (.ireturn, 1) := by decide +kernel
theorem dX3_copy_21 : decode cX3_copy 21 = .ok (.aload_n 0, 1) := by decide +kernel
theorem dX3_copy_22 : decode cX3_copy 22 = .ok (.getfield 41, 3) := by decide +kernel
theorem dX3_copy_25 : decode cX3_copy 25 = .ok (.iload_n 1, 1) := by decide +kernel
theorem dX3_copy_26 : decode cX3_copy 26 = .ok (.aaload, 1) := by decide +kernel
theorem dX3_copy_27 : decode cX3_copy 27 = .ok (.astore 6, 2) := by decide +kernel
theorem dX3_copy_29 : decode cX3_copy 29 = .ok (.aload_n 0, 1) := by decide +kernel
theorem dX3_copy_30 : decode cX3_copy 30 = .ok (.getfield 41, 3) := by decide +kernel
theorem dX3_copy_33 : decode cX3_copy 33 = .ok (.iload_n 3, 1) := by decide +kernel
theorem dX3_copy_34 : decode cX3_copy 34 = .ok (.aaload, 1) := by decide +kernel
theorem dX3_copy_35 : decode cX3_copy 35 = .ok (.astore 7, 2) := by decide +kernel
theorem dX3_copy_37 : decode cX3_copy 37 = .ok (.aload 6, 2) := by decide +kernel
theorem dX3_copy_39 : decode cX3_copy 39 = .ok (.getfield 199, 3) := by decide +kernel
theorem dX3_copy_42 : decode cX3_copy 42 = .ok (.ifCond .eq 11, 3) := by decide +kernel
theorem dX3_copy_45 : decode cX3_copy 45 = .ok (.aload 7, 2) := by decide +kernel
theorem dX3_copy_47 : decode cX3_copy 47 = .ok (.getfield 199, 3) := by decide +kernel
theorem dX3_copy_50 : decode cX3_copy 50 = .ok (.ifCond .ne 10, 3) := by decide +kernel
theorem dX3_copy_53 : decode cX3_copy 53 = .ok (.aload_n 0, 1) := by decide +kernel
theorem dX3_copy_54 : decode cX3_copy 54 = .ok (.ldc 202, 2) := by decide +kernel
theorem dX3_copy_56 : decode cX3_copy 56 = .ok (.invokevirtual 54, 3) := by decide +kernel
theorem dX3_copy_59 : decode cX3_copy 59 = .ok (.ireturn, 1) := by decide +kernel
theorem dX3_copy_60 : decode cX3_copy 60 = .ok (.aload 6, 2) := by decide +kernel
theorem dX3_copy_62 : decode cX3_copy 62 = .ok (.getfield 199, 3) := by decide +kernel
theorem dX3_copy_65 : decode cX3_copy 65 = .ok (.aload 7, 2) := by decide +kernel
theorem dX3_copy_67 : decode cX3_copy 67 = .ok (.getfield 199, 3) := by decide +kernel
theorem dX3_copy_70 : decode cX3_copy 70 = .ok (.if_icmp .eq 10, 3) := by decide +kernel
theorem dX3_copy_73 : decode cX3_copy 73 = .ok (.aload_n 0, 1) := by decide +kernel
theorem dX3_copy_74 : decode cX3_copy 74 = .ok (.ldc 102, 2) := by decide +kernel
theorem dX3_copy_76 : decode cX3_copy 76 = .ok (.invokevirtual 54, 3) := by decide +kernel
theorem dX3_copy_79 : decode cX3_copy 79 = .ok (.ireturn, 1) := by decide +kernel
theorem dX3_copy_80 : decode cX3_copy 80 = .ok (.aload 6, 2) := by decide +kernel
theorem dX3_copy_82 : decode cX3_copy 82 = .ok (.iload_n 2, 1) := by decide +kernel
theorem dX3_copy_83 : decode cX3_copy 83 = .ok (.iload 5, 2) := by decide +kernel
theorem dX3_copy_85 : decode cX3_copy 85 = .ok (.invokevirtual 203, 3) := by decide +kernel
theorem dX3_copy_88 : decode cX3_copy 88 = .ok (.ifCond .eq 15, 3) := by decide +kernel
theorem dX3_copy_91 : decode cX3_copy 91 = .ok (.aload 7, 2) := by decide +kernel
theorem dX3_copy_93 : decode cX3_copy 93 = .ok (.iload 4, 2) := by decide +kernel
theorem dX3_copy_95 : decode cX3_copy 95 = .ok (.iload 5, 2) := by decide +kernel
theorem dX3_copy_97 : decode cX3_copy 97 = .ok (.invokevirtual 203, 3) := by decide +kernel
theorem dX3_copy_100 : decode cX3_copy 100 = .ok (.ifCond .ne 10, 3) := by decide +kernel
theorem dX3_copy_103 : decode cX3_copy 103 = .ok (.aload_n 0, 1) := by decide +kernel
theorem dX3_copy_104 : decode cX3_copy 104 = .ok (.ldc 53, 2) := by decide +kernel
theorem dX3_copy_106 : decode cX3_copy 106 = .ok (.invokevirtual 54, 3) := by decide +kernel
theorem dX3_copy_109 : decode cX3_copy 109 = .ok (.ireturn, 1) := by decide +kernel
theorem dX3_copy_110 : decode cX3_copy 110 = .ok (.aload 6, 2) := by decide +kernel
theorem dX3_copy_112 : decode cX3_copy 112 = .ok (.getfield 191, 3) := by decide +kernel
theorem dX3_copy_115 : decode cX3_copy 115 = .ok (.iload_n 2, 1) := by decide +kernel
theorem dX3_copy_116 : decode cX3_copy 116 = .ok (.aload 7, 2) := by decide +kernel
theorem dX3_copy_118 : decode cX3_copy 118 = .ok (.getfield 191, 3) := by decide +kernel
theorem dX3_copy_121 : decode cX3_copy 121 = .ok (.iload 4, 2) := by decide +kernel
theorem dX3_copy_123 : decode cX3_copy 123 = .ok (.iload 5, 2) := by decide +kernel
theorem dX3_copy_125 : decode cX3_copy 125 = .ok (.invokestatic 206, 3) := by decide +kernel
theorem dX3_copy_128 : decode cX3_copy 128 = .ok (.iload 5, 2) := by decide +kernel
theorem dX3_copy_130 : decode cX3_copy 130 = .ok (.ireturn, 1) := by decide +kernel
theorem dX3_lays_0 : decode cX3_lays 0 = .ok (.aload_n 0, 1) := by decide +kernel
theorem dX3_lays_1 : decode cX3_lays 1 = .ok (.iload_n 1, 1) := by decide +kernel
theorem dX3_lays_2 : decode cX3_lays 2 = .ok (.invokevirtual 185, 3) := by decide +kernel
theorem dX3_lays_5 : decode cX3_lays 5 = .ok (.istore_n 2, 1) := by decide +kernel
theorem dX3_lays_6 : decode cX3_lays 6 = .ok (.iload_n 2, 1) := by decide +kernel
theorem dX3_lays_7 : decode cX3_lays 7 = .ok (.ifCond .eq 9, 3) := by decide +kernel
theorem dX3_lays_10 : decode cX3_lays 10 = .ok (.aload_n 0, 1) := by decide +kernel
theorem dX3_lays_11 : decode cX3_lays 11 = .ok (.iload_n 2, 1) := by decide +kernel
theorem dX3_lays_12 : decode cX3_lays 12 = .ok (.invokevirtual 54, 3) := by decide +kernel
theorem dX3_lays_15 : decode cX3_lays 15 = .ok (.ireturn, 1) := by decide +kernel
theorem dX3_lays_16 : decode cX3_lays 16 = .ok (.aload_n 0, 1) := by decide +kernel
theorem dX3_lays_17 : decode cX3_lays 17 = .ok (.getfield 41, 3) := by decide +kernel
theorem dX3_lays_20 : decode cX3_lays 20 = .ok (.iload_n 1, 1) := by decide +kernel
theorem dX3_lays_21 : decode cX3_lays 21 = .ok (.aaload, 1) := by decide +kernel
theorem dX3_lays_22 : decode cX3_lays 22 = .ok (.astore_n 3, 1) := by decide +kernel
theorem dX3_lays_23 : decode cX3_lays 23 = .ok (.iconst 0, 1) := by decide +kernel
theorem dX3_lays_24 : decode cX3_lays 24 = .ok (.istore 4, 2) := by decide +kernel
theorem dX3_lays_26 : decode cX3_lays 26 = .ok (.iconst 0, 1) := by decide +kernel
theorem dX3_lays_27 : decode cX3_lays 27 = .ok (.istore 5, 2) := by decide +kernel
theorem dX3_lays_29 : decode cX3_lays 29 = .ok (.iload 5, 2) := by decide +kernel
theorem dX3_lays_31 : decode cX3_lays 31 = .ok (.aload_n 3, 1) := by decide +kernel
theorem dX3_lays_32 : decode cX3_lays 32 = .ok (.getfield 188, 3) := by decide +kernel
theorem dX3_lays_35 : decode cX3_lays 35 = .ok (.if_icmp .ge 62, 3) := by decide +kernel
theorem dX3_lays_38 : decode cX3_lays 38 = .ok (.iload 5, 2) := by decide +kernel
theorem dX3_lays_40 : decode cX3_lays 40 = .ok (.aload_n 0, 1) := by decide +kernel
theorem dX3_lays_41 : decode cX3_lays 41 = .ok (.getfield 10, 3) := by decide +kernel
theorem dX3_lays_44 : decode cX3_lays 44 = .ok (.getfield 58, 3) := by decide +kernel
theorem dX3_lays_47 : decode cX3_lays 47 = .ok (.if_icmp .ge 50, 3) := by decide +kernel
theorem dX3_lays_50 : decode cX3_lays 50 = .ok (.aload_n 3, 1) := by decide +kernel
theorem dX3_lays_51 : decode cX3_lays 51 = .ok (.getfield 191, 3) := by decide +kernel
theorem dX3_lays_54 : decode cX3_lays 54 = .ok (.iload 5, 2) := by decide +kernel
theorem dX3_lays_56 : decode cX3_lays 56 = .ok (.laload, 1) := by decide +kernel
theorem dX3_lays_57 : decode cX3_lays 57 = .ok (.lstore 6, 2) := by decide +kernel
theorem dX3_lays_59 : decode cX3_lays 59 = .ok (.lload 6, 2) := by decide +kernel
theorem dX3_lays_61 : decode cX3_lays 61 = .ok (.lconst 0, 1) := by decide +kernel
theorem dX3_lays_62 : decode cX3_lays 62 = .ok (.lcmp, 1) := by decide +kernel
theorem dX3_lays_63 : decode cX3_lays 63 = .ok (.ifCond .lt 28, 3) := by decide +kernel
theorem dX3_lays_66 : decode cX3_lays 66 = .ok (.lload 6, 2) := by decide +kernel
theorem dX3_lays_68 : decode cX3_lays 68 = .ok (.ldc2_w 212, 3) := by decide +kernel
theorem dX3_lays_71 : decode cX3_lays 71 = .ok (.lcmp, 1) := by decide +kernel
theorem dX3_lays_72 : decode cX3_lays 72 = .ok (.ifCond .gt 19, 3) := by decide +kernel
theorem dX3_lays_75 : decode cX3_lays 75 = .ok (.aload_n 0, 1) := by decide +kernel
theorem dX3_lays_76 : decode cX3_lays 76 = .ok (.getfield 10, 3) := by decide +kernel
theorem dX3_lays_79 : decode cX3_lays 79 = .ok (.getfield 72, 3) := by decide +kernel
theorem dX3_lays_82 : decode cX3_lays 82 = .ok (.iload 5, 2) := by decide +kernel
theorem dX3_lays_84 : decode cX3_lays 84 = .ok (.lload 6, 2) := by decide +kernel
theorem dX3_lays_86 : decode cX3_lays 86 = .ok (.l2i, 1) := by decide +kernel
theorem dX3_lays_87 : decode cX3_lays 87 = .ok (.iastore, 1) := by decide +kernel
theorem dX3_lays_88 : decode cX3_lays 88 = .ok (.iinc 4 1, 3) := by decide +kernel
theorem dX3_lays_91 : decode cX3_lays 91 = .ok (.iinc 5 1, 3) := by decide +kernel
theorem dX3_lays_94 : decode cX3_lays 94 = .ok (.goto (-65), 3) := by decide +kernel
theorem dX3_lays_97 : decode cX3_lays 97 = .ok (.iload 4, 2) := by decide +kernel
theorem dX3_lays_99 : decode cX3_lays 99 = .ok (.ireturn, 1) := by decide +kernel
theorem dX3_book_0 : decode cX3_book 0 = .ok (.aload_n 0, 1) := by decide +kernel
theorem dX3_book_1 : decode cX3_book 1 = .ok (.iload_n 1, 1) := by decide +kernel
theorem dX3_book_2 : decode cX3_book 2 = .ok (.invokevirtual 185, 3) := by decide +kernel
theorem dX3_book_5 : decode cX3_book 5 = .ok (.istore_n 2, 1) := by decide +kernel
theorem dX3_book_6 : decode cX3_book 6 = .ok (.iload_n 2, 1) := by decide +kernel
theorem dX3_book_7 : decode cX3_book 7 = .ok (.ifCond .eq 9, 3) := by decide +kernel
theorem dX3_book_10 : decode cX3_book 10 = .ok (.aload_n 0, 1) := by decide +kernel
theorem dX3_book_11 : decode cX3_book 11 = .ok (.iload_n 2, 1) := by decide +kernel
theorem dX3_book_12 : decode cX3_book 12 = .ok (.invokevirtual 54, 3) := by decide +kernel
theorem dX3_book_15 : decode cX3_book 15 = .ok (.ireturn, 1) := by decide +kernel
theorem dX3_book_16 : decode cX3_book 16 = .ok (.aload_n 0, 1) := by decide +kernel
theorem dX3_book_17 : decode cX3_book 17 = .ok (.getfield 41, 3) := by decide +kernel
theorem dX3_book_20 : decode cX3_book 20 = .ok (.iload_n 1, 1) := by decide +kernel
theorem dX3_book_21 : decode cX3_book 21 = .ok (.aaload, 1) := by decide +kernel
theorem dX3_book_22 : decode cX3_book 22 = .ok (.astore_n 3, 1) := by decide +kernel
theorem dX3_book_23 : decode cX3_book 23 = .ok (.aload_n 0, 1) := by decide +kernel
theorem dX3_book_24 : decode cX3_book 24 = .ok (.getfield 19, 3) := by decide +kernel
theorem dX3_book_27 : decode cX3_book 27 = .ok (.aload_n 0, 1) := by decide +kernel
theorem dX3_book_28 : decode cX3_book 28 = .ok (.getfield 10, 3) := by decide +kernel
theorem dX3_book_31 : decode cX3_book 31 = .ok (.invokevirtual 145, 3) := by decide +kernel
theorem dX3_book_34 : decode cX3_book 34 = .ok (.iconst 0, 1) := by decide +kernel
theorem dX3_book_35 : decode cX3_book 35 = .ok (.istore 4, 2) := by decide +kernel
theorem dX3_book_37 : decode cX3_book 37 = .ok (.iload 4, 2) := by decide +kernel
theorem dX3_book_39 : decode cX3_book 39 = .ok (.aload_n 3, 1) := by decide +kernel
theorem dX3_book_40 : decode cX3_book 40 = .ok (.getfield 188, 3) := by decide +kernel
theorem dX3_book_43 : decode cX3_book 43 = .ok (.if_icmp .ge 31, 3) := by decide +kernel
theorem dX3_book_46 : decode cX3_book 46 = .ok (.aload_n 3, 1) := by decide +kernel
theorem dX3_book_47 : decode cX3_book 47 = .ok (.iload 4, 2) := by decide +kernel
theorem dX3_book_49 : decode cX3_book 49 = .ok (.aload_n 0, 1) := by decide +kernel
theorem dX3_book_50 : decode cX3_book 50 = .ok (.getfield 19, 3) := by decide +kernel
theorem dX3_book_53 : decode cX3_book 53 = .ok (.invokevirtual 133, 3) := by decide +kernel
theorem dX3_book_56 : decode cX3_book 56 = .ok (.i2l, 1) := by decide +kernel
theorem dX3_book_57 : decode cX3_book 57 = .ok (.invokevirtual 195, 3) := by decide +kernel
theorem dX3_book_60 : decode cX3_book 60 = .ok (.aload_n 0, 1) := by decide +kernel
theorem dX3_book_61 : decode cX3_book 61 = .ok (.getfield 19, 3) := by decide +kernel
theorem dX3_book_64 : decode cX3_book 64 = .ok (.iconst 1, 1) := by decide +kernel
theorem dX3_book_65 : decode cX3_book 65 = .ok (.invokevirtual 129, 3) := by decide +kernel
theorem dX3_book_68 : decode cX3_book 68 = .ok (.iinc 4 1, 3) := by decide +kernel
theorem dX3_book_71 : decode cX3_book 71 = .ok (.goto (-34), 3) := by decide +kernel
theorem dX3_book_74 : decode cX3_book 74 = .ok (.aload_n 3, 1) := by decide +kernel
theorem dX3_book_75 : decode cX3_book 75 = .ok (.getfield 188, 3) := by decide +kernel
theorem dX3_book_78 : decode cX3_book 78 = .ok (.ireturn, 1) := by decide +kernel
theorem dX3_read_0 : decode cX3_read 0 = .ok (.aload_n 0, 1) := by decide +kernel
theorem dX3_read_1 : decode cX3_read 1 = .ok (.iload_n 1, 1) := by decide +kernel
theorem dX3_read_2 : decode cX3_read 2 = .ok (.invokevirtual 185, 3) := by decide +kernel
theorem dX3_read_5 : decode cX3_read 5 = .ok (.istore_n 3, 1) := by decide +kernel
theorem dX3_read_6 : decode cX3_read 6 = .ok (.iload_n 3, 1) := by decide +kernel
theorem dX3_read_7 : decode cX3_read 7 = .ok (.ifCond .eq 9, 3) := by decide +kernel
theorem dX3_read_10 : decode cX3_read 10 = .ok (.aload_n 0, 1) := by decide +kernel
theorem dX3_read_11 : decode cX3_read 11 = .ok (.iload_n 3, 1) := by decide +kernel
theorem dX3_read_12 : decode cX3_read 12 = .ok (.invokevirtual 54, 3) := by decide +kernel
theorem dX3_read_15 : decode cX3_read 15 = .ok (.ireturn, 1) := by decide +kernel
theorem dX3_read_16 : decode cX3_read 16 = .ok (.aload_n 0, 1) := by decide +kernel
theorem dX3_read_17 : decode cX3_read 17 = .ok (.iload_n 2, 1) := by decide +kernel
theorem dX3_read_18 : decode cX3_read 18 = .ok (.invokevirtual 66, 3) := by decide +kernel
theorem dX3_read_21 : decode cX3_read 21 = .ok (.ifCond .ne 10, 3) := by decide +kernel
theorem dX3_read_24 : decode cX3_read 24 = .ok (.aload_n 0, 1) := by decide +kernel
theorem dX3_read_25 : decode cX3_read 25 = .ok (.ldc 53, 2) := by decide +kernel
theorem dX3_read_27 : decode cX3_read 27 = .ok (.invokevirtual 54, 3) := by decide +kernel
theorem dX3_read_30 : decode cX3_read 30 = .ok (.ireturn, 1) := by decide +kernel
theorem dX3_read_31 : decode cX3_read 31 = .ok (.aload_n 0, 1) := by decide +kernel
theorem dX3_read_32 : decode cX3_read 32 = .ok (.getfield 10, 3) := by decide +kernel
theorem dX3_read_35 : decode cX3_read 35 = .ok (.getfield 78, 3) := by decide +kernel
theorem dX3_read_38 : decode cX3_read 38 = .ok (.iload_n 2, 1) := by decide +kernel
theorem dX3_read_39 : decode cX3_read 39 = .ok (.iaload, 1) := by decide +kernel
theorem dX3_read_40 : decode cX3_read 40 = .ok (.iconst (-1), 1) := by decide +kernel
theorem dX3_read_41 : decode cX3_read 41 = .ok (.if_icmp .eq 17, 3) := by decide +kernel
theorem dX3_read_44 : decode cX3_read 44 = .ok (.aload_n 0, 1) := by decide +kernel
theorem dX3_read_45 : decode cX3_read 45 = .ok (.getfield 10, 3) := by decide +kernel
theorem dX3_read_48 : decode cX3_read 48 = .ok (.invokevirtual 166, 3) := by decide +kernel
theorem dX3_read_51 : decode cX3_read 51 = .ok (.ifCond .eq 7, 3) := by decide +kernel
theorem dX3_read_54 : decode cX3_read 54 = .ok (.iconst 1, 1) := by decide +kernel
theorem dX3_read_55 : decode cX3_read 55 = .ok (.goto 4, 3) := by decide +kernel
theorem dX3_read_58 : decode cX3_read 58 = .ok (.iconst 0, 1) := by decide +kernel
theorem dX3_read_59 : decode cX3_read 59 = .ok (.istore 4, 2) := by decide +kernel
theorem dX3_read_61 : decode cX3_read 61 = .ok (.aload_n 0, 1) := by decide +kernel
theorem dX3_read_62 : decode cX3_read 62 = .ok (.iload_n 2, 1) := by decide +kernel
theorem dX3_read_63 : decode cX3_read 63 = .ok (.iload 4, 2) := by decide +kernel
theorem dX3_read_65 : decode cX3_read 65 = .ok (.aload_n 0, 1) := by decide +kernel
theorem dX3_read_66 : decode cX3_read 66 = .ok (.getfield 41, 3) := by decide +kernel
theorem dX3_read_69 : decode cX3_read 69 = .ok (.iload_n 1, 1) := by decide +kernel
theorem dX3_read_70 : decode cX3_read 70 = .ok (.aaload, 1) := by decide +kernel
theorem dX3_read_71 : decode cX3_read 71 = .ok (.getfield 188, 3) := by decide +kernel
theorem dX3_read_74 : decode cX3_read 74 = .ok (.invokevirtual 214, 3) := by decide +kernel
theorem dX3_read_77 : decode cX3_read 77 = .ok (.iload 4, 2) := by decide +kernel
theorem dX3_read_79 : decode cX3_read 79 = .ok (.ifCond .ne 24, 3) := by decide +kernel
theorem dX3_read_82 : decode cX3_read 82 = .ok (.aload_n 0, 1) := by decide +kernel
theorem dX3_read_83 : decode cX3_read 83 = .ok (.aload_n 0, 1) := by decide +kernel
theorem dX3_read_84 : decode cX3_read 84 = .ok (.getfield 41, 3) := by decide +kernel
theorem dX3_read_87 : decode cX3_read 87 = .ok (.iload_n 1, 1) := by decide +kernel
theorem dX3_read_88 : decode cX3_read 88 = .ok (.aaload, 1) := by decide +kernel
theorem dX3_read_89 : decode cX3_read 89 = .ok (.invokevirtual 218, 3) := by decide +kernel
theorem dX3_read_92 : decode cX3_read 92 = .ok (.ifCond .eq 9, 3) := by decide +kernel
theorem dX3_read_95 : decode cX3_read 95 = .ok (.sipush 600, 3) := by decide +kernel
theorem dX3_read_98 : decode cX3_read 98 = .ok (.goto 4, 3) := by decide +kernel
theorem dX3_read_101 : decode cX3_read 101 = .ok (.iconst 0, 1) := by decide +kernel
theorem dX3_read_102 : decode cX3_read 102 = .ok (.ireturn, 1) := by decide +kernel
theorem dX3_read_103 : decode cX3_read 103 = .ok (.iconst 0, 1) := by decide +kernel
theorem dX3_read_104 : decode cX3_read 104 = .ok (.istore 5, 2) := by decide +kernel
theorem dX3_read_106 : decode cX3_read 106 = .ok (.iconst 0, 1) := by decide +kernel
theorem dX3_read_107 : decode cX3_read 107 = .ok (.istore 6, 2) := by decide +kernel
theorem dX3_read_109 : decode cX3_read 109 = .ok (.iload 6, 2) := by decide +kernel
theorem dX3_read_111 : decode cX3_read 111 = .ok (.bipush 6, 2) := by decide +kernel
theorem dX3_read_113 : decode cX3_read 113 = .ok (.if_icmp .ge 54, 3) := by decide +kernel
theorem dX3_read_116 : decode cX3_read 116 = .ok (.iconst 0, 1) := by decide +kernel
theorem dX3_read_117 : decode cX3_read 117 = .ok (.istore 7, 2) := by decide +kernel
theorem dX3_read_119 : decode cX3_read 119 = .ok (.iload 7, 2) := by decide +kernel
theorem dX3_read_121 : decode cX3_read 121 = .ok (.bipush 99, 2) := by decide +kernel
theorem dX3_read_123 : decode cX3_read 123 = .ok (.if_icmp .gt 38, 3) := by decide +kernel
theorem dX3_read_126 : decode cX3_read 126 = .ok (.aload_n 0, 1) := by decide +kernel
theorem dX3_read_127 : decode cX3_read 127 = .ok (.aload_n 0, 1) := by decide +kernel
theorem dX3_read_128 : decode cX3_read 128 = .ok (.getfield 41, 3) := by decide +kernel
theorem dX3_read_131 : decode cX3_read 131 = .ok (.iload_n 1, 1) := by decide +kernel
theorem dX3_read_132 : decode cX3_read 132 = .ok (.aaload, 1) := by decide +kernel
theorem dX3_read_133 : decode cX3_read 133 = .ok (.iload 6, 2) := by decide +kernel
theorem dX3_read_135 : decode cX3_read 135 = .ok (.aload_n 0, 1) := by decide +kernel
theorem dX3_read_136 : decode cX3_read 136 = .ok (.getfield 10, 3) := by decide +kernel
theorem dX3_read_139 : decode cX3_read 139 = .ok (.getfield 72, 3) := by decide +kernel
theorem dX3_read_142 : decode cX3_read 142 = .ok (.iload_n 2, 1) := by decide +kernel
theorem dX3_read_143 : decode cX3_read 143 = .ok (.iaload, 1) := by decide +kernel
theorem dX3_read_144 : decode cX3_read 144 = .ok (.iload 7, 2) := by decide +kernel
theorem dX3_read_146 : decode cX3_read 146 = .ok (.invokevirtual 222, 3) := by decide +kernel
theorem dX3_read_149 : decode cX3_read 149 = .ok (.ifCond .eq 6, 3) := by decide +kernel
theorem dX3_read_152 : decode cX3_read 152 = .ok (.iinc 5 1, 3) := by decide +kernel
theorem dX3_read_155 : decode cX3_read 155 = .ok (.iinc 7 1, 3) := by decide +kernel
theorem dX3_read_158 : decode cX3_read 158 = .ok (.goto (-39), 3) := by decide +kernel
theorem dX3_read_161 : decode cX3_read 161 = .ok (.iinc 6 1, 3) := by decide +kernel
theorem dX3_read_164 : decode cX3_read 164 = .ok (.goto (-55), 3) := by decide +kernel
theorem dX3_read_167 : decode cX3_read 167 = .ok (.iload 5, 2) := by decide +kernel
theorem dX3_read_169 : decode cX3_read 169 = .ok (.ireturn, 1) := by decide +kernel
theorem dX3_image_0 : decode cX3_image 0 = .ok (.aload_n 0, 1) := by decide +kernel
theorem dX3_image_1 : decode cX3_image 1 = .ok (.getfield 16, 3) := by decide +kernel
theorem dX3_image_4 : decode cX3_image 4 = .ok (.aload_n 0, 1) := by decide +kernel
theorem dX3_image_5 : decode cX3_image 5 = .ok (.getfield 10, 3) := by decide +kernel
theorem dX3_image_8 : decode cX3_image 8 = .ok (.invokevirtual 145, 3) := by decide +kernel
theorem dX3_image_11 : decode cX3_image 11 = .ok (.aload_n 0, 1) := by decide +kernel
theorem dX3_image_12 : decode cX3_image 12 = .ok (.iconst 1, 1) := by decide +kernel
theorem dX3_image_13 : decode cX3_image 13 = .ok (.putfield 226, 3) := by decide +kernel
theorem dX3_image_16 : decode cX3_image 16 = .ok (.iconst 1, 1) := by decide +kernel
theorem dX3_image_17 : decode cX3_image 17 = .ok (.ireturn, 1) := by decide +kernel
theorem dX3_undo_0 : decode cX3_undo 0 = .ok (.aload_n 0, 1) := by decide +kernel
theorem dX3_undo_1 : decode cX3_undo 1 = .ok (.getfield 226, 3) := by decide +kernel
theorem dX3_undo_4 : decode cX3_undo 4 = .ok (.ifCond .ne 10, 3) := by decide +kernel
theorem dX3_undo_7 : decode cX3_undo 7 = .ok (.aload_n 0, 1) := by decide +kernel
theorem dX3_undo_8 : decode cX3_undo 8 = .ok (.ldc 116, 2) := by decide +kernel
theorem dX3_undo_10 : decode cX3_undo 10 = .ok (.invokevirtual 54, 3) := by decide +kernel
theorem dX3_undo_13 : decode cX3_undo 13 = .ok (.ireturn, 1) := by decide +kernel
theorem dX3_undo_14 : decode cX3_undo 14 = .ok (.aload_n 0, 1) := by decide +kernel
theorem dX3_undo_15 : decode cX3_undo 15 = .ok (.getfield 10, 3) := by decide +kernel
theorem dX3_undo_18 : decode cX3_undo 18 = .ok (.aload_n 0, 1) := by decide +kernel
theorem dX3_undo_19 : decode cX3_undo 19 = .ok (.getfield 16, 3) := by decide +kernel
theorem dX3_undo_22 : decode cX3_undo 22 = .ok (.invokevirtual 145, 3) := by decide +kernel
theorem dX3_undo_25 : decode cX3_undo 25 = .ok (.aload_n 0, 1) := by decide +kernel
theorem dX3_undo_26 : decode cX3_undo 26 = .ok (.getfield 10, 3) := by decide +kernel
theorem dX3_undo_29 : decode cX3_undo 29 = .ok (.getfield 58, 3) := by decide +kernel
theorem dX3_undo_32 : decode cX3_undo 32 = .ok (.ireturn, 1) := by decide +kernel
theorem dX3_tear_0 : decode cX3_tear 0 = .ok (.aload_n 0, 1) := by decide +kernel
theorem dX3_tear_1 : decode cX3_tear 1 = .ok (.getfield 226, 3) := by decide +kernel
theorem dX3_tear_4 : decode cX3_tear 4 = .ok (.ifCond .eq 7, 3) := by decide +kernel
theorem dX3_tear_7 : decode cX3_tear 7 = .ok (.iconst 1, 1) := by decide +kernel
theorem dX3_tear_8 : decode cX3_tear 8 = .ok (.goto 4, 3) := by decide +kernel
theorem dX3_tear_11 : decode cX3_tear 11 = .ok (.iconst 0, 1) := by decide +kernel
theorem dX3_tear_12 : decode cX3_tear 12 = .ok (.istore_n 1, 1) := by decide +kernel
theorem dX3_tear_13 : decode cX3_tear 13 = .ok (.aload_n 0, 1) := by decide +kernel
theorem dX3_tear_14 : decode cX3_tear 14 = .ok (.iconst 0, 1) := by decide +kernel
theorem dX3_tear_15 : decode cX3_tear 15 = .ok (.putfield 226, 3) := by decide +kernel
theorem dX3_tear_18 : decode cX3_tear 18 = .ok (.iload_n 1, 1) := by decide +kernel
theorem dX3_tear_19 : decode cX3_tear 19 = .ok (.ireturn, 1) := by decide +kernel
theorem dX3_count_0 : decode cX3_count 0 = .ok (.iload_n 1, 1) := by decide +kernel
theorem dX3_count_1 : decode cX3_count 1 = .ok (.tableswitch 91 0 3 #[31, 39, 47, 71], 31) := by decide +kernel
theorem dX3_count_32 : decode cX3_count 32 = .ok (.aload_n 0, 1) := by decide +kernel
theorem dX3_count_33 : decode cX3_count 33 = .ok (.getfield 10, 3) := by decide +kernel
theorem dX3_count_36 : decode cX3_count 36 = .ok (.getfield 58, 3) := by decide +kernel
theorem dX3_count_39 : decode cX3_count 39 = .ok (.ireturn, 1) := by decide +kernel
theorem dX3_count_40 : decode cX3_count 40 = .ok (.aload_n 0, 1) := by decide +kernel
theorem dX3_count_41 : decode cX3_count 41 = .ok (.getfield 35, 3) := by decide +kernel
theorem dX3_count_44 : decode cX3_count 44 = .ok (.getfield 169, 3) := by decide +kernel
theorem dX3_count_47 : decode cX3_count 47 = .ok (.ireturn, 1) := by decide +kernel
theorem dX3_count_48 : decode cX3_count 48 = .ok (.aload_n 0, 1) := by decide +kernel
theorem dX3_count_49 : decode cX3_count 49 = .ok (.getfield 10, 3) := by decide +kernel
theorem dX3_count_52 : decode cX3_count 52 = .ok (.iconst 0, 1) := by decide +kernel
theorem dX3_count_53 : decode cX3_count 53 = .ok (.invokevirtual 110, 3) := by decide +kernel
theorem dX3_count_56 : decode cX3_count 56 = .ok (.invokestatic 153, 3) := by decide +kernel
theorem dX3_count_59 : decode cX3_count 59 = .ok (.aload_n 0, 1) := by decide +kernel
theorem dX3_count_60 : decode cX3_count 60 = .ok (.getfield 10, 3) := by decide +kernel
theorem dX3_count_63 : decode cX3_count 63 = .ok (.iconst 1, 1) := by decide +kernel
theorem dX3_count_64 : decode cX3_count 64 = .ok (.invokevirtual 110, 3) := by decide +kernel
theorem dX3_count_67 : decode cX3_count 67 = .ok (.invokestatic 153, 3) := by decide +kernel
theorem dX3_count_70 : decode cX3_count 70 = .ok (.iadd, 1) := by decide +kernel
theorem dX3_count_71 : decode cX3_count 71 = .ok (.ireturn, 1) := by decide +kernel
theorem dX3_count_72 : decode cX3_count 72 = .ok (.aload_n 0, 1) := by decide +kernel
theorem dX3_count_73 : decode cX3_count 73 = .ok (.getfield 10, 3) := by decide +kernel
theorem dX3_count_76 : decode cX3_count 76 = .ok (.getfield 117, 3) := by decide +kernel
theorem dX3_count_79 : decode cX3_count 79 = .ok (.iconst 0, 1) := by decide +kernel
theorem dX3_count_80 : decode cX3_count 80 = .ok (.iaload, 1) := by decide +kernel
theorem dX3_count_81 : decode cX3_count 81 = .ok (.aload_n 0, 1) := by decide +kernel
theorem dX3_count_82 : decode cX3_count 82 = .ok (.getfield 10, 3) := by decide +kernel
theorem dX3_count_85 : decode cX3_count 85 = .ok (.getfield 117, 3) := by decide +kernel
theorem dX3_count_88 : decode cX3_count 88 = .ok (.iconst 1, 1) := by decide +kernel
theorem dX3_count_89 : decode cX3_count 89 = .ok (.iaload, 1) := by decide +kernel
theorem dX3_count_90 : decode cX3_count 90 = .ok (.iadd, 1) := by decide +kernel
theorem dX3_count_91 : decode cX3_count 91 = .ok (.ireturn, 1) := by decide +kernel
theorem dX3_count_92 : decode cX3_count 92 = .ok (.aload_n 0, 1) := by decide +kernel
theorem dX3_count_93 : decode cX3_count 93 = .ok (.ldc 53, 2) := by decide +kernel
theorem dX3_count_95 : decode cX3_count 95 = .ok (.invokevirtual 54, 3) := by decide +kernel
theorem dX3_count_98 : decode cX3_count 98 = .ok (.ireturn, 1) := by decide +kernel
theorem dX3_status_0 : decode cX3_status 0 = .ok (.iload_n 1, 1) := by decide +kernel
theorem dX3_status_1 : decode cX3_status 1 = .ok (.iconst (-1), 1) := by decide +kernel
theorem dX3_status_2 : decode cX3_status 2 = .ok (.if_icmp .ne 13, 3) := by decide +kernel
theorem dX3_status_5 : decode cX3_status 5 = .ok (.aload_n 0, 1) := by decide +kernel
theorem dX3_status_6 : decode cX3_status 6 = .ok (.getfield 45, 3) := by decide +kernel
theorem dX3_status_9 : decode cX3_status 9 = .ok (.bipush 7, 2) := by decide +kernel
theorem dX3_status_11 : decode cX3_status 11 = .ok (.invokestatic 141, 3) := by decide +kernel
theorem dX3_status_14 : decode cX3_status 14 = .ok (.ireturn, 1) := by decide +kernel
theorem dX3_status_15 : decode cX3_status 15 = .ok (.iload_n 1, 1) := by decide +kernel
theorem dX3_status_16 : decode cX3_status 16 = .ok (.iconst 0, 1) := by decide +kernel
theorem dX3_status_17 : decode cX3_status 17 = .ok (.bipush 6, 2) := by decide +kernel
theorem dX3_status_19 : decode cX3_status 19 = .ok (.invokestatic 120, 3) := by decide +kernel
theorem dX3_status_22 : decode cX3_status 22 = .ok (.ifCond .ne 10, 3) := by decide +kernel
theorem dX3_status_25 : decode cX3_status 25 = .ok (.aload_n 0, 1) := by decide +kernel
theorem dX3_status_26 : decode cX3_status 26 = .ok (.ldc 53, 2) := by decide +kernel
theorem dX3_status_28 : decode cX3_status 28 = .ok (.invokevirtual 54, 3) := by decide +kernel
theorem dX3_status_31 : decode cX3_status 31 = .ok (.ireturn, 1) := by decide +kernel
theorem dX3_status_32 : decode cX3_status 32 = .ok (.aload_n 0, 1) := by decide +kernel
theorem dX3_status_33 : decode cX3_status 33 = .ok (.getfield 45, 3) := by decide +kernel
theorem dX3_status_36 : decode cX3_status 36 = .ok (.iload_n 1, 1) := by decide +kernel
theorem dX3_status_37 : decode cX3_status 37 = .ok (.iaload, 1) := by decide +kernel
theorem dX3_status_38 : decode cX3_status 38 = .ok (.ireturn, 1) := by decide +kernel
theorem dX3_finding_0 : decode cX3_finding 0 = .ok (.ldc 53, 2) := by decide +kernel
theorem dX3_finding_2 : decode cX3_finding 2 = .ok (.iload_n 1, 1) := by decide +kernel
theorem dX3_finding_3 : decode cX3_finding 3 = .ok (.isub, 1) := by decide +kernel
theorem dX3_finding_4 : decode cX3_finding 4 = .ok (.istore_n 2, 1) := by decide +kernel
theorem dX3_finding_5 : decode cX3_finding 5 = .ok (.iload_n 2, 1) := by decide +kernel
theorem dX3_finding_6 : decode cX3_finding 6 = .ok (.iconst 0, 1) := by decide +kernel
theorem dX3_finding_7 : decode cX3_finding 7 = .ok (.bipush 6, 2) := by decide +kernel
theorem dX3_finding_9 : decode cX3_finding 9 = .ok (.invokestatic 120, 3) := by decide +kernel
theorem dX3_finding_12 : decode cX3_finding 12 = .ok (.ifCond .eq 13, 3) := by decide +kernel
theorem dX3_finding_15 : decode cX3_finding 15 = .ok (.aload_n 0, 1) := by decide +kernel
theorem dX3_finding_16 : decode cX3_finding 16 = .ok (.getfield 45, 3) := by decide +kernel
theorem dX3_finding_19 : decode cX3_finding 19 = .ok (.iload_n 2, 1) := by decide +kernel
theorem dX3_finding_20 : decode cX3_finding 20 = .ok (.dup2, 1) := by decide +kernel
theorem dX3_finding_21 : decode cX3_finding 21 = .ok (.iaload, 1) := by decide +kernel
theorem dX3_finding_22 : decode cX3_finding 22 = .ok (.iconst 1, 1) := by decide +kernel
theorem dX3_finding_23 : decode cX3_finding 23 = .ok (.iadd, 1) := by decide +kernel
theorem dX3_finding_24 : decode cX3_finding 24 = .ok (.iastore, 1) := by decide +kernel
theorem dX3_finding_25 : decode cX3_finding 25 = .ok (.iload_n 1, 1) := by decide +kernel
theorem dX3_finding_26 : decode cX3_finding 26 = .ok (.ireturn, 1) := by decide +kernel
theorem dX3_isPerson_0 : decode cX3_isPerson 0 = .ok (.iload_n 1, 1) := by decide +kernel
theorem dX3_isPerson_1 : decode cX3_isPerson 1 = .ok (.iconst 0, 1) := by decide +kernel
theorem dX3_isPerson_2 : decode cX3_isPerson 2 = .ok (.aload_n 0, 1) := by decide +kernel
theorem dX3_isPerson_3 : decode cX3_isPerson 3 = .ok (.getfield 10, 3) := by decide +kernel
theorem dX3_isPerson_6 : decode cX3_isPerson 6 = .ok (.getfield 58, 3) := by decide +kernel
theorem dX3_isPerson_9 : decode cX3_isPerson 9 = .ok (.iconst 1, 1) := by decide +kernel
theorem dX3_isPerson_10 : decode cX3_isPerson 10 = .ok (.isub, 1) := by decide +kernel
theorem dX3_isPerson_11 : decode cX3_isPerson 11 = .ok (.invokestatic 120, 3) := by decide +kernel
theorem dX3_isPerson_14 : decode cX3_isPerson 14 = .ok (.ireturn, 1) := by decide +kernel
theorem dX3_isKind_0 : decode cX3_isKind 0 = .ok (.iload_n 0, 1) := by decide +kernel
theorem dX3_isKind_1 : decode cX3_isKind 1 = .ok (.iconst 0, 1) := by decide +kernel
theorem dX3_isKind_2 : decode cX3_isKind 2 = .ok (.iconst 5, 1) := by decide +kernel
theorem dX3_isKind_3 : decode cX3_isKind 3 = .ok (.invokestatic 120, 3) := by decide +kernel
theorem dX3_isKind_6 : decode cX3_isKind 6 = .ok (.ireturn, 1) := by decide +kernel
theorem dX3_isFeeling_0 : decode cX3_isFeeling 0 = .ok (.iload_n 0, 1) := by decide +kernel
theorem dX3_isFeeling_1 : decode cX3_isFeeling 1 = .ok (.iconst 0, 1) := by decide +kernel
theorem dX3_isFeeling_2 : decode cX3_isFeeling 2 = .ok (.bipush 99, 2) := by decide +kernel
theorem dX3_isFeeling_4 : decode cX3_isFeeling 4 = .ok (.invokestatic 120, 3) := by decide +kernel
theorem dX3_isFeeling_7 : decode cX3_isFeeling 7 = .ok (.ireturn, 1) := by decide +kernel
theorem dX3_isEnd_0 : decode cX3_isEnd 0 = .ok (.iload_n 0, 1) := by decide +kernel
theorem dX3_isEnd_1 : decode cX3_isEnd 1 = .ok (.iconst 0, 1) := by decide +kernel
theorem dX3_isEnd_2 : decode cX3_isEnd 2 = .ok (.iconst 1, 1) := by decide +kernel
theorem dX3_isEnd_3 : decode cX3_isEnd 3 = .ok (.invokestatic 120, 3) := by decide +kernel
theorem dX3_isEnd_6 : decode cX3_isEnd 6 = .ok (.ireturn, 1) := by decide +kernel
theorem dX3_isSheet_0 : decode cX3_isSheet 0 = .ok (.iload_n 0, 1) := by decide +kernel
theorem dX3_isSheet_1 : decode cX3_isSheet 1 = .ok (.iconst 0, 1) := by decide +kernel
theorem dX3_isSheet_2 : decode cX3_isSheet 2 = .ok (.iconst 3, 1) := by decide +kernel
theorem dX3_isSheet_3 : decode cX3_isSheet 3 = .ok (.invokestatic 120, 3) := by decide +kernel
theorem dX3_isSheet_6 : decode cX3_isSheet 6 = .ok (.ireturn, 1) := by decide +kernel
theorem dX3_isWithin_0 : decode cX3_isWithin 0 = .ok (.iload_n 0, 1) := by decide +kernel
theorem dX3_isWithin_1 : decode cX3_isWithin 1 = .ok (.iload_n 1, 1) := by decide +kernel
theorem dX3_isWithin_2 : decode cX3_isWithin 2 = .ok (.if_icmp .lt 12, 3) := by decide +kernel
theorem dX3_isWithin_5 : decode cX3_isWithin 5 = .ok (.iload_n 0, 1) := by decide +kernel
theorem dX3_isWithin_6 : decode cX3_isWithin 6 = .ok (.iload_n 2, 1) := by decide +kernel
theorem dX3_isWithin_7 : decode cX3_isWithin 7 = .ok (.if_icmp .gt 7, 3) := by decide +kernel
theorem dX3_isWithin_10 : decode cX3_isWithin 10 = .ok (.iconst 1, 1) := by decide +kernel
theorem dX3_isWithin_11 : decode cX3_isWithin 11 = .ok (.goto 4, 3) := by decide +kernel
theorem dX3_isWithin_14 : decode cX3_isWithin 14 = .ok (.iconst 0, 1) := by decide +kernel
theorem dX3_isWithin_15 : decode cX3_isWithin 15 = .ok (.ireturn, 1) := by decide +kernel
theorem dX3_lookFor_0 : decode cX3_lookFor 0 = .ok (.iload_n 1, 1) := by decide +kernel
theorem dX3_lookFor_1 : decode cX3_lookFor 1 = .ok (.invokestatic 179, 3) := by decide +kernel
theorem dX3_lookFor_4 : decode cX3_lookFor 4 = .ok (.ifCond .ne 6, 3) := by decide +kernel
theorem dX3_lookFor_7 : decode cX3_lookFor 7 = .ok (.ldc 53, 2) := by decide +kernel
theorem dX3_lookFor_9 : decode cX3_lookFor 9 = .ok (.ireturn, 1) := by decide +kernel
theorem dX3_lookFor_10 : decode cX3_lookFor 10 = .ok (.aload_n 0, 1) := by decide +kernel
theorem dX3_lookFor_11 : decode cX3_lookFor 11 = .ok (.getfield 41, 3) := by decide +kernel
theorem dX3_lookFor_14 : decode cX3_lookFor 14 = .ok (.iload_n 1, 1) := by decide +kernel
theorem dX3_lookFor_15 : decode cX3_lookFor 15 = .ok (.aaload, 1) := by decide +kernel
theorem dX3_lookFor_16 : decode cX3_lookFor 16 = .ok (.getfield 199, 3) := by decide +kernel
theorem dX3_lookFor_19 : decode cX3_lookFor 19 = .ok (.ifCond .ne 8, 3) := by decide +kernel
theorem dX3_lookFor_22 : decode cX3_lookFor 22 = .ok (.ldc 202, 2) := by decide +kernel
theorem dX3_lookFor_24 : decode cX3_lookFor 24 = .ok (.goto 4, 3) := by decide +kernel
theorem dX3_lookFor_27 : decode cX3_lookFor 27 = .ok (.iconst 0, 1) := by decide +kernel
theorem dX3_lookFor_28 : decode cX3_lookFor 28 = .ok (.ireturn, 1) := by decide +kernel
theorem dX3_put_0 : decode cX3_put 0 = .ok (.aload_n 0, 1) := by decide +kernel
theorem dX3_put_1 : decode cX3_put 1 = .ok (.iload_n 1, 1) := by decide +kernel
theorem dX3_put_2 : decode cX3_put 2 = .ok (.iaload, 1) := by decide +kernel
theorem dX3_put_3 : decode cX3_put 3 = .ok (.istore_n 3, 1) := by decide +kernel
theorem dX3_put_4 : decode cX3_put 4 = .ok (.aload_n 0, 1) := by decide +kernel
theorem dX3_put_5 : decode cX3_put 5 = .ok (.iload_n 1, 1) := by decide +kernel
theorem dX3_put_6 : decode cX3_put 6 = .ok (.iload_n 2, 1) := by decide +kernel
theorem dX3_put_7 : decode cX3_put 7 = .ok (.iastore, 1) := by decide +kernel
theorem dX3_put_8 : decode cX3_put 8 = .ok (.iload_n 3, 1) := by decide +kernel
theorem dX3_put_9 : decode cX3_put 9 = .ok (.ireturn, 1) := by decide +kernel
theorem dX3_sum_0 : decode cX3_sum 0 = .ok (.iconst 0, 1) := by decide +kernel
theorem dX3_sum_1 : decode cX3_sum 1 = .ok (.istore_n 2, 1) := by decide +kernel
theorem dX3_sum_2 : decode cX3_sum 2 = .ok (.iconst 0, 1) := by decide +kernel
theorem dX3_sum_3 : decode cX3_sum 3 = .ok (.istore_n 3, 1) := by decide +kernel
theorem dX3_sum_4 : decode cX3_sum 4 = .ok (.iload_n 3, 1) := by decide +kernel
theorem dX3_sum_5 : decode cX3_sum 5 = .ok (.iload_n 1, 1) := by decide +kernel
theorem dX3_sum_6 : decode cX3_sum 6 = .ok (.if_icmp .ge 21, 3) := by decide +kernel
theorem dX3_sum_9 : decode cX3_sum 9 = .ok (.iload_n 3, 1) := by decide +kernel
theorem dX3_sum_10 : decode cX3_sum 10 = .ok (.aload_n 0, 1) := by decide +kernel
theorem dX3_sum_11 : decode cX3_sum 11 = .ok (.arraylength, 1) := by decide +kernel
theorem dX3_sum_12 : decode cX3_sum 12 = .ok (.if_icmp .ge 15, 3) := by decide +kernel
theorem dX3_sum_15 : decode cX3_sum 15 = .ok (.iload_n 2, 1) := by decide +kernel
theorem dX3_sum_16 : decode cX3_sum 16 = .ok (.aload_n 0, 1) := by decide +kernel
theorem dX3_sum_17 : decode cX3_sum 17 = .ok (.iload_n 3, 1) := by decide +kernel
theorem dX3_sum_18 : decode cX3_sum 18 = .ok (.iaload, 1) := by decide +kernel
theorem dX3_sum_19 : decode cX3_sum 19 = .ok (.iadd, 1) := by decide +kernel
theorem dX3_sum_20 : decode cX3_sum 20 = .ok (.istore_n 2, 1) := by decide +kernel
theorem dX3_sum_21 : decode cX3_sum 21 = .ok (.iinc 3 1, 3) := by decide +kernel
theorem dX3_sum_24 : decode cX3_sum 24 = .ok (.goto (-20), 3) := by decide +kernel
theorem dX3_sum_27 : decode cX3_sum 27 = .ok (.iload_n 2, 1) := by decide +kernel
theorem dX3_sum_28 : decode cX3_sum 28 = .ok (.ireturn, 1) := by decide +kernel
theorem dX3_isUnder_0 : decode cX3_isUnder 0 = .ok (.iload_n 0, 1) := by decide +kernel
theorem dX3_isUnder_1 : decode cX3_isUnder 1 = .ok (.istore_n 2, 1) := by decide +kernel
theorem dX3_isUnder_2 : decode cX3_isUnder 2 = .ok (.iconst 0, 1) := by decide +kernel
theorem dX3_isUnder_3 : decode cX3_isUnder 3 = .ok (.istore_n 3, 1) := by decide +kernel
theorem dX3_isUnder_4 : decode cX3_isUnder 4 = .ok (.iload_n 3, 1) := by decide +kernel
theorem dX3_isUnder_5 : decode cX3_isUnder 5 = .ok (.bipush 6, 2) := by decide +kernel
theorem dX3_isUnder_7 : decode cX3_isUnder 7 = .ok (.if_icmp .ge 29, 3) := by decide +kernel
theorem dX3_isUnder_10 : decode cX3_isUnder 10 = .ok (.iload_n 2, 1) := by decide +kernel
theorem dX3_isUnder_11 : decode cX3_isUnder 11 = .ok (.invokestatic 49, 3) := by decide +kernel
theorem dX3_isUnder_14 : decode cX3_isUnder 14 = .ok (.ifCond .eq 22, 3) := by decide +kernel
theorem dX3_isUnder_17 : decode cX3_isUnder 17 = .ok (.iload_n 2, 1) := by decide +kernel
theorem dX3_isUnder_18 : decode cX3_isUnder 18 = .ok (.iload_n 1, 1) := by decide +kernel
theorem dX3_isUnder_19 : decode cX3_isUnder 19 = .ok (.if_icmp .ne 5, 3) := by decide +kernel
theorem dX3_isUnder_22 : decode cX3_isUnder 22 = .ok (.iconst 1, 1) := by decide +kernel
theorem dX3_isUnder_23 : decode cX3_isUnder 23 = .ok (.ireturn, 1) := by decide +kernel
theorem dX3_isUnder_24 : decode cX3_isUnder 24 = .ok (.getstatic 230, 3) := by decide +kernel
theorem dX3_isUnder_27 : decode cX3_isUnder 27 = .ok (.iload_n 2, 1) := by decide +kernel
theorem dX3_isUnder_28 : decode cX3_isUnder 28 = .ok (.iaload, 1) := by decide +kernel
theorem dX3_isUnder_29 : decode cX3_isUnder 29 = .ok (.istore_n 2, 1) := by decide +kernel
theorem dX3_isUnder_30 : decode cX3_isUnder 30 = .ok (.iinc 3 1, 3) := by decide +kernel
theorem dX3_isUnder_33 : decode cX3_isUnder 33 = .ok (.goto (-29), 3) := by decide +kernel
theorem dX3_isUnder_36 : decode cX3_isUnder 36 = .ok (.iconst 0, 1) := by decide +kernel
theorem dX3_isUnder_37 : decode cX3_isUnder 37 = .ok (.ireturn, 1) := by decide +kernel
theorem dX3_weighAll_0 : decode cX3_weighAll 0 = .ok (.iconst 0, 1) := by decide +kernel
theorem dX3_weighAll_1 : decode cX3_weighAll 1 = .ok (.istore_n 1, 1) := by decide +kernel
theorem dX3_weighAll_2 : decode cX3_weighAll 2 = .ok (.iload_n 1, 1) := by decide +kernel
theorem dX3_weighAll_3 : decode cX3_weighAll 3 = .ok (.aload_n 0, 1) := by decide +kernel
theorem dX3_weighAll_4 : decode cX3_weighAll 4 = .ok (.getfield 10, 3) := by decide +kernel
theorem dX3_weighAll_7 : decode cX3_weighAll 7 = .ok (.getfield 58, 3) := by decide +kernel
theorem dX3_weighAll_10 : decode cX3_weighAll 10 = .ok (.if_icmp .ge 23, 3) := by decide +kernel
theorem dX3_weighAll_13 : decode cX3_weighAll 13 = .ok (.aload_n 0, 1) := by decide +kernel
theorem dX3_weighAll_14 : decode cX3_weighAll 14 = .ok (.getfield 25, 3) := by decide +kernel
theorem dX3_weighAll_17 : decode cX3_weighAll 17 = .ok (.iload_n 1, 1) := by decide +kernel
theorem dX3_weighAll_18 : decode cX3_weighAll 18 = .ok (.aload_n 0, 1) := by decide +kernel
theorem dX3_weighAll_19 : decode cX3_weighAll 19 = .ok (.getfield 10, 3) := by decide +kernel
theorem dX3_weighAll_22 : decode cX3_weighAll 22 = .ok (.iload_n 1, 1) := by decide +kernel
theorem dX3_weighAll_23 : decode cX3_weighAll 23 = .ok (.invokevirtual 85, 3) := by decide +kernel
theorem dX3_weighAll_26 : decode cX3_weighAll 26 = .ok (.iastore, 1) := by decide +kernel
theorem dX3_weighAll_27 : decode cX3_weighAll 27 = .ok (.iinc 1 1, 3) := by decide +kernel
theorem dX3_weighAll_30 : decode cX3_weighAll 30 = .ok (.goto (-28), 3) := by decide +kernel
theorem dX3_weighAll_33 : decode cX3_weighAll 33 = .ok (.return_, 1) := by decide +kernel
theorem dX3_heartsOf_0 : decode cX3_heartsOf 0 = .ok (.iconst 0, 1) := by decide +kernel
theorem dX3_heartsOf_1 : decode cX3_heartsOf 1 = .ok (.istore_n 2, 1) := by decide +kernel
theorem dX3_heartsOf_2 : decode cX3_heartsOf 2 = .ok (.iconst 0, 1) := by decide +kernel
theorem dX3_heartsOf_3 : decode cX3_heartsOf 3 = .ok (.istore_n 3, 1) := by decide +kernel
theorem dX3_heartsOf_4 : decode cX3_heartsOf 4 = .ok (.iload_n 3, 1) := by decide +kernel
theorem dX3_heartsOf_5 : decode cX3_heartsOf 5 = .ok (.aload_n 0, 1) := by decide +kernel
theorem dX3_heartsOf_6 : decode cX3_heartsOf 6 = .ok (.getfield 10, 3) := by decide +kernel
theorem dX3_heartsOf_9 : decode cX3_heartsOf 9 = .ok (.getfield 58, 3) := by decide +kernel
theorem dX3_heartsOf_12 : decode cX3_heartsOf 12 = .ok (.if_icmp .ge 26, 3) := by decide +kernel
theorem dX3_heartsOf_15 : decode cX3_heartsOf 15 = .ok (.iload_n 1, 1) := by decide +kernel
theorem dX3_heartsOf_16 : decode cX3_heartsOf 16 = .ok (.iload_n 3, 1) := by decide +kernel
theorem dX3_heartsOf_17 : decode cX3_heartsOf 17 = .ok (.ishr, 1) := by decide +kernel
theorem dX3_heartsOf_18 : decode cX3_heartsOf 18 = .ok (.iconst 1, 1) := by decide +kernel
theorem dX3_heartsOf_19 : decode cX3_heartsOf 19 = .ok (.iand, 1) := by decide +kernel
theorem dX3_heartsOf_20 : decode cX3_heartsOf 20 = .ok (.ifCond .eq 12, 3) := by decide +kernel
theorem dX3_heartsOf_23 : decode cX3_heartsOf 23 = .ok (.iload_n 2, 1) := by decide +kernel
theorem dX3_heartsOf_24 : decode cX3_heartsOf 24 = .ok (.aload_n 0, 1) := by decide +kernel
theorem dX3_heartsOf_25 : decode cX3_heartsOf 25 = .ok (.getfield 25, 3) := by decide +kernel
theorem dX3_heartsOf_28 : decode cX3_heartsOf 28 = .ok (.iload_n 3, 1) := by decide +kernel
theorem dX3_heartsOf_29 : decode cX3_heartsOf 29 = .ok (.iaload, 1) := by decide +kernel
theorem dX3_heartsOf_30 : decode cX3_heartsOf 30 = .ok (.iadd, 1) := by decide +kernel
theorem dX3_heartsOf_31 : decode cX3_heartsOf 31 = .ok (.istore_n 2, 1) := by decide +kernel
theorem dX3_heartsOf_32 : decode cX3_heartsOf 32 = .ok (.iinc 3 1, 3) := by decide +kernel
theorem dX3_heartsOf_35 : decode cX3_heartsOf 35 = .ok (.goto (-31), 3) := by decide +kernel
theorem dX3_heartsOf_38 : decode cX3_heartsOf 38 = .ok (.iload_n 2, 1) := by decide +kernel
theorem dX3_heartsOf_39 : decode cX3_heartsOf 39 = .ok (.ireturn, 1) := by decide +kernel
theorem dX3_tellRests_0 : decode cX3_tellRests 0 = .ok (.aload_n 0, 1) := by decide +kernel
theorem dX3_tellRests_1 : decode cX3_tellRests 1 = .ok (.getfield 19, 3) := by decide +kernel
theorem dX3_tellRests_4 : decode cX3_tellRests 4 = .ok (.aload_n 0, 1) := by decide +kernel
theorem dX3_tellRests_5 : decode cX3_tellRests 5 = .ok (.getfield 10, 3) := by decide +kernel
theorem dX3_tellRests_8 : decode cX3_tellRests 8 = .ok (.invokevirtual 145, 3) := by decide +kernel
theorem dX3_tellRests_11 : decode cX3_tellRests 11 = .ok (.iconst 0, 1) := by decide +kernel
theorem dX3_tellRests_12 : decode cX3_tellRests 12 = .ok (.istore 4, 2) := by decide +kernel
theorem dX3_tellRests_14 : decode cX3_tellRests 14 = .ok (.iload 4, 2) := by decide +kernel
theorem dX3_tellRests_16 : decode cX3_tellRests 16 = .ok (.iload_n 3, 1) := by decide +kernel
theorem dX3_tellRests_17 : decode cX3_tellRests 17 = .ok (.if_icmp .ge 55, 3) := by decide +kernel
theorem dX3_tellRests_20 : decode cX3_tellRests 20 = .ok (.iload 4, 2) := by decide +kernel
theorem dX3_tellRests_22 : decode cX3_tellRests 22 = .ok (.bipush 40, 2) := by decide +kernel
theorem dX3_tellRests_24 : decode cX3_tellRests 24 = .ok (.if_icmp .ge 48, 3) := by decide +kernel
theorem dX3_tellRests_27 : decode cX3_tellRests 27 = .ok (.aload_n 0, 1) := by decide +kernel
theorem dX3_tellRests_28 : decode cX3_tellRests 28 = .ok (.getfield 29, 3) := by decide +kernel
theorem dX3_tellRests_31 : decode cX3_tellRests 31 = .ok (.iload 4, 2) := by decide +kernel
theorem dX3_tellRests_33 : decode cX3_tellRests 33 = .ok (.aload_n 0, 1) := by decide +kernel
theorem dX3_tellRests_34 : decode cX3_tellRests 34 = .ok (.getfield 19, 3) := by decide +kernel
theorem dX3_tellRests_37 : decode cX3_tellRests 37 = .ok (.invokevirtual 133, 3) := by decide +kernel
theorem dX3_tellRests_40 : decode cX3_tellRests 40 = .ok (.iload_n 2, 1) := by decide +kernel
theorem dX3_tellRests_41 : decode cX3_tellRests 41 = .ok (.ifCond .eq 14, 3) := by decide +kernel
theorem dX3_tellRests_44 : decode cX3_tellRests 44 = .ok (.aload_n 0, 1) := by decide +kernel
theorem dX3_tellRests_45 : decode cX3_tellRests 45 = .ok (.getfield 19, 3) := by decide +kernel
theorem dX3_tellRests_48 : decode cX3_tellRests 48 = .ok (.iload_n 1, 1) := by decide +kernel
theorem dX3_tellRests_49 : decode cX3_tellRests 49 = .ok (.invokevirtual 85, 3) := by decide +kernel
theorem dX3_tellRests_52 : decode cX3_tellRests 52 = .ok (.goto 4, 3) := by decide +kernel
theorem dX3_tellRests_55 : decode cX3_tellRests 55 = .ok (.iconst 0, 1) := by decide +kernel
theorem dX3_tellRests_56 : decode cX3_tellRests 56 = .ok (.isub, 1) := by decide +kernel
theorem dX3_tellRests_57 : decode cX3_tellRests 57 = .ok (.iastore, 1) := by decide +kernel
theorem dX3_tellRests_58 : decode cX3_tellRests 58 = .ok (.aload_n 0, 1) := by decide +kernel
theorem dX3_tellRests_59 : decode cX3_tellRests 59 = .ok (.getfield 19, 3) := by decide +kernel
theorem dX3_tellRests_62 : decode cX3_tellRests 62 = .ok (.iconst 1, 1) := by decide +kernel
theorem dX3_tellRests_63 : decode cX3_tellRests 63 = .ok (.invokevirtual 129, 3) := by decide +kernel
theorem dX3_tellRests_66 : decode cX3_tellRests 66 = .ok (.iinc 4 1, 3) := by decide +kernel
theorem dX3_tellRests_69 : decode cX3_tellRests 69 = .ok (.goto (-55), 3) := by decide +kernel
theorem dX3_tellRests_72 : decode cX3_tellRests 72 = .ok (.return_, 1) := by decide +kernel
theorem dX3_isWritten_0 : decode cX3_isWritten 0 = .ok (.iconst 0, 1) := by decide +kernel
theorem dX3_isWritten_1 : decode cX3_isWritten 1 = .ok (.istore_n 2, 1) := by decide +kernel
theorem dX3_isWritten_2 : decode cX3_isWritten 2 = .ok (.iload_n 2, 1) := by decide +kernel
theorem dX3_isWritten_3 : decode cX3_isWritten 3 = .ok (.aload_n 1, 1) := by decide +kernel
theorem dX3_isWritten_4 : decode cX3_isWritten 4 = .ok (.getfield 188, 3) := by decide +kernel
theorem dX3_isWritten_7 : decode cX3_isWritten 7 = .ok (.if_icmp .ge 28, 3) := by decide +kernel
theorem dX3_isWritten_10 : decode cX3_isWritten 10 = .ok (.aload_n 1, 1) := by decide +kernel
theorem dX3_isWritten_11 : decode cX3_isWritten 11 = .ok (.getfield 191, 3) := by decide +kernel
theorem dX3_isWritten_14 : decode cX3_isWritten 14 = .ok (.iload_n 2, 1) := by decide +kernel
theorem dX3_isWritten_15 : decode cX3_isWritten 15 = .ok (.laload, 1) := by decide +kernel
theorem dX3_isWritten_16 : decode cX3_isWritten 16 = .ok (.aload_n 0, 1) := by decide +kernel
theorem dX3_isWritten_17 : decode cX3_isWritten 17 = .ok (.getfield 29, 3) := by decide +kernel
theorem dX3_isWritten_20 : decode cX3_isWritten 20 = .ok (.iload_n 2, 1) := by decide +kernel
theorem dX3_isWritten_21 : decode cX3_isWritten 21 = .ok (.iaload, 1) := by decide +kernel
theorem dX3_isWritten_22 : decode cX3_isWritten 22 = .ok (.i2l, 1) := by decide +kernel
theorem dX3_isWritten_23 : decode cX3_isWritten 23 = .ok (.lcmp, 1) := by decide +kernel
theorem dX3_isWritten_24 : decode cX3_isWritten 24 = .ok (.ifCond .eq 5, 3) := by decide +kernel
theorem dX3_isWritten_27 : decode cX3_isWritten 27 = .ok (.iconst 0, 1) := by decide +kernel
theorem dX3_isWritten_28 : decode cX3_isWritten 28 = .ok (.ireturn, 1) := by decide +kernel
theorem dX3_isWritten_29 : decode cX3_isWritten 29 = .ok (.iinc 2 1, 3) := by decide +kernel
theorem dX3_isWritten_32 : decode cX3_isWritten 32 = .ok (.goto (-30), 3) := by decide +kernel
theorem dX3_isWritten_35 : decode cX3_isWritten 35 = .ok (.iconst 1, 1) := by decide +kernel
theorem dX3_isWritten_36 : decode cX3_isWritten 36 = .ok (.ireturn, 1) := by decide +kernel
theorem dX3_fits_0 : decode cX3_fits 0 = .ok (.iload_n 3, 1) := by decide +kernel
theorem dX3_fits_1 : decode cX3_fits 1 = .ok (.istore 5, 2) := by decide +kernel
theorem dX3_fits_3 : decode cX3_fits 3 = .ok (.iload 4, 2) := by decide +kernel
theorem dX3_fits_5 : decode cX3_fits 5 = .ok (.istore 6, 2) := by decide +kernel
theorem dX3_fits_7 : decode cX3_fits 7 = .ok (.iconst 0, 1) := by decide +kernel
theorem dX3_fits_8 : decode cX3_fits 8 = .ok (.istore 7, 2) := by decide +kernel
theorem dX3_fits_10 : decode cX3_fits 10 = .ok (.iload 7, 2) := by decide +kernel
theorem dX3_fits_12 : decode cX3_fits 12 = .ok (.aload_n 1, 1) := by decide +kernel
theorem dX3_fits_13 : decode cX3_fits 13 = .ok (.getfield 188, 3) := by decide +kernel
theorem dX3_fits_16 : decode cX3_fits 16 = .ok (.if_icmp .ge 73, 3) := by decide +kernel
theorem dX3_fits_19 : decode cX3_fits 19 = .ok (.aload_n 1, 1) := by decide +kernel
theorem dX3_fits_20 : decode cX3_fits 20 = .ok (.getfield 191, 3) := by decide +kernel
theorem dX3_fits_23 : decode cX3_fits 23 = .ok (.iload 7, 2) := by decide +kernel
theorem dX3_fits_25 : decode cX3_fits 25 = .ok (.laload, 1) := by decide +kernel
theorem dX3_fits_26 : decode cX3_fits 26 = .ok (.aload_n 0, 1) := by decide +kernel
theorem dX3_fits_27 : decode cX3_fits 27 = .ok (.getfield 29, 3) := by decide +kernel
theorem dX3_fits_30 : decode cX3_fits 30 = .ok (.iload 7, 2) := by decide +kernel
theorem dX3_fits_32 : decode cX3_fits 32 = .ok (.iaload, 1) := by decide +kernel
theorem dX3_fits_33 : decode cX3_fits 33 = .ok (.iload_n 2, 1) := by decide +kernel
theorem dX3_fits_34 : decode cX3_fits 34 = .ok (.iload 5, 2) := by decide +kernel
theorem dX3_fits_36 : decode cX3_fits 36 = .ok (.iload 6, 2) := by decide +kernel
theorem dX3_fits_38 : decode cX3_fits 38 = .ok (.aload_n 0, 1) := by decide +kernel
theorem dX3_fits_39 : decode cX3_fits 39 = .ok (.getfield 10, 3) := by decide +kernel
theorem dX3_fits_42 : decode cX3_fits 42 = .ok (.getfield 124, 3) := by decide +kernel
theorem dX3_fits_45 : decode cX3_fits 45 = .ok (.iload 7, 2) := by decide +kernel
theorem dX3_fits_47 : decode cX3_fits 47 = .ok (.iadd, 1) := by decide +kernel
theorem dX3_fits_48 : decode cX3_fits 48 = .ok (.invokestatic 233, 3) := by decide +kernel
theorem dX3_fits_51 : decode cX3_fits 51 = .ok (.iadd, 1) := by decide +kernel
theorem dX3_fits_52 : decode cX3_fits 52 = .ok (.i2l, 1) := by decide +kernel
theorem dX3_fits_53 : decode cX3_fits 53 = .ok (.lcmp, 1) := by decide +kernel
theorem dX3_fits_54 : decode cX3_fits 54 = .ok (.ifCond .eq 5, 3) := by decide +kernel
theorem dX3_fits_57 : decode cX3_fits 57 = .ok (.iconst 0, 1) := by decide +kernel
theorem dX3_fits_58 : decode cX3_fits 58 = .ok (.ireturn, 1) := by decide +kernel
theorem dX3_fits_59 : decode cX3_fits 59 = .ok (.iload_n 2, 1) := by decide +kernel
theorem dX3_fits_60 : decode cX3_fits 60 = .ok (.iload 5, 2) := by decide +kernel
theorem dX3_fits_62 : decode cX3_fits 62 = .ok (.iload 6, 2) := by decide +kernel
theorem dX3_fits_64 : decode cX3_fits 64 = .ok (.invokestatic 237, 3) := by decide +kernel
theorem dX3_fits_67 : decode cX3_fits 67 = .ok (.istore 8, 2) := by decide +kernel
theorem dX3_fits_69 : decode cX3_fits 69 = .ok (.iload 5, 2) := by decide +kernel
theorem dX3_fits_71 : decode cX3_fits 71 = .ok (.iload 8, 2) := by decide +kernel
theorem dX3_fits_73 : decode cX3_fits 73 = .ok (.isub, 1) := by decide +kernel
theorem dX3_fits_74 : decode cX3_fits 74 = .ok (.istore 5, 2) := by decide +kernel
theorem dX3_fits_76 : decode cX3_fits 76 = .ok (.iload 6, 2) := by decide +kernel
theorem dX3_fits_78 : decode cX3_fits 78 = .ok (.iload 8, 2) := by decide +kernel
theorem dX3_fits_80 : decode cX3_fits 80 = .ok (.iadd, 1) := by decide +kernel
theorem dX3_fits_81 : decode cX3_fits 81 = .ok (.istore 6, 2) := by decide +kernel
theorem dX3_fits_83 : decode cX3_fits 83 = .ok (.iinc 7 1, 3) := by decide +kernel
theorem dX3_fits_86 : decode cX3_fits 86 = .ok (.goto (-76), 3) := by decide +kernel
theorem dX3_fits_89 : decode cX3_fits 89 = .ok (.iconst 1, 1) := by decide +kernel
theorem dX3_fits_90 : decode cX3_fits 90 = .ok (.ireturn, 1) := by decide +kernel
theorem dX3_heartAs_0 : decode cX3_heartAs 0 = .ok (.iload_n 1, 1) := by decide +kernel
theorem dX3_heartAs_1 : decode cX3_heartAs 1 = .ok (.iload_n 2, 1) := by decide +kernel
theorem dX3_heartAs_2 : decode cX3_heartAs 2 = .ok (.isub, 1) := by decide +kernel
theorem dX3_heartAs_3 : decode cX3_heartAs 3 = .ok (.istore 4, 2) := by decide +kernel
theorem dX3_heartAs_5 : decode cX3_heartAs 5 = .ok (.iload_n 0, 1) := by decide +kernel
theorem dX3_heartAs_6 : decode cX3_heartAs 6 = .ok (.tableswitch 75 1 5 #[34, 41, 46, 51, 58], 34) := by decide +kernel
theorem dX3_heartAs_40 : decode cX3_heartAs 40 = .ok (.iload 4, 2) := by decide +kernel
theorem dX3_heartAs_42 : decode cX3_heartAs 42 = .ok (.iload_n 2, 1) := by decide +kernel
theorem dX3_heartAs_43 : decode cX3_heartAs 43 = .ok (.iconst 2, 1) := by decide +kernel
theorem dX3_heartAs_44 : decode cX3_heartAs 44 = .ok (.idiv, 1) := by decide +kernel
theorem dX3_heartAs_45 : decode cX3_heartAs 45 = .ok (.isub, 1) := by decide +kernel
theorem dX3_heartAs_46 : decode cX3_heartAs 46 = .ok (.ireturn, 1) := by decide +kernel
theorem dX3_heartAs_47 : decode cX3_heartAs 47 = .ok (.iconst 2, 1) := by decide +kernel
theorem dX3_heartAs_48 : decode cX3_heartAs 48 = .ok (.iload 4, 2) := by decide +kernel
theorem dX3_heartAs_50 : decode cX3_heartAs 50 = .ok (.imul, 1) := by decide +kernel
theorem dX3_heartAs_51 : decode cX3_heartAs 51 = .ok (.ireturn, 1) := by decide +kernel
theorem dX3_heartAs_52 : decode cX3_heartAs 52 = .ok (.iload 4, 2) := by decide +kernel
theorem dX3_heartAs_54 : decode cX3_heartAs 54 = .ok (.iconst 2, 1) := by decide +kernel
theorem dX3_heartAs_55 : decode cX3_heartAs 55 = .ok (.idiv, 1) := by decide +kernel
theorem dX3_heartAs_56 : decode cX3_heartAs 56 = .ok (.ireturn, 1) := by decide +kernel
theorem dX3_heartAs_57 : decode cX3_heartAs 57 = .ok (.iconst 2, 1) := by decide +kernel
theorem dX3_heartAs_58 : decode cX3_heartAs 58 = .ok (.iload 4, 2) := by decide +kernel
theorem dX3_heartAs_60 : decode cX3_heartAs 60 = .ok (.imul, 1) := by decide +kernel
theorem dX3_heartAs_61 : decode cX3_heartAs 61 = .ok (.iconst 3, 1) := by decide +kernel
theorem dX3_heartAs_62 : decode cX3_heartAs 62 = .ok (.isub, 1) := by decide +kernel
theorem dX3_heartAs_63 : decode cX3_heartAs 63 = .ok (.ireturn, 1) := by decide +kernel
theorem dX3_heartAs_64 : decode cX3_heartAs 64 = .ok (.iload_n 3, 1) := by decide +kernel
theorem dX3_heartAs_65 : decode cX3_heartAs 65 = .ok (.bipush 40, 2) := by decide +kernel
theorem dX3_heartAs_67 : decode cX3_heartAs 67 = .ok (.if_icmp .lt 7, 3) := by decide +kernel
theorem dX3_heartAs_70 : decode cX3_heartAs 70 = .ok (.iconst 0, 1) := by decide +kernel
theorem dX3_heartAs_71 : decode cX3_heartAs 71 = .ok (.goto 9, 3) := by decide +kernel
theorem dX3_heartAs_74 : decode cX3_heartAs 74 = .ok (.iload 4, 2) := by decide +kernel
theorem dX3_heartAs_76 : decode cX3_heartAs 76 = .ok (.iload_n 2, 1) := by decide +kernel
theorem dX3_heartAs_77 : decode cX3_heartAs 77 = .ok (.iconst 2, 1) := by decide +kernel
theorem dX3_heartAs_78 : decode cX3_heartAs 78 = .ok (.idiv, 1) := by decide +kernel
theorem dX3_heartAs_79 : decode cX3_heartAs 79 = .ok (.isub, 1) := by decide +kernel
theorem dX3_heartAs_80 : decode cX3_heartAs 80 = .ok (.ireturn, 1) := by decide +kernel
theorem dX3_heartAs_81 : decode cX3_heartAs 81 = .ok (.iload 4, 2) := by decide +kernel
theorem dX3_heartAs_83 : decode cX3_heartAs 83 = .ok (.ireturn, 1) := by decide +kernel
theorem dX3_mixesAs_0 : decode cX3_mixesAs 0 = .ok (.iload_n 0, 1) := by decide +kernel
theorem dX3_mixesAs_1 : decode cX3_mixesAs 1 = .ok (.tableswitch 47 2 5 #[31, 33, 35, 37], 31) := by decide +kernel
theorem dX3_mixesAs_32 : decode cX3_mixesAs 32 = .ok (.iconst 3, 1) := by decide +kernel
theorem dX3_mixesAs_33 : decode cX3_mixesAs 33 = .ok (.ireturn, 1) := by decide +kernel
theorem dX3_mixesAs_34 : decode cX3_mixesAs 34 = .ok (.iconst 0, 1) := by decide +kernel
theorem dX3_mixesAs_35 : decode cX3_mixesAs 35 = .ok (.ireturn, 1) := by decide +kernel
theorem dX3_mixesAs_36 : decode cX3_mixesAs 36 = .ok (.iconst 2, 1) := by decide +kernel
theorem dX3_mixesAs_37 : decode cX3_mixesAs 37 = .ok (.ireturn, 1) := by decide +kernel
theorem dX3_mixesAs_38 : decode cX3_mixesAs 38 = .ok (.iload_n 1, 1) := by decide +kernel
theorem dX3_mixesAs_39 : decode cX3_mixesAs 39 = .ok (.ifCond .ne 7, 3) := by decide +kernel
theorem dX3_mixesAs_42 : decode cX3_mixesAs 42 = .ok (.iconst 0, 1) := by decide +kernel
theorem dX3_mixesAs_43 : decode cX3_mixesAs 43 = .ok (.goto 4, 3) := by decide +kernel
theorem dX3_mixesAs_46 : decode cX3_mixesAs 46 = .ok (.iconst 1, 1) := by decide +kernel
theorem dX3_mixesAs_47 : decode cX3_mixesAs 47 = .ok (.ireturn, 1) := by decide +kernel
theorem dX3_mixesAs_48 : decode cX3_mixesAs 48 = .ok (.iconst 1, 1) := by decide +kernel
theorem dX3_mixesAs_49 : decode cX3_mixesAs 49 = .ok (.ireturn, 1) := by decide +kernel
theorem dX3_mixing_0 : decode cX3_mixing 0 = .ok (.iload_n 0, 1) := by decide +kernel
theorem dX3_mixing_1 : decode cX3_mixing 1 = .ok (.iload_n 1, 1) := by decide +kernel
theorem dX3_mixing_2 : decode cX3_mixing 2 = .ok (.invokestatic 81, 3) := by decide +kernel
theorem dX3_mixing_5 : decode cX3_mixing 5 = .ok (.iload_n 1, 1) := by decide +kernel
theorem dX3_mixing_6 : decode cX3_mixing 6 = .ok (.iload_n 2, 1) := by decide +kernel
theorem dX3_mixing_7 : decode cX3_mixing 7 = .ok (.isub, 1) := by decide +kernel
theorem dX3_mixing_8 : decode cX3_mixing 8 = .ok (.invokestatic 161, 3) := by decide +kernel
theorem dX3_mixing_11 : decode cX3_mixing 11 = .ok (.iconst 2, 1) := by decide +kernel
theorem dX3_mixing_12 : decode cX3_mixing 12 = .ok (.idiv, 1) := by decide +kernel
theorem dX3_mixing_13 : decode cX3_mixing 13 = .ok (.invokestatic 241, 3) := by decide +kernel
theorem dX3_mixing_16 : decode cX3_mixing 16 = .ok (.istore_n 3, 1) := by decide +kernel
theorem dX3_mixing_17 : decode cX3_mixing 17 = .ok (.iload_n 1, 1) := by decide +kernel
theorem dX3_mixing_18 : decode cX3_mixing 18 = .ok (.iload_n 2, 1) := by decide +kernel
theorem dX3_mixing_19 : decode cX3_mixing 19 = .ok (.if_icmp .le 7, 3) := by decide +kernel
theorem dX3_mixing_22 : decode cX3_mixing 22 = .ok (.iload_n 3, 1) := by decide +kernel
theorem dX3_mixing_23 : decode cX3_mixing 23 = .ok (.goto 5, 3) := by decide +kernel
theorem dX3_mixing_26 : decode cX3_mixing 26 = .ok (.iload_n 3, 1) := by decide +kernel
theorem dX3_mixing_27 : decode cX3_mixing 27 = .ok (.ineg, 1) := by decide +kernel
theorem dX3_mixing_28 : decode cX3_mixing 28 = .ok (.ireturn, 1) := by decide +kernel
