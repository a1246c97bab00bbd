theorem dX0_init_0 : decode cX0_init 0 = .ok (.aload_n 0, 1) := by decide +kernel
theorem dX0_init_1 : decode cX0_init 1 = .ok (.invokespecial 3, 3) := by decide +kernel
theorem dX0_init_4 : decode cX0_init 4 = .ok (.aload_n 0, 1) := by decide +kernel
theorem dX0_init_5 : decode cX0_init 5 = .ok (.bipush 8, 2) := by decide +kernel
theorem dX0_init_7 : decode cX0_init 7 = .ok (.newarray .int, 2) := by decide +kernel
theorem dX0_init_9 : decode cX0_init 9 = .ok (.putfield 9, 3) := by decide +kernel
theorem dX0_init_12 : decode cX0_init 12 = .ok (.aload_n 0, 1) := by decide +kernel
theorem dX0_init_13 : decode cX0_init 13 = .ok (.bipush 8, 2) := by decide +kernel
theorem dX0_init_15 : decode cX0_init 15 = .ok (.newarray .int, 2) := by decide +kernel
theorem dX0_init_17 : decode cX0_init 17 = .ok (.putfield 15, 3) := by decide +kernel
theorem dX0_init_20 : decode cX0_init 20 = .ok (.aload_n 0, 1) := by decide +kernel
theorem dX0_init_21 : decode cX0_init 21 = .ok (.bipush 8, 2) := by decide +kernel
theorem dX0_init_23 : decode cX0_init 23 = .ok (.newarray .int, 2) := by decide +kernel
theorem dX0_init_25 : decode cX0_init 25 = .ok (.putfield 18, 3) := by decide +kernel
theorem dX0_init_28 : decode cX0_init 28 = .ok (.aload_n 0, 1) := by decide +kernel
theorem dX0_init_29 : decode cX0_init 29 = .ok (.bipush 8, 2) := by decide +kernel
theorem dX0_init_31 : decode cX0_init 31 = .ok (.newarray .int, 2) := by decide +kernel
theorem dX0_init_33 : decode cX0_init 33 = .ok (.putfield 21, 3) := by decide +kernel
theorem dX0_init_36 : decode cX0_init 36 = .ok (.aload_n 0, 1) := by decide +kernel
theorem dX0_init_37 : decode cX0_init 37 = .ok (.iconst 2, 1) := by decide +kernel
theorem dX0_init_38 : decode cX0_init 38 = .ok (.newarray .int, 2) := by decide +kernel
theorem dX0_init_40 : decode cX0_init 40 = .ok (.putfield 24, 3) := by decide +kernel
theorem dX0_init_43 : decode cX0_init 43 = .ok (.aload_n 0, 1) := by decide +kernel
theorem dX0_init_44 : decode cX0_init 44 = .ok (.bipush 10, 2) := by decide +kernel
theorem dX0_init_46 : decode cX0_init 46 = .ok (.putfield 27, 3) := by decide +kernel
theorem dX0_init_49 : decode cX0_init 49 = .ok (.return_, 1) := by decide +kernel
theorem dX0_becomes_0 : decode cX0_becomes 0 = .ok (.aload_n 0, 1) := by decide +kernel
theorem dX0_becomes_1 : decode cX0_becomes 1 = .ok (.aload_n 1, 1) := by decide +kernel
theorem dX0_becomes_2 : decode cX0_becomes 2 = .ok (.getfield 31, 3) := by decide +kernel
theorem dX0_becomes_5 : decode cX0_becomes 5 = .ok (.putfield 31, 3) := by decide +kernel
theorem dX0_becomes_8 : decode cX0_becomes 8 = .ok (.aload_n 0, 1) := by decide +kernel
theorem dX0_becomes_9 : decode cX0_becomes 9 = .ok (.aload_n 1, 1) := by decide +kernel
theorem dX0_becomes_10 : decode cX0_becomes 10 = .ok (.getfield 34, 3) := by decide +kernel
theorem dX0_becomes_13 : decode cX0_becomes 13 = .ok (.putfield 34, 3) := by decide +kernel
theorem dX0_becomes_16 : decode cX0_becomes 16 = .ok (.aload_n 0, 1) := by decide +kernel
theorem dX0_becomes_17 : decode cX0_becomes 17 = .ok (.aload_n 1, 1) := by decide +kernel
theorem dX0_becomes_18 : decode cX0_becomes 18 = .ok (.getfield 27, 3) := by decide +kernel
theorem dX0_becomes_21 : decode cX0_becomes 21 = .ok (.putfield 27, 3) := by decide +kernel
theorem dX0_becomes_24 : decode cX0_becomes 24 = .ok (.aload_n 0, 1) := by decide +kernel
theorem dX0_becomes_25 : decode cX0_becomes 25 = .ok (.getfield 24, 3) := by decide +kernel
theorem dX0_becomes_28 : decode cX0_becomes 28 = .ok (.iconst 0, 1) := by decide +kernel
theorem dX0_becomes_29 : decode cX0_becomes 29 = .ok (.aload_n 1, 1) := by decide +kernel
theorem dX0_becomes_30 : decode cX0_becomes 30 = .ok (.getfield 24, 3) := by decide +kernel
theorem dX0_becomes_33 : decode cX0_becomes 33 = .ok (.iconst 0, 1) := by decide +kernel
theorem dX0_becomes_34 : decode cX0_becomes 34 = .ok (.iaload, 1) := by decide +kernel
theorem dX0_becomes_35 : decode cX0_becomes 35 = .ok (.iastore, 1) := by decide +kernel
theorem dX0_becomes_36 : decode cX0_becomes 36 = .ok (.aload_n 0, 1) := by decide +kernel
theorem dX0_becomes_37 : decode cX0_becomes 37 = .ok (.getfield 24, 3) := by decide +kernel
theorem dX0_becomes_40 : decode cX0_becomes 40 = .ok (.iconst 1, 1) := by decide +kernel
theorem dX0_becomes_41 : decode cX0_becomes 41 = .ok (.aload_n 1, 1) := by decide +kernel
theorem dX0_becomes_42 : decode cX0_becomes 42 = .ok (.getfield 24, 3) := by decide +kernel
theorem dX0_becomes_45 : decode cX0_becomes 45 = .ok (.iconst 1, 1) := by decide +kernel
theorem dX0_becomes_46 : decode cX0_becomes 46 = .ok (.iaload, 1) := by decide +kernel
theorem dX0_becomes_47 : decode cX0_becomes 47 = .ok (.iastore, 1) := by decide +kernel
theorem dX0_becomes_48 : decode cX0_becomes 48 = .ok (.iconst 0, 1) := by decide +kernel
theorem dX0_becomes_49 : decode cX0_becomes 49 = .ok (.istore_n 2, 1) := by decide +kernel
theorem dX0_becomes_50 : decode cX0_becomes 50 = .ok (.iload_n 2, 1) := by decide +kernel
theorem dX0_becomes_51 : decode cX0_becomes 51 = .ok (.aload_n 0, 1) := by decide +kernel
theorem dX0_becomes_52 : decode cX0_becomes 52 = .ok (.getfield 31, 3) := by decide +kernel
theorem dX0_becomes_55 : decode cX0_becomes 55 = .ok (.if_icmp .ge 57, 3) := by decide +kernel
theorem dX0_becomes_58 : decode cX0_becomes 58 = .ok (.aload_n 0, 1) := by decide +kernel
theorem dX0_becomes_59 : decode cX0_becomes 59 = .ok (.getfield 9, 3) := by decide +kernel
theorem dX0_becomes_62 : decode cX0_becomes 62 = .ok (.iload_n 2, 1) := by decide +kernel
theorem dX0_becomes_63 : decode cX0_becomes 63 = .ok (.aload_n 1, 1) := by decide +kernel
theorem dX0_becomes_64 : decode cX0_becomes 64 = .ok (.getfield 9, 3) := by decide +kernel
theorem dX0_becomes_67 : decode cX0_becomes 67 = .ok (.iload_n 2, 1) := by decide +kernel
theorem dX0_becomes_68 : decode cX0_becomes 68 = .ok (.iaload, 1) := by decide +kernel
theorem dX0_becomes_69 : decode cX0_becomes 69 = .ok (.iastore, 1) := by decide +kernel
theorem dX0_becomes_70 : decode cX0_becomes 70 = .ok (.aload_n 0, 1) := by decide +kernel
theorem dX0_becomes_71 : decode cX0_becomes 71 = .ok (.getfield 15, 3) := by decide +kernel
theorem dX0_becomes_74 : decode cX0_becomes 74 = .ok (.iload_n 2, 1) := by decide +kernel
theorem dX0_becomes_75 : decode cX0_becomes 75 = .ok (.aload_n 1, 1) := by decide +kernel
theorem dX0_becomes_76 : decode cX0_becomes 76 = .ok (.getfield 15, 3) := by decide +kernel
theorem dX0_becomes_79 : decode cX0_becomes 79 = .ok (.iload_n 2, 1) := by decide +kernel
theorem dX0_becomes_80 : decode cX0_becomes 80 = .ok (.iaload, 1) := by decide +kernel
theorem dX0_becomes_81 : decode cX0_becomes 81 = .ok (.iastore, 1) := by decide +kernel
theorem dX0_becomes_82 : decode cX0_becomes 82 = .ok (.aload_n 0, 1) := by decide +kernel
theorem dX0_becomes_83 : decode cX0_becomes 83 = .ok (.getfield 18, 3) := by decide +kernel
theorem dX0_becomes_86 : decode cX0_becomes 86 = .ok (.iload_n 2, 1) := by decide +kernel
theorem dX0_becomes_87 : decode cX0_becomes 87 = .ok (.aload_n 1, 1) := by decide +kernel
theorem dX0_becomes_88 : decode cX0_becomes 88 = .ok (.getfield 18, 3) := by decide +kernel
theorem dX0_becomes_91 : decode cX0_becomes 91 = .ok (.iload_n 2, 1) := by decide +kernel
theorem dX0_becomes_92 : decode cX0_becomes 92 = .ok (.iaload, 1) := by decide +kernel
theorem dX0_becomes_93 : decode cX0_becomes 93 = .ok (.iastore, 1) := by decide +kernel
theorem dX0_becomes_94 : decode cX0_becomes 94 = .ok (.aload_n 0, 1) := by decide +kernel
theorem dX0_becomes_95 : decode cX0_becomes 95 = .ok (.getfield 21, 3) := by decide +kernel
theorem dX0_becomes_98 : decode cX0_becomes 98 = .ok (.iload_n 2, 1) := by decide +kernel
theorem dX0_becomes_99 : decode cX0_becomes 99 = .ok (.aload_n 1, 1) := by decide +kernel
theorem dX0_becomes_100 : decode cX0_becomes 100 = .ok (.getfield 21, 3) := by decide +kernel
theorem dX0_becomes_103 : decode cX0_becomes 103 = .ok (.iload_n 2, 1) := by decide +kernel
theorem dX0_becomes_104 : decode cX0_becomes 104 = .ok (.iaload, 1) := by decide +kernel
theorem dX0_becomes_105 : decode cX0_becomes 105 = .ok (.iastore, 1) := by decide +kernel
theorem dX0_becomes_106 : decode cX0_becomes 106 = .ok (.iinc 2 1, 3) := by decide +kernel
theorem dX0_becomes_109 : decode cX0_becomes 109 = .ok (.goto (-59), 3) := by decide +kernel
theorem dX0_becomes_112 : decode cX0_becomes 112 = .ok (.return_, 1) := by decide +kernel
theorem dX0_join_0 : decode cX0_join 0 = .ok (.aload_n 0, 1) := by decide +kernel
theorem dX0_join_1 : decode cX0_join 1 = .ok (.getfield 31, 3) := by decide +kernel
theorem dX0_join_4 : decode cX0_join 4 = .ok (.bipush 8, 2) := by decide +kernel
theorem dX0_join_6 : decode cX0_join 6 = .ok (.if_icmp .lt 5, 3) := by decide +kernel
theorem dX0_join_9 : decode cX0_join 9 = .ok (.iconst (-1), 1) := by decide +kernel
theorem dX0_join_10 : decode cX0_join 10 = .ok (.ireturn, 1) := by decide +kernel
theorem dX0_join_11 : decode cX0_join 11 = .ok (.aload_n 0, 1) := by decide +kernel
theorem dX0_join_12 : decode cX0_join 12 = .ok (.getfield 31, 3) := by decide +kernel
theorem dX0_join_15 : decode cX0_join 15 = .ok (.istore_n 2, 1) := by decide +kernel
theorem dX0_join_16 : decode cX0_join 16 = .ok (.aload_n 0, 1) := by decide +kernel
theorem dX0_join_17 : decode cX0_join 17 = .ok (.getfield 9, 3) := by decide +kernel
theorem dX0_join_20 : decode cX0_join 20 = .ok (.iload_n 2, 1) := by decide +kernel
theorem dX0_join_21 : decode cX0_join 21 = .ok (.iload_n 1, 1) := by decide +kernel
theorem dX0_join_22 : decode cX0_join 22 = .ok (.iastore, 1) := by decide +kernel
theorem dX0_join_23 : decode cX0_join 23 = .ok (.aload_n 0, 1) := by decide +kernel
theorem dX0_join_24 : decode cX0_join 24 = .ok (.getfield 15, 3) := by decide +kernel
theorem dX0_join_27 : decode cX0_join 27 = .ok (.iload_n 2, 1) := by decide +kernel
theorem dX0_join_28 : decode cX0_join 28 = .ok (.iconst 0, 1) := by decide +kernel
theorem dX0_join_29 : decode cX0_join 29 = .ok (.iastore, 1) := by decide +kernel
theorem dX0_join_30 : decode cX0_join 30 = .ok (.aload_n 0, 1) := by decide +kernel
theorem dX0_join_31 : decode cX0_join 31 = .ok (.getfield 18, 3) := by decide +kernel
theorem dX0_join_34 : decode cX0_join 34 = .ok (.iload_n 2, 1) := by decide +kernel
theorem dX0_join_35 : decode cX0_join 35 = .ok (.iconst 0, 1) := by decide +kernel
theorem dX0_join_36 : decode cX0_join 36 = .ok (.iastore, 1) := by decide +kernel
theorem dX0_join_37 : decode cX0_join 37 = .ok (.aload_n 0, 1) := by decide +kernel
theorem dX0_join_38 : decode cX0_join 38 = .ok (.getfield 21, 3) := by decide +kernel
theorem dX0_join_41 : decode cX0_join 41 = .ok (.iload_n 2, 1) := by decide +kernel
theorem dX0_join_42 : decode cX0_join 42 = .ok (.iconst (-1), 1) := by decide +kernel
theorem dX0_join_43 : decode cX0_join 43 = .ok (.iastore, 1) := by decide +kernel
theorem dX0_join_44 : decode cX0_join 44 = .ok (.aload_n 0, 1) := by decide +kernel
theorem dX0_join_45 : decode cX0_join 45 = .ok (.dup, 1) := by decide +kernel
theorem dX0_join_46 : decode cX0_join 46 = .ok (.getfield 31, 3) := by decide +kernel
theorem dX0_join_49 : decode cX0_join 49 = .ok (.iconst 1, 1) := by decide +kernel
theorem dX0_join_50 : decode cX0_join 50 = .ok (.iadd, 1) := by decide +kernel
theorem dX0_join_51 : decode cX0_join 51 = .ok (.putfield 31, 3) := by decide +kernel
theorem dX0_join_54 : decode cX0_join 54 = .ok (.iload_n 2, 1) := by decide +kernel
theorem dX0_join_55 : decode cX0_join 55 = .ok (.ireturn, 1) := by decide +kernel
theorem dX0_hear_0 : decode cX0_hear 0 = .ok (.aload_n 0, 1) := by decide +kernel
theorem dX0_hear_1 : decode cX0_hear 1 = .ok (.getfield 15, 3) := by decide +kernel
theorem dX0_hear_4 : decode cX0_hear 4 = .ok (.iload_n 1, 1) := by decide +kernel
theorem dX0_hear_5 : decode cX0_hear 5 = .ok (.bipush 99, 2) := by decide +kernel
theorem dX0_hear_7 : decode cX0_hear 7 = .ok (.aload_n 0, 1) := by decide +kernel
theorem dX0_hear_8 : decode cX0_hear 8 = .ok (.getfield 15, 3) := by decide +kernel
theorem dX0_hear_11 : decode cX0_hear 11 = .ok (.iload_n 1, 1) := by decide +kernel
theorem dX0_hear_12 : decode cX0_hear 12 = .ok (.iaload, 1) := by decide +kernel
theorem dX0_hear_13 : decode cX0_hear 13 = .ok (.iload_n 2, 1) := by decide +kernel
theorem dX0_hear_14 : decode cX0_hear 14 = .ok (.iadd, 1) := by decide +kernel
theorem dX0_hear_15 : decode cX0_hear 15 = .ok (.invokestatic 37, 3) := by decide +kernel
theorem dX0_hear_18 : decode cX0_hear 18 = .ok (.iastore, 1) := by decide +kernel
theorem dX0_hear_19 : decode cX0_hear 19 = .ok (.aload_n 0, 1) := by decide +kernel
theorem dX0_hear_20 : decode cX0_hear 20 = .ok (.getfield 18, 3) := by decide +kernel
theorem dX0_hear_23 : decode cX0_hear 23 = .ok (.iload_n 1, 1) := by decide +kernel
theorem dX0_hear_24 : decode cX0_hear 24 = .ok (.bipush 99, 2) := by decide +kernel
theorem dX0_hear_26 : decode cX0_hear 26 = .ok (.aload_n 0, 1) := by decide +kernel
theorem dX0_hear_27 : decode cX0_hear 27 = .ok (.getfield 18, 3) := by decide +kernel
theorem dX0_hear_30 : decode cX0_hear 30 = .ok (.iload_n 1, 1) := by decide +kernel
theorem dX0_hear_31 : decode cX0_hear 31 = .ok (.iaload, 1) := by decide +kernel
theorem dX0_hear_32 : decode cX0_hear 32 = .ok (.iload_n 3, 1) := by decide +kernel
theorem dX0_hear_33 : decode cX0_hear 33 = .ok (.iadd, 1) := by decide +kernel
theorem dX0_hear_34 : decode cX0_hear 34 = .ok (.invokestatic 37, 3) := by decide +kernel
theorem dX0_hear_37 : decode cX0_hear 37 = .ok (.iastore, 1) := by decide +kernel
theorem dX0_hear_38 : decode cX0_hear 38 = .ok (.return_, 1) := by decide +kernel
theorem dX0_heartOf_0 : decode cX0_heartOf 0 = .ok (.aload_n 0, 1) := by decide +kernel
theorem dX0_heartOf_1 : decode cX0_heartOf 1 = .ok (.getfield 9, 3) := by decide +kernel
theorem dX0_heartOf_4 : decode cX0_heartOf 4 = .ok (.iload_n 1, 1) := by decide +kernel
theorem dX0_heartOf_5 : decode cX0_heartOf 5 = .ok (.iaload, 1) := by decide +kernel
theorem dX0_heartOf_6 : decode cX0_heartOf 6 = .ok (.aload_n 0, 1) := by decide +kernel
theorem dX0_heartOf_7 : decode cX0_heartOf 7 = .ok (.getfield 15, 3) := by decide +kernel
theorem dX0_heartOf_10 : decode cX0_heartOf 10 = .ok (.iload_n 1, 1) := by decide +kernel
theorem dX0_heartOf_11 : decode cX0_heartOf 11 = .ok (.iaload, 1) := by decide +kernel
theorem dX0_heartOf_12 : decode cX0_heartOf 12 = .ok (.aload_n 0, 1) := by decide +kernel
theorem dX0_heartOf_13 : decode cX0_heartOf 13 = .ok (.getfield 18, 3) := by decide +kernel
theorem dX0_heartOf_16 : decode cX0_heartOf 16 = .ok (.iload_n 1, 1) := by decide +kernel
theorem dX0_heartOf_17 : decode cX0_heartOf 17 = .ok (.iaload, 1) := by decide +kernel
theorem dX0_heartOf_18 : decode cX0_heartOf 18 = .ok (.aload_n 0, 1) := by decide +kernel
theorem dX0_heartOf_19 : decode cX0_heartOf 19 = .ok (.getfield 34, 3) := by decide +kernel
theorem dX0_heartOf_22 : decode cX0_heartOf 22 = .ok (.invokestatic 43, 3) := by decide +kernel
theorem dX0_heartOf_25 : decode cX0_heartOf 25 = .ok (.ireturn, 1) := by decide +kernel
theorem dX0_sitters_0 : decode cX0_sitters 0 = .ok (.iconst 0, 1) := by decide +kernel
theorem dX0_sitters_1 : decode cX0_sitters 1 = .ok (.istore_n 2, 1) := by decide +kernel
theorem dX0_sitters_2 : decode cX0_sitters 2 = .ok (.iconst 0, 1) := by decide +kernel
theorem dX0_sitters_3 : decode cX0_sitters 3 = .ok (.istore_n 3, 1) := by decide +kernel
theorem dX0_sitters_4 : decode cX0_sitters 4 = .ok (.iload_n 3, 1) := by decide +kernel
theorem dX0_sitters_5 : decode cX0_sitters 5 = .ok (.aload_n 0, 1) := by decide +kernel
theorem dX0_sitters_6 : decode cX0_sitters 6 = .ok (.getfield 31, 3) := by decide +kernel
theorem dX0_sitters_9 : decode cX0_sitters 9 = .ok (.if_icmp .ge 25, 3) := by decide +kernel
theorem dX0_sitters_12 : decode cX0_sitters 12 = .ok (.aload_n 0, 1) := by decide +kernel
theorem dX0_sitters_13 : decode cX0_sitters 13 = .ok (.getfield 21, 3) := by decide +kernel
theorem dX0_sitters_16 : decode cX0_sitters 16 = .ok (.iload_n 3, 1) := by decide +kernel
theorem dX0_sitters_17 : decode cX0_sitters 17 = .ok (.iaload, 1) := by decide +kernel
theorem dX0_sitters_18 : decode cX0_sitters 18 = .ok (.iload_n 1, 1) := by decide +kernel
theorem dX0_sitters_19 : decode cX0_sitters 19 = .ok (.if_icmp .ne 9, 3) := by decide +kernel
theorem dX0_sitters_22 : decode cX0_sitters 22 = .ok (.iload_n 2, 1) := by decide +kernel
theorem dX0_sitters_23 : decode cX0_sitters 23 = .ok (.iconst 1, 1) := by decide +kernel
theorem dX0_sitters_24 : decode cX0_sitters 24 = .ok (.iload_n 3, 1) := by decide +kernel
theorem dX0_sitters_25 : decode cX0_sitters 25 = .ok (.ishl, 1) := by decide +kernel
theorem dX0_sitters_26 : decode cX0_sitters 26 = .ok (.ior, 1) := by decide +kernel
theorem dX0_sitters_27 : decode cX0_sitters 27 = .ok (.istore_n 2, 1) := by decide +kernel
theorem dX0_sitters_28 : decode cX0_sitters 28 = .ok (.iinc 3 1, 3) := by decide +kernel
theorem dX0_sitters_31 : decode cX0_sitters 31 = .ok (.goto (-27), 3) := by decide +kernel
theorem dX0_sitters_34 : decode cX0_sitters 34 = .ok (.iload_n 2, 1) := by decide +kernel
theorem dX0_sitters_35 : decode cX0_sitters 35 = .ok (.ireturn, 1) := by decide +kernel
theorem dX0_loadOf_0 : decode cX0_loadOf 0 = .ok (.bipush (-2), 2) := by decide +kernel
theorem dX0_loadOf_2 : decode cX0_loadOf 2 = .ok (.aload_n 0, 1) := by decide +kernel
theorem dX0_loadOf_3 : decode cX0_loadOf 3 = .ok (.getfield 24, 3) := by decide +kernel
theorem dX0_loadOf_6 : decode cX0_loadOf 6 = .ok (.iload_n 1, 1) := by decide +kernel
theorem dX0_loadOf_7 : decode cX0_loadOf 7 = .ok (.iaload, 1) := by decide +kernel
theorem dX0_loadOf_8 : decode cX0_loadOf 8 = .ok (.imul, 1) := by decide +kernel
theorem dX0_loadOf_9 : decode cX0_loadOf 9 = .ok (.istore_n 2, 1) := by decide +kernel
theorem dX0_loadOf_10 : decode cX0_loadOf 10 = .ok (.iconst 0, 1) := by decide +kernel
theorem dX0_loadOf_11 : decode cX0_loadOf 11 = .ok (.istore_n 3, 1) := by decide +kernel
theorem dX0_loadOf_12 : decode cX0_loadOf 12 = .ok (.iload_n 3, 1) := by decide +kernel
theorem dX0_loadOf_13 : decode cX0_loadOf 13 = .ok (.aload_n 0, 1) := by decide +kernel
theorem dX0_loadOf_14 : decode cX0_loadOf 14 = .ok (.getfield 31, 3) := by decide +kernel
theorem dX0_loadOf_17 : decode cX0_loadOf 17 = .ok (.if_icmp .ge 27, 3) := by decide +kernel
theorem dX0_loadOf_20 : decode cX0_loadOf 20 = .ok (.aload_n 0, 1) := by decide +kernel
theorem dX0_loadOf_21 : decode cX0_loadOf 21 = .ok (.getfield 21, 3) := by decide +kernel
theorem dX0_loadOf_24 : decode cX0_loadOf 24 = .ok (.iload_n 3, 1) := by decide +kernel
theorem dX0_loadOf_25 : decode cX0_loadOf 25 = .ok (.iaload, 1) := by decide +kernel
theorem dX0_loadOf_26 : decode cX0_loadOf 26 = .ok (.iload_n 1, 1) := by decide +kernel
theorem dX0_loadOf_27 : decode cX0_loadOf 27 = .ok (.if_icmp .ne 11, 3) := by decide +kernel
theorem dX0_loadOf_30 : decode cX0_loadOf 30 = .ok (.iload_n 2, 1) := by decide +kernel
theorem dX0_loadOf_31 : decode cX0_loadOf 31 = .ok (.aload_n 0, 1) := by decide +kernel
theorem dX0_loadOf_32 : decode cX0_loadOf 32 = .ok (.iload_n 3, 1) := by decide +kernel
theorem dX0_loadOf_33 : decode cX0_loadOf 33 = .ok (.invokevirtual 47, 3) := by decide +kernel
theorem dX0_loadOf_36 : decode cX0_loadOf 36 = .ok (.iadd, 1) := by decide +kernel
theorem dX0_loadOf_37 : decode cX0_loadOf 37 = .ok (.istore_n 2, 1) := by decide +kernel
theorem dX0_loadOf_38 : decode cX0_loadOf 38 = .ok (.iinc 3 1, 3) := by decide +kernel
theorem dX0_loadOf_41 : decode cX0_loadOf 41 = .ok (.goto (-29), 3) := by decide +kernel
theorem dX0_loadOf_44 : decode cX0_loadOf 44 = .ok (.iload_n 2, 1) := by decide +kernel
theorem dX0_loadOf_45 : decode cX0_loadOf 45 = .ok (.ireturn, 1) := by decide +kernel
theorem dX0_hangs_0 : decode cX0_hangs 0 = .ok (.aload_n 0, 1) := by decide +kernel
theorem dX0_hangs_1 : decode cX0_hangs 1 = .ok (.iconst 0, 1) := by decide +kernel
theorem dX0_hangs_2 : decode cX0_hangs 2 = .ok (.invokevirtual 51, 3) := by decide +kernel
theorem dX0_hangs_5 : decode cX0_hangs 5 = .ok (.ifCond .eq 15, 3) := by decide +kernel
theorem dX0_hangs_8 : decode cX0_hangs 8 = .ok (.aload_n 0, 1) := by decide +kernel
theorem dX0_hangs_9 : decode cX0_hangs 9 = .ok (.iconst 1, 1) := by decide +kernel
theorem dX0_hangs_10 : decode cX0_hangs 10 = .ok (.invokevirtual 51, 3) := by decide +kernel
theorem dX0_hangs_13 : decode cX0_hangs 13 = .ok (.ifCond .eq 7, 3) := by decide +kernel
theorem dX0_hangs_16 : decode cX0_hangs 16 = .ok (.iconst 1, 1) := by decide +kernel
theorem dX0_hangs_17 : decode cX0_hangs 17 = .ok (.goto 4, 3) := by decide +kernel
theorem dX0_hangs_20 : decode cX0_hangs 20 = .ok (.iconst 0, 1) := by decide +kernel
theorem dX0_hangs_21 : decode cX0_hangs 21 = .ok (.ireturn, 1) := by decide +kernel
theorem dX0_tiltNow_0 : decode cX0_tiltNow 0 = .ok (.aload_n 0, 1) := by decide +kernel
theorem dX0_tiltNow_1 : decode cX0_tiltNow 1 = .ok (.invokevirtual 54, 3) := by decide +kernel
theorem dX0_tiltNow_4 : decode cX0_tiltNow 4 = .ok (.ifCond .eq 17, 3) := by decide +kernel
theorem dX0_tiltNow_7 : decode cX0_tiltNow 7 = .ok (.aload_n 0, 1) := by decide +kernel
theorem dX0_tiltNow_8 : decode cX0_tiltNow 8 = .ok (.iconst 0, 1) := by decide +kernel
theorem dX0_tiltNow_9 : decode cX0_tiltNow 9 = .ok (.invokevirtual 58, 3) := by decide +kernel
theorem dX0_tiltNow_12 : decode cX0_tiltNow 12 = .ok (.aload_n 0, 1) := by decide +kernel
theorem dX0_tiltNow_13 : decode cX0_tiltNow 13 = .ok (.iconst 1, 1) := by decide +kernel
theorem dX0_tiltNow_14 : decode cX0_tiltNow 14 = .ok (.invokevirtual 58, 3) := by decide +kernel
theorem dX0_tiltNow_17 : decode cX0_tiltNow 17 = .ok (.iadd, 1) := by decide +kernel
theorem dX0_tiltNow_18 : decode cX0_tiltNow 18 = .ok (.goto 6, 3) := by decide +kernel
theorem dX0_tiltNow_21 : decode cX0_tiltNow 21 = .ok (.sipush 5000, 3) := by decide +kernel
theorem dX0_tiltNow_24 : decode cX0_tiltNow 24 = .ok (.ireturn, 1) := by decide +kernel
theorem dX0_isLevel_0 : decode cX0_isLevel 0 = .ok (.aload_n 0, 1) := by decide +kernel
theorem dX0_isLevel_1 : decode cX0_isLevel 1 = .ok (.invokevirtual 61, 3) := by decide +kernel
theorem dX0_isLevel_4 : decode cX0_isLevel 4 = .ok (.ifCond .ne 7, 3) := by decide +kernel
theorem dX0_isLevel_7 : decode cX0_isLevel 7 = .ok (.iconst 1, 1) := by decide +kernel
theorem dX0_isLevel_8 : decode cX0_isLevel 8 = .ok (.goto 4, 3) := by decide +kernel
theorem dX0_isLevel_11 : decode cX0_isLevel 11 = .ok (.iconst 0, 1) := by decide +kernel
theorem dX0_isLevel_12 : decode cX0_isLevel 12 = .ok (.ireturn, 1) := by decide +kernel
theorem dX0_goOn_0 : decode cX0_goOn 0 = .ok (.aload_n 0, 1) := by decide +kernel
theorem dX0_goOn_1 : decode cX0_goOn 1 = .ok (.invokevirtual 54, 3) := by decide +kernel
theorem dX0_goOn_4 : decode cX0_goOn 4 = .ok (.istore_n 2, 1) := by decide +kernel
theorem dX0_goOn_5 : decode cX0_goOn 5 = .ok (.iconst 0, 1) := by decide +kernel
theorem dX0_goOn_6 : decode cX0_goOn 6 = .ok (.istore_n 3, 1) := by decide +kernel
theorem dX0_goOn_7 : decode cX0_goOn 7 = .ok (.iload_n 3, 1) := by decide +kernel
theorem dX0_goOn_8 : decode cX0_goOn 8 = .ok (.iload_n 1, 1) := by decide +kernel
theorem dX0_goOn_9 : decode cX0_goOn 9 = .ok (.if_icmp .ge 27, 3) := by decide +kernel
theorem dX0_goOn_12 : decode cX0_goOn 12 = .ok (.iload_n 2, 1) := by decide +kernel
theorem dX0_goOn_13 : decode cX0_goOn 13 = .ok (.ifCond .eq 7, 3) := by decide +kernel
theorem dX0_goOn_16 : decode cX0_goOn 16 = .ok (.aload_n 0, 1) := by decide +kernel
theorem dX0_goOn_17 : decode cX0_goOn 17 = .ok (.invokevirtual 65, 3) := by decide +kernel
theorem dX0_goOn_20 : decode cX0_goOn 20 = .ok (.aload_n 0, 1) := by decide +kernel
theorem dX0_goOn_21 : decode cX0_goOn 21 = .ok (.dup, 1) := by decide +kernel
theorem dX0_goOn_22 : decode cX0_goOn 22 = .ok (.getfield 34, 3) := by decide +kernel
theorem dX0_goOn_25 : decode cX0_goOn 25 = .ok (.iconst 1, 1) := by decide +kernel
theorem dX0_goOn_26 : decode cX0_goOn 26 = .ok (.iadd, 1) := by decide +kernel
theorem dX0_goOn_27 : decode cX0_goOn 27 = .ok (.putfield 34, 3) := by decide +kernel
theorem dX0_goOn_30 : decode cX0_goOn 30 = .ok (.iinc 3 1, 3) := by decide +kernel
theorem dX0_goOn_33 : decode cX0_goOn 33 = .ok (.goto (-26), 3) := by decide +kernel
theorem dX0_goOn_36 : decode cX0_goOn 36 = .ok (.return_, 1) := by decide +kernel
theorem dX0_mixAll_0 : decode cX0_mixAll 0 = .ok (.iconst 0, 1) := by decide +kernel
theorem dX0_mixAll_1 : decode cX0_mixAll 1 = .ok (.istore_n 1, 1) := by decide +kernel
theorem dX0_mixAll_2 : decode cX0_mixAll 2 = .ok (.iload_n 1, 1) := by decide +kernel
theorem dX0_mixAll_3 : decode cX0_mixAll 3 = .ok (.aload_n 0, 1) := by decide +kernel
theorem dX0_mixAll_4 : decode cX0_mixAll 4 = .ok (.getfield 31, 3) := by decide +kernel
theorem dX0_mixAll_7 : decode cX0_mixAll 7 = .ok (.if_icmp .ge 61, 3) := by decide +kernel
theorem dX0_mixAll_10 : decode cX0_mixAll 10 = .ok (.aload_n 0, 1) := by decide +kernel
theorem dX0_mixAll_11 : decode cX0_mixAll 11 = .ok (.getfield 21, 3) := by decide +kernel
theorem dX0_mixAll_14 : decode cX0_mixAll 14 = .ok (.iload_n 1, 1) := by decide +kernel
theorem dX0_mixAll_15 : decode cX0_mixAll 15 = .ok (.iaload, 1) := by decide +kernel
theorem dX0_mixAll_16 : decode cX0_mixAll 16 = .ok (.iconst (-1), 1) := by decide +kernel
theorem dX0_mixAll_17 : decode cX0_mixAll 17 = .ok (.if_icmp .eq 45, 3) := by decide +kernel
theorem dX0_mixAll_20 : decode cX0_mixAll 20 = .ok (.aload_n 0, 1) := by decide +kernel
theorem dX0_mixAll_21 : decode cX0_mixAll 21 = .ok (.getfield 9, 3) := by decide +kernel
theorem dX0_mixAll_24 : decode cX0_mixAll 24 = .ok (.iload_n 1, 1) := by decide +kernel
theorem dX0_mixAll_25 : decode cX0_mixAll 25 = .ok (.iaload, 1) := by decide +kernel
theorem dX0_mixAll_26 : decode cX0_mixAll 26 = .ok (.aload_n 0, 1) := by decide +kernel
theorem dX0_mixAll_27 : decode cX0_mixAll 27 = .ok (.getfield 15, 3) := by decide +kernel
theorem dX0_mixAll_30 : decode cX0_mixAll 30 = .ok (.iload_n 1, 1) := by decide +kernel
theorem dX0_mixAll_31 : decode cX0_mixAll 31 = .ok (.iaload, 1) := by decide +kernel
theorem dX0_mixAll_32 : decode cX0_mixAll 32 = .ok (.aload_n 0, 1) := by decide +kernel
theorem dX0_mixAll_33 : decode cX0_mixAll 33 = .ok (.getfield 18, 3) := by decide +kernel
theorem dX0_mixAll_36 : decode cX0_mixAll 36 = .ok (.iload_n 1, 1) := by decide +kernel
theorem dX0_mixAll_37 : decode cX0_mixAll 37 = .ok (.iaload, 1) := by decide +kernel
theorem dX0_mixAll_38 : decode cX0_mixAll 38 = .ok (.invokestatic 68, 3) := by decide +kernel
theorem dX0_mixAll_41 : decode cX0_mixAll 41 = .ok (.istore_n 2, 1) := by decide +kernel
theorem dX0_mixAll_42 : decode cX0_mixAll 42 = .ok (.aload_n 0, 1) := by decide +kernel
theorem dX0_mixAll_43 : decode cX0_mixAll 43 = .ok (.getfield 15, 3) := by decide +kernel
theorem dX0_mixAll_46 : decode cX0_mixAll 46 = .ok (.iload_n 1, 1) := by decide +kernel
theorem dX0_mixAll_47 : decode cX0_mixAll 47 = .ok (.dup2, 1) := by decide +kernel
theorem dX0_mixAll_48 : decode cX0_mixAll 48 = .ok (.iaload, 1) := by decide +kernel
theorem dX0_mixAll_49 : decode cX0_mixAll 49 = .ok (.iload_n 2, 1) := by decide +kernel
theorem dX0_mixAll_50 : decode cX0_mixAll 50 = .ok (.isub, 1) := by decide +kernel
theorem dX0_mixAll_51 : decode cX0_mixAll 51 = .ok (.iastore, 1) := by decide +kernel
theorem dX0_mixAll_52 : decode cX0_mixAll 52 = .ok (.aload_n 0, 1) := by decide +kernel
theorem dX0_mixAll_53 : decode cX0_mixAll 53 = .ok (.getfield 18, 3) := by decide +kernel
theorem dX0_mixAll_56 : decode cX0_mixAll 56 = .ok (.iload_n 1, 1) := by decide +kernel
theorem dX0_mixAll_57 : decode cX0_mixAll 57 = .ok (.dup2, 1) := by decide +kernel
theorem dX0_mixAll_58 : decode cX0_mixAll 58 = .ok (.iaload, 1) := by decide +kernel
theorem dX0_mixAll_59 : decode cX0_mixAll 59 = .ok (.iload_n 2, 1) := by decide +kernel
theorem dX0_mixAll_60 : decode cX0_mixAll 60 = .ok (.iadd, 1) := by decide +kernel
theorem dX0_mixAll_61 : decode cX0_mixAll 61 = .ok (.iastore, 1) := by decide +kernel
theorem dX0_mixAll_62 : decode cX0_mixAll 62 = .ok (.iinc 1 1, 3) := by decide +kernel
theorem dX0_mixAll_65 : decode cX0_mixAll 65 = .ok (.goto (-63), 3) := by decide +kernel
theorem dX0_mixAll_68 : decode cX0_mixAll 68 = .ok (.return_, 1) := by decide +kernel
theorem dX1_init_0 : decode cX1_init 0 = .ok (.aload_n 0, 1) := by decide +kernel
theorem dX1_init_1 : decode cX1_init 1 = .ok (.invokespecial 3, 3) := by decide +kernel
theorem dX1_init_4 : decode cX1_init 4 = .ok (.aload_n 0, 1) := by decide +kernel
theorem dX1_init_5 : decode cX1_init 5 = .ok (.bipush 40, 2) := by decide +kernel
theorem dX1_init_7 : decode cX1_init 7 = .ok (.newarray .long, 2) := by decide +kernel
theorem dX1_init_9 : decode cX1_init 9 = .ok (.putfield 9, 3) := by decide +kernel
theorem dX1_init_12 : decode cX1_init 12 = .ok (.return_, 1) := by decide +kernel
theorem dX1_lay_0 : decode cX1_lay 0 = .ok (.aload_n 0, 1) := by decide +kernel
theorem dX1_lay_1 : decode cX1_lay 1 = .ok (.iload_n 1, 1) := by decide +kernel
theorem dX1_lay_2 : decode cX1_lay 2 = .ok (.putfield 15, 3) := by decide +kernel
theorem dX1_lay_5 : decode cX1_lay 5 = .ok (.aload_n 0, 1) := by decide +kernel
theorem dX1_lay_6 : decode cX1_lay 6 = .ok (.iload_n 2, 1) := by decide +kernel
theorem dX1_lay_7 : decode cX1_lay 7 = .ok (.putfield 19, 3) := by decide +kernel
theorem dX1_lay_10 : decode cX1_lay 10 = .ok (.iconst 0, 1) := by decide +kernel
theorem dX1_lay_11 : decode cX1_lay 11 = .ok (.istore_n 3, 1) := by decide +kernel
theorem dX1_lay_12 : decode cX1_lay 12 = .ok (.iload_n 3, 1) := by decide +kernel
theorem dX1_lay_13 : decode cX1_lay 13 = .ok (.aload_n 0, 1) := by decide +kernel
theorem dX1_lay_14 : decode cX1_lay 14 = .ok (.getfield 19, 3) := by decide +kernel
theorem dX1_lay_17 : decode cX1_lay 17 = .ok (.if_icmp .ge 22, 3) := by decide +kernel
theorem dX1_lay_20 : decode cX1_lay 20 = .ok (.iload_n 3, 1) := by decide +kernel
theorem dX1_lay_21 : decode cX1_lay 21 = .ok (.bipush 40, 2) := by decide +kernel
theorem dX1_lay_23 : decode cX1_lay 23 = .ok (.if_icmp .ge 16, 3) := by decide +kernel
theorem dX1_lay_26 : decode cX1_lay 26 = .ok (.aload_n 0, 1) := by decide +kernel
theorem dX1_lay_27 : decode cX1_lay 27 = .ok (.getfield 9, 3) := by decide +kernel
theorem dX1_lay_30 : decode cX1_lay 30 = .ok (.iload_n 3, 1) := by decide +kernel
theorem dX1_lay_31 : decode cX1_lay 31 = .ok (.lconst 0, 1) := by decide +kernel
theorem dX1_lay_32 : decode cX1_lay 32 = .ok (.lastore, 1) := by decide +kernel
theorem dX1_lay_33 : decode cX1_lay 33 = .ok (.iinc 3 1, 3) := by decide +kernel
theorem dX1_lay_36 : decode cX1_lay 36 = .ok (.goto (-24), 3) := by decide +kernel
theorem dX1_lay_39 : decode cX1_lay 39 = .ok (.aload_n 0, 1) := by decide +kernel
theorem dX1_lay_40 : decode cX1_lay 40 = .ok (.getfield 19, 3) := by decide +kernel
theorem dX1_lay_43 : decode cX1_lay 43 = .ok (.ireturn, 1) := by decide +kernel
theorem dX1_enter_0 : decode cX1_enter 0 = .ok (.aload_n 0, 1) := by decide +kernel
theorem dX1_enter_1 : decode cX1_enter 1 = .ok (.getfield 15, 3) := by decide +kernel
theorem dX1_enter_4 : decode cX1_enter 4 = .ok (.bipush 8, 2) := by decide +kernel
theorem dX1_enter_6 : decode cX1_enter 6 = .ok (.if_icmp .ne 16, 3) := by decide +kernel
theorem dX1_enter_9 : decode cX1_enter 9 = .ok (.aload_n 0, 1) := by decide +kernel
theorem dX1_enter_10 : decode cX1_enter 10 = .ok (.getfield 9, 3) := by decide +kernel
theorem dX1_enter_13 : decode cX1_enter 13 = .ok (.iload_n 1, 1) := by decide +kernel
theorem dX1_enter_14 : decode cX1_enter 14 = .ok (.lload_n 2, 1) := by decide +kernel
theorem dX1_enter_15 : decode cX1_enter 15 = .ok (.l2i, 1) := by decide +kernel
theorem dX1_enter_16 : decode cX1_enter 16 = .ok (.i2b, 1) := by decide +kernel
theorem dX1_enter_17 : decode cX1_enter 17 = .ok (.i2l, 1) := by decide +kernel
theorem dX1_enter_18 : decode cX1_enter 18 = .ok (.lastore, 1) := by decide +kernel
theorem dX1_enter_19 : decode cX1_enter 19 = .ok (.goto 32, 3) := by decide +kernel
theorem dX1_enter_22 : decode cX1_enter 22 = .ok (.aload_n 0, 1) := by decide +kernel
theorem dX1_enter_23 : decode cX1_enter 23 = .ok (.getfield 15, 3) := by decide +kernel
theorem dX1_enter_26 : decode cX1_enter 26 = .ok (.bipush 16, 2) := by decide +kernel
theorem dX1_enter_28 : decode cX1_enter 28 = .ok (.if_icmp .ne 16, 3) := by decide +kernel
theorem dX1_enter_31 : decode cX1_enter 31 = .ok (.aload_n 0, 1) := by decide +kernel
theorem dX1_enter_32 : decode cX1_enter 32 = .ok (.getfield 9, 3) := by decide +kernel
theorem dX1_enter_35 : decode cX1_enter 35 = .ok (.iload_n 1, 1) := by decide +kernel
theorem dX1_enter_36 : decode cX1_enter 36 = .ok (.lload_n 2, 1) := by decide +kernel
theorem dX1_enter_37 : decode cX1_enter 37 = .ok (.l2i, 1) := by decide +kernel
theorem dX1_enter_38 : decode cX1_enter 38 = .ok (.i2s, 1) := by decide +kernel
theorem dX1_enter_39 : decode cX1_enter 39 = .ok (.i2l, 1) := by decide +kernel
theorem dX1_enter_40 : decode cX1_enter 40 = .ok (.lastore, 1) := by decide +kernel
theorem dX1_enter_41 : decode cX1_enter 41 = .ok (.goto 10, 3) := by decide +kernel
theorem dX1_enter_44 : decode cX1_enter 44 = .ok (.aload_n 0, 1) := by decide +kernel
theorem dX1_enter_45 : decode cX1_enter 45 = .ok (.getfield 9, 3) := by decide +kernel
theorem dX1_enter_48 : decode cX1_enter 48 = .ok (.iload_n 1, 1) := by decide +kernel
theorem dX1_enter_49 : decode cX1_enter 49 = .ok (.lload_n 2, 1) := by decide +kernel
theorem dX1_enter_50 : decode cX1_enter 50 = .ok (.lastore, 1) := by decide +kernel
theorem dX1_enter_51 : decode cX1_enter 51 = .ok (.return_, 1) := by decide +kernel
theorem dX1_hasRun_0 : decode cX1_hasRun 0 = .ok (.iload_n 1, 1) := by decide +kernel
theorem dX1_hasRun_1 : decode cX1_hasRun 1 = .ok (.ifCond .lt 29, 3) := by decide +kernel
theorem dX1_hasRun_4 : decode cX1_hasRun 4 = .ok (.iload_n 2, 1) := by decide +kernel
theorem dX1_hasRun_5 : decode cX1_hasRun 5 = .ok (.ifCond .lt 25, 3) := by decide +kernel
theorem dX1_hasRun_8 : decode cX1_hasRun 8 = .ok (.iload_n 1, 1) := by decide +kernel
theorem dX1_hasRun_9 : decode cX1_hasRun 9 = .ok (.aload_n 0, 1) := by decide +kernel
theorem dX1_hasRun_10 : decode cX1_hasRun 10 = .ok (.getfield 19, 3) := by decide +kernel
theorem dX1_hasRun_13 : decode cX1_hasRun 13 = .ok (.if_icmp .gt 17, 3) := by decide +kernel
theorem dX1_hasRun_16 : decode cX1_hasRun 16 = .ok (.iload_n 2, 1) := by decide +kernel
theorem dX1_hasRun_17 : decode cX1_hasRun 17 = .ok (.aload_n 0, 1) := by decide +kernel
theorem dX1_hasRun_18 : decode cX1_hasRun 18 = .ok (.getfield 19, 3) := by decide +kernel
theorem dX1_hasRun_21 : decode cX1_hasRun 21 = .ok (.iload_n 1, 1) := by decide +kernel
theorem dX1_hasRun_22 : decode cX1_hasRun 22 = .ok (.isub, 1) := by decide +kernel
theorem dX1_hasRun_23 : decode cX1_hasRun 23 = .ok (.if_icmp .gt 7, 3) := by decide +kernel
theorem dX1_hasRun_26 : decode cX1_hasRun 26 = .ok (.iconst 1, 1) := by decide +kernel
theorem dX1_hasRun_27 : decode cX1_hasRun 27 = .ok (.goto 4, 3) := by decide +kernel
theorem dX1_hasRun_30 : decode cX1_hasRun 30 = .ok (.iconst 0, 1) := by decide +kernel
theorem dX1_hasRun_31 : decode cX1_hasRun 31 = .ok (.ireturn, 1) := by decide +kernel
theorem dX2_init_0 : decode cX2_init 0 = .ok (.aload_n 0, 1) := by decide +kernel
theorem dX2_init_1 : decode cX2_init 1 = .ok (.invokespecial 3, 3) := by decide +kernel
theorem dX2_init_4 : decode cX2_init 4 = .ok (.aload_n 0, 1) := by decide +kernel
theorem dX2_init_5 : decode cX2_init 5 = .ok (.bipush 120, 2) := by decide +kernel
theorem dX2_init_7 : decode cX2_init 7 = .ok (.newarray .int, 2) := by decide +kernel
theorem dX2_init_9 : decode cX2_init 9 = .ok (.putfield 9, 3) := by decide +kernel
theorem dX2_init_12 : decode cX2_init 12 = .ok (.return_, 1) := by decide +kernel
theorem dX2_append_0 : decode cX2_append 0 = .ok (.aload_n 0, 1) := by decide +kernel
theorem dX2_append_1 : decode cX2_append 1 = .ok (.getfield 15, 3) := by decide +kernel
theorem dX2_append_4 : decode cX2_append 4 = .ok (.bipush 120, 2) := by decide +kernel
theorem dX2_append_6 : decode cX2_append 6 = .ok (.if_icmp .ge 23, 3) := by decide +kernel
theorem dX2_append_9 : decode cX2_append 9 = .ok (.aload_n 0, 1) := by decide +kernel
theorem dX2_append_10 : decode cX2_append 10 = .ok (.getfield 9, 3) := by decide +kernel
theorem dX2_append_13 : decode cX2_append 13 = .ok (.aload_n 0, 1) := by decide +kernel
theorem dX2_append_14 : decode cX2_append 14 = .ok (.getfield 15, 3) := by decide +kernel
theorem dX2_append_17 : decode cX2_append 17 = .ok (.iload_n 1, 1) := by decide +kernel
theorem dX2_append_18 : decode cX2_append 18 = .ok (.iastore, 1) := by decide +kernel
theorem dX2_append_19 : decode cX2_append 19 = .ok (.aload_n 0, 1) := by decide +kernel
theorem dX2_append_20 : decode cX2_append 20 = .ok (.dup, 1) := by decide +kernel
theorem dX2_append_21 : decode cX2_append 21 = .ok (.getfield 15, 3) := by decide +kernel
theorem dX2_append_24 : decode cX2_append 24 = .ok (.iconst 1, 1) := by decide +kernel
theorem dX2_append_25 : decode cX2_append 25 = .ok (.iadd, 1) := by decide +kernel
theorem dX2_append_26 : decode cX2_append 26 = .ok (.putfield 15, 3) := by decide +kernel
theorem dX2_append_29 : decode cX2_append 29 = .ok (.return_, 1) := by decide +kernel
theorem dX2_tellAll_0 : decode cX2_tellAll 0 = .ok (.aload_n 0, 1) := by decide +kernel
theorem dX2_tellAll_1 : decode cX2_tellAll 1 = .ok (.iconst 0, 1) := by decide +kernel
theorem dX2_tellAll_2 : decode cX2_tellAll 2 = .ok (.putfield 19, 3) := by decide +kernel
theorem dX2_tellAll_5 : decode cX2_tellAll 5 = .ok (.aload_n 0, 1) := by decide +kernel
theorem dX2_tellAll_6 : decode cX2_tellAll 6 = .ok (.invokevirtual 22, 3) := by decide +kernel
theorem dX2_tellAll_9 : decode cX2_tellAll 9 = .ok (.iconst 1, 1) := by decide +kernel
theorem dX2_tellAll_10 : decode cX2_tellAll 10 = .ok (.istore_n 2, 1) := by decide +kernel
theorem dX2_tellAll_11 : decode cX2_tellAll 11 = .ok (.iload_n 2, 1) := by decide +kernel
theorem dX2_tellAll_12 : decode cX2_tellAll 12 = .ok (.bipush 120, 2) := by decide +kernel
theorem dX2_tellAll_14 : decode cX2_tellAll 14 = .ok (.if_icmp .gt 52, 3) := by decide +kernel
theorem dX2_tellAll_17 : decode cX2_tellAll 17 = .ok (.aload_n 0, 1) := by decide +kernel
theorem dX2_tellAll_18 : decode cX2_tellAll 18 = .ok (.aload_n 1, 1) := by decide +kernel
theorem dX2_tellAll_19 : decode cX2_tellAll 19 = .ok (.invokevirtual 25, 3) := by decide +kernel
theorem dX2_tellAll_22 : decode cX2_tellAll 22 = .ok (.ifCond .ne 10, 3) := by decide +kernel
theorem dX2_tellAll_25 : decode cX2_tellAll 25 = .ok (.iconst (-1), 1) := by decide +kernel
theorem dX2_tellAll_26 : decode cX2_tellAll 26 = .ok (.aload_n 0, 1) := by decide +kernel
theorem dX2_tellAll_27 : decode cX2_tellAll 27 = .ok (.getfield 29, 3) := by decide +kernel
theorem dX2_tellAll_30 : decode cX2_tellAll 30 = .ok (.isub, 1) := by decide +kernel
theorem dX2_tellAll_31 : decode cX2_tellAll 31 = .ok (.ireturn, 1) := by decide +kernel
theorem dX2_tellAll_32 : decode cX2_tellAll 32 = .ok (.aload_n 0, 1) := by decide +kernel
theorem dX2_tellAll_33 : decode cX2_tellAll 33 = .ok (.getfield 32, 3) := by decide +kernel
theorem dX2_tellAll_36 : decode cX2_tellAll 36 = .ok (.ifCond .ne 5, 3) := by decide +kernel
theorem dX2_tellAll_39 : decode cX2_tellAll 39 = .ok (.iload_n 2, 1) := by decide +kernel
theorem dX2_tellAll_40 : decode cX2_tellAll 40 = .ok (.ireturn, 1) := by decide +kernel
theorem dX2_tellAll_41 : decode cX2_tellAll 41 = .ok (.aload_n 0, 1) := by decide +kernel
theorem dX2_tellAll_42 : decode cX2_tellAll 42 = .ok (.getfield 32, 3) := by decide +kernel
theorem dX2_tellAll_45 : decode cX2_tellAll 45 = .ok (.iconst 3, 1) := by decide +kernel
theorem dX2_tellAll_46 : decode cX2_tellAll 46 = .ok (.if_icmp .eq 10, 3) := by decide +kernel
theorem dX2_tellAll_49 : decode cX2_tellAll 49 = .ok (.iconst (-1), 1) := by decide +kernel
theorem dX2_tellAll_50 : decode cX2_tellAll 50 = .ok (.aload_n 0, 1) := by decide +kernel
theorem dX2_tellAll_51 : decode cX2_tellAll 51 = .ok (.getfield 29, 3) := by decide +kernel
theorem dX2_tellAll_54 : decode cX2_tellAll 54 = .ok (.isub, 1) := by decide +kernel
theorem dX2_tellAll_55 : decode cX2_tellAll 55 = .ok (.ireturn, 1) := by decide +kernel
theorem dX2_tellAll_56 : decode cX2_tellAll 56 = .ok (.aload_n 0, 1) := by decide +kernel
theorem dX2_tellAll_57 : decode cX2_tellAll 57 = .ok (.invokevirtual 22, 3) := by decide +kernel
theorem dX2_tellAll_60 : decode cX2_tellAll 60 = .ok (.iinc 2 1, 3) := by decide +kernel
theorem dX2_tellAll_63 : decode cX2_tellAll 63 = .ok (.goto (-52), 3) := by decide +kernel
theorem dX2_tellAll_66 : decode cX2_tellAll 66 = .ok (.iconst (-1), 1) := by decide +kernel
theorem dX2_tellAll_67 : decode cX2_tellAll 67 = .ok (.aload_n 0, 1) := by decide +kernel
theorem dX2_tellAll_68 : decode cX2_tellAll 68 = .ok (.getfield 29, 3) := by decide +kernel
theorem dX2_tellAll_71 : decode cX2_tellAll 71 = .ok (.isub, 1) := by decide +kernel
theorem dX2_tellAll_72 : decode cX2_tellAll 72 = .ok (.ireturn, 1) := by decide +kernel
theorem dX2_tellItem_0 : decode cX2_tellItem 0 = .ok (.aload_n 0, 1) := by decide +kernel
theorem dX2_tellItem_1 : decode cX2_tellItem 1 = .ok (.ldc 35, 2) := by decide +kernel
theorem dX2_tellItem_3 : decode cX2_tellItem 3 = .ok (.invokevirtual 37, 3) := by decide +kernel
theorem dX2_tellItem_6 : decode cX2_tellItem 6 = .ok (.ifCond .eq 32, 3) := by decide +kernel
theorem dX2_tellItem_9 : decode cX2_tellItem 9 = .ok (.aload_n 0, 1) := by decide +kernel
theorem dX2_tellItem_10 : decode cX2_tellItem 10 = .ok (.invokevirtual 22, 3) := by decide +kernel
theorem dX2_tellItem_13 : decode cX2_tellItem 13 = .ok (.aload_n 0, 1) := by decide +kernel
theorem dX2_tellItem_14 : decode cX2_tellItem 14 = .ok (.bipush 20, 2) := by decide +kernel
theorem dX2_tellItem_16 : decode cX2_tellItem 16 = .ok (.invokevirtual 41, 3) := by decide +kernel
theorem dX2_tellItem_19 : decode cX2_tellItem 19 = .ok (.ifCond .ne 5, 3) := by decide +kernel
theorem dX2_tellItem_22 : decode cX2_tellItem 22 = .ok (.iconst 0, 1) := by decide +kernel
theorem dX2_tellItem_23 : decode cX2_tellItem 23 = .ok (.ireturn, 1) := by decide +kernel
theorem dX2_tellItem_24 : decode cX2_tellItem 24 = .ok (.aload_n 1, 1) := by decide +kernel
theorem dX2_tellItem_25 : decode cX2_tellItem 25 = .ok (.aload_n 0, 1) := by decide +kernel
theorem dX2_tellItem_26 : decode cX2_tellItem 26 = .ok (.getfield 45, 3) := by decide +kernel
theorem dX2_tellItem_29 : decode cX2_tellItem 29 = .ok (.putfield 48, 3) := by decide +kernel
theorem dX2_tellItem_32 : decode cX2_tellItem 32 = .ok (.aload_n 0, 1) := by decide +kernel
theorem dX2_tellItem_33 : decode cX2_tellItem 33 = .ok (.invokevirtual 22, 3) := by decide +kernel
theorem dX2_tellItem_36 : decode cX2_tellItem 36 = .ok (.iconst 1, 1) := by decide +kernel
theorem dX2_tellItem_37 : decode cX2_tellItem 37 = .ok (.ireturn, 1) := by decide +kernel
theorem dX2_tellItem_38 : decode cX2_tellItem 38 = .ok (.aload_n 0, 1) := by decide +kernel
theorem dX2_tellItem_39 : decode cX2_tellItem 39 = .ok (.ldc 53, 2) := by decide +kernel
theorem dX2_tellItem_41 : decode cX2_tellItem 41 = .ok (.invokevirtual 37, 3) := by decide +kernel
theorem dX2_tellItem_44 : decode cX2_tellItem 44 = .ok (.ifCond .eq 13, 3) := by decide +kernel
theorem dX2_tellItem_47 : decode cX2_tellItem 47 = .ok (.aload_n 0, 1) := by decide +kernel
theorem dX2_tellItem_48 : decode cX2_tellItem 48 = .ok (.invokevirtual 22, 3) := by decide +kernel
theorem dX2_tellItem_51 : decode cX2_tellItem 51 = .ok (.aload_n 0, 1) := by decide +kernel
theorem dX2_tellItem_52 : decode cX2_tellItem 52 = .ok (.aload_n 1, 1) := by decide +kernel
theorem dX2_tellItem_53 : decode cX2_tellItem 53 = .ok (.invokevirtual 55, 3) := by decide +kernel
theorem dX2_tellItem_56 : decode cX2_tellItem 56 = .ok (.ireturn, 1) := by decide +kernel
theorem dX2_tellItem_57 : decode cX2_tellItem 57 = .ok (.aload_n 0, 1) := by decide +kernel
theorem dX2_tellItem_58 : decode cX2_tellItem 58 = .ok (.invokevirtual 58, 3) := by decide +kernel
theorem dX2_tellItem_61 : decode cX2_tellItem 61 = .ok (.istore_n 2, 1) := by decide +kernel
theorem dX2_tellItem_62 : decode cX2_tellItem 62 = .ok (.iload_n 2, 1) := by decide +kernel
theorem dX2_tellItem_63 : decode cX2_tellItem 63 = .ok (.ifCond .lt 12, 3) := by decide +kernel
theorem dX2_tellItem_66 : decode cX2_tellItem 66 = .ok (.aload_n 1, 1) := by decide +kernel
theorem dX2_tellItem_67 : decode cX2_tellItem 67 = .ok (.getfield 62, 3) := by decide +kernel
theorem dX2_tellItem_70 : decode cX2_tellItem 70 = .ok (.bipush 8, 2) := by decide +kernel
theorem dX2_tellItem_72 : decode cX2_tellItem 72 = .ok (.if_icmp .lt 5, 3) := by decide +kernel
theorem dX2_tellItem_75 : decode cX2_tellItem 75 = .ok (.iconst 0, 1) := by decide +kernel
theorem dX2_tellItem_76 : decode cX2_tellItem 76 = .ok (.ireturn, 1) := by decide +kernel
theorem dX2_tellItem_77 : decode cX2_tellItem 77 = .ok (.aload_n 0, 1) := by decide +kernel
theorem dX2_tellItem_78 : decode cX2_tellItem 78 = .ok (.invokevirtual 22, 3) := by decide +kernel
theorem dX2_tellItem_81 : decode cX2_tellItem 81 = .ok (.aload_n 1, 1) := by decide +kernel
theorem dX2_tellItem_82 : decode cX2_tellItem 82 = .ok (.iload_n 2, 1) := by decide +kernel
theorem dX2_tellItem_83 : decode cX2_tellItem 83 = .ok (.invokevirtual 65, 3) := by decide +kernel
theorem dX2_tellItem_86 : decode cX2_tellItem 86 = .ok (.istore_n 3, 1) := by decide +kernel
theorem dX2_tellItem_87 : decode cX2_tellItem 87 = .ok (.aload_n 0, 1) := by decide +kernel
theorem dX2_tellItem_88 : decode cX2_tellItem 88 = .ok (.ldc 69, 2) := by decide +kernel
theorem dX2_tellItem_90 : decode cX2_tellItem 90 = .ok (.bipush 99, 2) := by decide +kernel
theorem dX2_tellItem_92 : decode cX2_tellItem 92 = .ok (.aload_n 1, 1) := by decide +kernel
theorem dX2_tellItem_93 : decode cX2_tellItem 93 = .ok (.getfield 71, 3) := by decide +kernel
theorem dX2_tellItem_96 : decode cX2_tellItem 96 = .ok (.iload_n 3, 1) := by decide +kernel
theorem dX2_tellItem_97 : decode cX2_tellItem 97 = .ok (.invokevirtual 74, 3) := by decide +kernel
theorem dX2_tellItem_100 : decode cX2_tellItem 100 = .ok (.ifCond .eq 38, 3) := by decide +kernel
theorem dX2_tellItem_103 : decode cX2_tellItem 103 = .ok (.aload_n 0, 1) := by decide +kernel
theorem dX2_tellItem_104 : decode cX2_tellItem 104 = .ok (.ldc 78, 2) := by decide +kernel
theorem dX2_tellItem_106 : decode cX2_tellItem 106 = .ok (.bipush 99, 2) := by decide +kernel
theorem dX2_tellItem_108 : decode cX2_tellItem 108 = .ok (.aload_n 1, 1) := by decide +kernel
theorem dX2_tellItem_109 : decode cX2_tellItem 109 = .ok (.getfield 80, 3) := by decide +kernel
theorem dX2_tellItem_112 : decode cX2_tellItem 112 = .ok (.iload_n 3, 1) := by decide +kernel
theorem dX2_tellItem_113 : decode cX2_tellItem 113 = .ok (.invokevirtual 74, 3) := by decide +kernel
theorem dX2_tellItem_116 : decode cX2_tellItem 116 = .ok (.ifCond .eq 22, 3) := by decide +kernel
theorem dX2_tellItem_119 : decode cX2_tellItem 119 = .ok (.aload_n 0, 1) := by decide +kernel
theorem dX2_tellItem_120 : decode cX2_tellItem 120 = .ok (.ldc 83, 2) := by decide +kernel
theorem dX2_tellItem_122 : decode cX2_tellItem 122 = .ok (.iconst 1, 1) := by decide +kernel
theorem dX2_tellItem_123 : decode cX2_tellItem 123 = .ok (.aload_n 1, 1) := by decide +kernel
theorem dX2_tellItem_124 : decode cX2_tellItem 124 = .ok (.getfield 85, 3) := by decide +kernel
theorem dX2_tellItem_127 : decode cX2_tellItem 127 = .ok (.iload_n 3, 1) := by decide +kernel
theorem dX2_tellItem_128 : decode cX2_tellItem 128 = .ok (.invokevirtual 74, 3) := by decide +kernel
theorem dX2_tellItem_131 : decode cX2_tellItem 131 = .ok (.ifCond .eq 7, 3) := by decide +kernel
theorem dX2_tellItem_134 : decode cX2_tellItem 134 = .ok (.iconst 1, 1) := by decide +kernel
theorem dX2_tellItem_135 : decode cX2_tellItem 135 = .ok (.goto 4, 3) := by decide +kernel
theorem dX2_tellItem_138 : decode cX2_tellItem 138 = .ok (.iconst 0, 1) := by decide +kernel
theorem dX2_tellItem_139 : decode cX2_tellItem 139 = .ok (.ireturn, 1) := by decide +kernel
theorem dX2_tellNews_0 : decode cX2_tellNews 0 = .ok (.aload_n 0, 1) := by decide +kernel
theorem dX2_tellNews_1 : decode cX2_tellNews 1 = .ok (.aload_n 1, 1) := by decide +kernel
theorem dX2_tellNews_2 : decode cX2_tellNews 2 = .ok (.getfield 62, 3) := by decide +kernel
theorem dX2_tellNews_5 : decode cX2_tellNews 5 = .ok (.iconst 1, 1) := by decide +kernel
theorem dX2_tellNews_6 : decode cX2_tellNews 6 = .ok (.isub, 1) := by decide +kernel
theorem dX2_tellNews_7 : decode cX2_tellNews 7 = .ok (.invokevirtual 41, 3) := by decide +kernel
theorem dX2_tellNews_10 : decode cX2_tellNews 10 = .ok (.ifCond .ne 5, 3) := by decide +kernel
theorem dX2_tellNews_13 : decode cX2_tellNews 13 = .ok (.iconst 0, 1) := by decide +kernel
theorem dX2_tellNews_14 : decode cX2_tellNews 14 = .ok (.ireturn, 1) := by decide +kernel
theorem dX2_tellNews_15 : decode cX2_tellNews 15 = .ok (.aload_n 0, 1) := by decide +kernel
theorem dX2_tellNews_16 : decode cX2_tellNews 16 = .ok (.getfield 45, 3) := by decide +kernel
theorem dX2_tellNews_19 : decode cX2_tellNews 19 = .ok (.istore_n 2, 1) := by decide +kernel
theorem dX2_tellNews_20 : decode cX2_tellNews 20 = .ok (.aload_n 0, 1) := by decide +kernel
theorem dX2_tellNews_21 : decode cX2_tellNews 21 = .ok (.invokevirtual 22, 3) := by decide +kernel
theorem dX2_tellNews_24 : decode cX2_tellNews 24 = .ok (.aload_n 0, 1) := by decide +kernel
theorem dX2_tellNews_25 : decode cX2_tellNews 25 = .ok (.bipush 99, 2) := by decide +kernel
theorem dX2_tellNews_27 : decode cX2_tellNews 27 = .ok (.invokevirtual 41, 3) := by decide +kernel
theorem dX2_tellNews_30 : decode cX2_tellNews 30 = .ok (.ifCond .ne 5, 3) := by decide +kernel
theorem dX2_tellNews_33 : decode cX2_tellNews 33 = .ok (.iconst 0, 1) := by decide +kernel
theorem dX2_tellNews_34 : decode cX2_tellNews 34 = .ok (.ireturn, 1) := by decide +kernel
theorem dX2_tellNews_35 : decode cX2_tellNews 35 = .ok (.aload_n 0, 1) := by decide +kernel
theorem dX2_tellNews_36 : decode cX2_tellNews 36 = .ok (.getfield 45, 3) := by decide +kernel
theorem dX2_tellNews_39 : decode cX2_tellNews 39 = .ok (.istore_n 3, 1) := by decide +kernel
theorem dX2_tellNews_40 : decode cX2_tellNews 40 = .ok (.aload_n 0, 1) := by decide +kernel
theorem dX2_tellNews_41 : decode cX2_tellNews 41 = .ok (.invokevirtual 22, 3) := by decide +kernel
theorem dX2_tellNews_44 : decode cX2_tellNews 44 = .ok (.aload_n 0, 1) := by decide +kernel
theorem dX2_tellNews_45 : decode cX2_tellNews 45 = .ok (.bipush 99, 2) := by decide +kernel
theorem dX2_tellNews_47 : decode cX2_tellNews 47 = .ok (.invokevirtual 41, 3) := by decide +kernel
theorem dX2_tellNews_50 : decode cX2_tellNews 50 = .ok (.ifCond .ne 5, 3) := by decide +kernel
theorem dX2_tellNews_53 : decode cX2_tellNews 53 = .ok (.iconst 0, 1) := by decide +kernel
theorem dX2_tellNews_54 : decode cX2_tellNews 54 = .ok (.ireturn, 1) := by decide +kernel
theorem dX2_tellNews_55 : decode cX2_tellNews 55 = .ok (.aload_n 1, 1) := by decide +kernel
theorem dX2_tellNews_56 : decode cX2_tellNews 56 = .ok (.iload_n 2, 1) := by decide +kernel
theorem dX2_tellNews_57 : decode cX2_tellNews 57 = .ok (.iload_n 3, 1) := by decide +kernel
theorem dX2_tellNews_58 : decode cX2_tellNews 58 = .ok (.aload_n 0, 1) := by decide +kernel
theorem dX2_tellNews_59 : decode cX2_tellNews 59 = .ok (.getfield 45, 3) := by decide +kernel
theorem dX2_tellNews_62 : decode cX2_tellNews 62 = .ok (.invokevirtual 88, 3) := by decide +kernel
theorem dX2_tellNews_65 : decode cX2_tellNews 65 = .ok (.aload_n 0, 1) := by decide +kernel
theorem dX2_tellNews_66 : decode cX2_tellNews 66 = .ok (.invokevirtual 22, 3) := by decide +kernel
theorem dX2_tellNews_69 : decode cX2_tellNews 69 = .ok (.iconst 1, 1) := by decide +kernel
theorem dX2_tellNews_70 : decode cX2_tellNews 70 = .ok (.ireturn, 1) := by decide +kernel
theorem dX2_tellPart_0 : decode cX2_tellPart 0 = .ok (.aload_n 0, 1) := by decide +kernel
theorem dX2_tellPart_1 : decode cX2_tellPart 1 = .ok (.aload_n 1, 1) := by decide +kernel
theorem dX2_tellPart_2 : decode cX2_tellPart 2 = .ok (.invokevirtual 37, 3) := by decide +kernel
theorem dX2_tellPart_5 : decode cX2_tellPart 5 = .ok (.ifCond .ne 5, 3) := by decide +kernel
theorem dX2_tellPart_8 : decode cX2_tellPart 8 = .ok (.iconst 1, 1) := by decide +kernel
theorem dX2_tellPart_9 : decode cX2_tellPart 9 = .ok (.ireturn, 1) := by decide +kernel
theorem dX2_tellPart_10 : decode cX2_tellPart 10 = .ok (.aload_n 0, 1) := by decide +kernel
theorem dX2_tellPart_11 : decode cX2_tellPart 11 = .ok (.invokevirtual 22, 3) := by decide +kernel
theorem dX2_tellPart_14 : decode cX2_tellPart 14 = .ok (.aload_n 0, 1) := by decide +kernel
theorem dX2_tellPart_15 : decode cX2_tellPart 15 = .ok (.iload_n 2, 1) := by decide +kernel
theorem dX2_tellPart_16 : decode cX2_tellPart 16 = .ok (.invokevirtual 41, 3) := by decide +kernel
theorem dX2_tellPart_19 : decode cX2_tellPart 19 = .ok (.ifCond .eq 15, 3) := by decide +kernel
theorem dX2_tellPart_22 : decode cX2_tellPart 22 = .ok (.iload 4, 2) := by decide +kernel
theorem dX2_tellPart_24 : decode cX2_tellPart 24 = .ok (.ifCond .lt 10, 3) := by decide +kernel
theorem dX2_tellPart_27 : decode cX2_tellPart 27 = .ok (.iload 4, 2) := by decide +kernel
theorem dX2_tellPart_29 : decode cX2_tellPart 29 = .ok (.aload_n 3, 1) := by decide +kernel
theorem dX2_tellPart_30 : decode cX2_tellPart 30 = .ok (.arraylength, 1) := by decide +kernel
theorem dX2_tellPart_31 : decode cX2_tellPart 31 = .ok (.if_icmp .lt 5, 3) := by decide +kernel
theorem dX2_tellPart_34 : decode cX2_tellPart 34 = .ok (.iconst 0, 1) := by decide +kernel
theorem dX2_tellPart_35 : decode cX2_tellPart 35 = .ok (.ireturn, 1) := by decide +kernel
theorem dX2_tellPart_36 : decode cX2_tellPart 36 = .ok (.aload_n 3, 1) := by decide +kernel
theorem dX2_tellPart_37 : decode cX2_tellPart 37 = .ok (.iload 4, 2) := by decide +kernel
theorem dX2_tellPart_39 : decode cX2_tellPart 39 = .ok (.aload_n 0, 1) := by decide +kernel
theorem dX2_tellPart_40 : decode cX2_tellPart 40 = .ok (.getfield 45, 3) := by decide +kernel
theorem dX2_tellPart_43 : decode cX2_tellPart 43 = .ok (.iastore, 1) := by decide +kernel
theorem dX2_tellPart_44 : decode cX2_tellPart 44 = .ok (.aload_n 0, 1) := by decide +kernel
theorem dX2_tellPart_45 : decode cX2_tellPart 45 = .ok (.invokevirtual 22, 3) := by decide +kernel
theorem dX2_tellPart_48 : decode cX2_tellPart 48 = .ok (.iconst 1, 1) := by decide +kernel
theorem dX2_tellPart_49 : decode cX2_tellPart 49 = .ok (.ireturn, 1) := by decide +kernel
theorem dX2_kindNamed_0 : decode cX2_kindNamed 0 = .ok (.iconst 0, 1) := by decide +kernel
theorem dX2_kindNamed_1 : decode cX2_kindNamed 1 = .ok (.istore_n 1, 1) := by decide +kernel
theorem dX2_kindNamed_2 : decode cX2_kindNamed 2 = .ok (.iload_n 1, 1) := by decide +kernel
theorem dX2_kindNamed_3 : decode cX2_kindNamed 3 = .ok (.bipush 6, 2) := by decide +kernel
theorem dX2_kindNamed_5 : decode cX2_kindNamed 5 = .ok (.if_icmp .ge 22, 3) := by decide +kernel
theorem dX2_kindNamed_8 : decode cX2_kindNamed 8 = .ok (.aload_n 0, 1) := by decide +kernel
theorem dX2_kindNamed_9 : decode cX2_kindNamed 9 = .ok (.iload_n 1, 1) := by decide +kernel
theorem dX2_kindNamed_10 : decode cX2_kindNamed 10 = .ok (.invokestatic 92, 3) := by decide +kernel
theorem dX2_kindNamed_13 : decode cX2_kindNamed 13 = .ok (.invokevirtual 37, 3) := by decide +kernel
theorem dX2_kindNamed_16 : decode cX2_kindNamed 16 = .ok (.ifCond .eq 5, 3) := by decide +kernel
theorem dX2_kindNamed_19 : decode cX2_kindNamed 19 = .ok (.iload_n 1, 1) := by decide +kernel
theorem dX2_kindNamed_20 : decode cX2_kindNamed 20 = .ok (.ireturn, 1) := by decide +kernel
theorem dX2_kindNamed_21 : decode cX2_kindNamed 21 = .ok (.iinc 1 1, 3) := by decide +kernel
theorem dX2_kindNamed_24 : decode cX2_kindNamed 24 = .ok (.goto (-22), 3) := by decide +kernel
theorem dX2_kindNamed_27 : decode cX2_kindNamed 27 = .ok (.iconst (-1), 1) := by decide +kernel
theorem dX2_kindNamed_28 : decode cX2_kindNamed 28 = .ok (.ireturn, 1) := by decide +kernel
theorem dX2_nameOf_0 : decode cX2_nameOf 0 = .ok (.iload_n 0, 1) := by decide +kernel
theorem dX2_nameOf_1 : decode cX2_nameOf 1 = .ok (.tableswitch 50 1 5 #[35, 38, 41, 44, 47], 35) := by decide +kernel
theorem dX2_nameOf_36 : decode cX2_nameOf 36 = .ok (.ldc 96, 2) := by decide +kernel
theorem dX2_nameOf_38 : decode cX2_nameOf 38 = .ok (.areturn, 1) := by decide +kernel
theorem dX2_nameOf_39 : decode cX2_nameOf 39 = .ok (.ldc 98, 2) := by decide +kernel
theorem dX2_nameOf_41 : decode cX2_nameOf 41 = .ok (.areturn, 1) := by decide +kernel
theorem dX2_nameOf_42 : decode cX2_nameOf 42 = .ok (.ldc 100, 2) := by decide +kernel
theorem dX2_nameOf_44 : decode cX2_nameOf 44 = .ok (.areturn, 1) := by decide +kernel
theorem dX2_nameOf_45 : decode cX2_nameOf 45 = .ok (.ldc 102, 2) := by decide +kernel
theorem dX2_nameOf_47 : decode cX2_nameOf 47 = .ok (.areturn, 1) := by decide +kernel
theorem dX2_nameOf_48 : decode cX2_nameOf 48 = .ok (.ldc 104, 2) := by decide +kernel
theorem dX2_nameOf_50 : decode cX2_nameOf 50 = .ok (.areturn, 1) := by decide +kernel
theorem dX2_nameOf_51 : decode cX2_nameOf 51 = .ok (.ldc 106, 2) := by decide +kernel
theorem dX2_nameOf_53 : decode cX2_nameOf 53 = .ok (.areturn, 1) := by decide +kernel
theorem dX2_isNumber_0 : decode cX2_isNumber 0 = .ok (.aload_n 0, 1) := by decide +kernel
theorem dX2_isNumber_1 : decode cX2_isNumber 1 = .ok (.getfield 32, 3) := by decide +kernel
theorem dX2_isNumber_4 : decode cX2_isNumber 4 = .ok (.iconst 2, 1) := by decide +kernel
theorem dX2_isNumber_5 : decode cX2_isNumber 5 = .ok (.if_icmp .ne 15, 3) := by decide +kernel
theorem dX2_isNumber_8 : decode cX2_isNumber 8 = .ok (.aload_n 0, 1) := by decide +kernel
theorem dX2_isNumber_9 : decode cX2_isNumber 9 = .ok (.getfield 45, 3) := by decide +kernel
theorem dX2_isNumber_12 : decode cX2_isNumber 12 = .ok (.iload_n 1, 1) := by decide +kernel
theorem dX2_isNumber_13 : decode cX2_isNumber 13 = .ok (.if_icmp .gt 7, 3) := by decide +kernel
theorem dX2_isNumber_16 : decode cX2_isNumber 16 = .ok (.iconst 1, 1) := by decide +kernel
theorem dX2_isNumber_17 : decode cX2_isNumber 17 = .ok (.goto 4, 3) := by decide +kernel
theorem dX2_isNumber_20 : decode cX2_isNumber 20 = .ok (.iconst 0, 1) := by decide +kernel
theorem dX2_isNumber_21 : decode cX2_isNumber 21 = .ok (.ireturn, 1) := by decide +kernel
theorem dX2_isWord_0 : decode cX2_isWord 0 = .ok (.aload_n 0, 1) := by decide +kernel
theorem dX2_isWord_1 : decode cX2_isWord 1 = .ok (.getfield 32, 3) := by decide +kernel
theorem dX2_isWord_4 : decode cX2_isWord 4 = .ok (.iconst 1, 1) := by decide +kernel
theorem dX2_isWord_5 : decode cX2_isWord 5 = .ok (.if_icmp .ne 19, 3) := by decide +kernel
theorem dX2_isWord_8 : decode cX2_isWord 8 = .ok (.aload_n 0, 1) := by decide +kernel
theorem dX2_isWord_9 : decode cX2_isWord 9 = .ok (.getfield 19, 3) := by decide +kernel
theorem dX2_isWord_12 : decode cX2_isWord 12 = .ok (.aload_n 0, 1) := by decide +kernel
theorem dX2_isWord_13 : decode cX2_isWord 13 = .ok (.getfield 29, 3) := by decide +kernel
theorem dX2_isWord_16 : decode cX2_isWord 16 = .ok (.isub, 1) := by decide +kernel
theorem dX2_isWord_17 : decode cX2_isWord 17 = .ok (.aload_n 1, 1) := by decide +kernel
theorem dX2_isWord_18 : decode cX2_isWord 18 = .ok (.invokevirtual 108, 3) := by decide +kernel
theorem dX2_isWord_21 : decode cX2_isWord 21 = .ok (.if_icmp .eq 5, 3) := by decide +kernel
theorem dX2_isWord_24 : decode cX2_isWord 24 = .ok (.iconst 0, 1) := by decide +kernel
theorem dX2_isWord_25 : decode cX2_isWord 25 = .ok (.ireturn, 1) := by decide +kernel
theorem dX2_isWord_26 : decode cX2_isWord 26 = .ok (.iconst 0, 1) := by decide +kernel
theorem dX2_isWord_27 : decode cX2_isWord 27 = .ok (.istore_n 2, 1) := by decide +kernel
theorem dX2_isWord_28 : decode cX2_isWord 28 = .ok (.iload_n 2, 1) := by decide +kernel
theorem dX2_isWord_29 : decode cX2_isWord 29 = .ok (.aload_n 1, 1) := by decide +kernel
theorem dX2_isWord_30 : decode cX2_isWord 30 = .ok (.invokevirtual 108, 3) := by decide +kernel
theorem dX2_isWord_33 : decode cX2_isWord 33 = .ok (.if_icmp .ge 30, 3) := by decide +kernel
theorem dX2_isWord_36 : decode cX2_isWord 36 = .ok (.aload_n 0, 1) := by decide +kernel
theorem dX2_isWord_37 : decode cX2_isWord 37 = .ok (.getfield 9, 3) := by decide +kernel
theorem dX2_isWord_40 : decode cX2_isWord 40 = .ok (.aload_n 0, 1) := by decide +kernel
theorem dX2_isWord_41 : decode cX2_isWord 41 = .ok (.getfield 29, 3) := by decide +kernel
theorem dX2_isWord_44 : decode cX2_isWord 44 = .ok (.iload_n 2, 1) := by decide +kernel
theorem dX2_isWord_45 : decode cX2_isWord 45 = .ok (.iadd, 1) := by decide +kernel
theorem dX2_isWord_46 : decode cX2_isWord 46 = .ok (.iaload, 1) := by decide +kernel
theorem dX2_isWord_47 : decode cX2_isWord 47 = .ok (.aload_n 1, 1) := by decide +kernel
theorem dX2_isWord_48 : decode cX2_isWord 48 = .ok (.iload_n 2, 1) := by decide +kernel
theorem dX2_isWord_49 : decode cX2_isWord 49 = .ok (.invokevirtual 112, 3) := by decide +kernel
theorem dX2_isWord_52 : decode cX2_isWord 52 = .ok (.if_icmp .eq 5, 3) := by decide +kernel
theorem dX2_isWord_55 : decode cX2_isWord 55 = .ok (.iconst 0, 1) := by decide +kernel
theorem dX2_isWord_56 : decode cX2_isWord 56 = .ok (.ireturn, 1) := by decide +kernel
theorem dX2_isWord_57 : decode cX2_isWord 57 = .ok (.iinc 2 1, 3) := by decide +kernel
theorem dX2_isWord_60 : decode cX2_isWord 60 = .ok (.goto (-32), 3) := by decide +kernel
theorem dX2_isWord_63 : decode cX2_isWord 63 = .ok (.iconst 1, 1) := by decide +kernel
theorem dX2_isWord_64 : decode cX2_isWord 64 = .ok (.ireturn, 1) := by decide +kernel
theorem dX2_advance_0 : decode cX2_advance 0 = .ok (.aload_n 0, 1) := by decide +kernel
theorem dX2_advance_1 : decode cX2_advance 1 = .ok (.aload_n 0, 1) := by decide +kernel
theorem dX2_advance_2 : decode cX2_advance 2 = .ok (.getfield 19, 3) := by decide +kernel
theorem dX2_advance_5 : decode cX2_advance 5 = .ok (.putfield 29, 3) := by decide +kernel
theorem dX2_advance_8 : decode cX2_advance 8 = .ok (.aload_n 0, 1) := by decide +kernel
theorem dX2_advance_9 : decode cX2_advance 9 = .ok (.getfield 29, 3) := by decide +kernel
theorem dX2_advance_12 : decode cX2_advance 12 = .ok (.aload_n 0, 1) := by decide +kernel
theorem dX2_advance_13 : decode cX2_advance 13 = .ok (.getfield 15, 3) := by decide +kernel
theorem dX2_advance_16 : decode cX2_advance 16 = .ok (.if_icmp .ge 30, 3) := by decide +kernel
theorem dX2_advance_19 : decode cX2_advance 19 = .ok (.aload_n 0, 1) := by decide +kernel
theorem dX2_advance_20 : decode cX2_advance 20 = .ok (.getfield 9, 3) := by decide +kernel
theorem dX2_advance_23 : decode cX2_advance 23 = .ok (.aload_n 0, 1) := by decide +kernel
theorem dX2_advance_24 : decode cX2_advance 24 = .ok (.getfield 29, 3) := by decide +kernel
theorem dX2_advance_27 : decode cX2_advance 27 = .ok (.iaload, 1) := by decide +kernel
theorem dX2_advance_28 : decode cX2_advance 28 = .ok (.bipush 32, 2) := by decide +kernel
theorem dX2_advance_30 : decode cX2_advance 30 = .ok (.if_icmp .ne 16, 3) := by decide +kernel
theorem dX2_advance_33 : decode cX2_advance 33 = .ok (.aload_n 0, 1) := by decide +kernel
theorem dX2_advance_34 : decode cX2_advance 34 = .ok (.dup, 1) := by decide +kernel
theorem dX2_advance_35 : decode cX2_advance 35 = .ok (.getfield 29, 3) := by decide +kernel
theorem dX2_advance_38 : decode cX2_advance 38 = .ok (.iconst 1, 1) := by decide +kernel
theorem dX2_advance_39 : decode cX2_advance 39 = .ok (.iadd, 1) := by decide +kernel
theorem dX2_advance_40 : decode cX2_advance 40 = .ok (.putfield 29, 3) := by decide +kernel
theorem dX2_advance_43 : decode cX2_advance 43 = .ok (.goto (-35), 3) := by decide +kernel
theorem dX2_advance_46 : decode cX2_advance 46 = .ok (.aload_n 0, 1) := by decide +kernel
theorem dX2_advance_47 : decode cX2_advance 47 = .ok (.aload_n 0, 1) := by decide +kernel
theorem dX2_advance_48 : decode cX2_advance 48 = .ok (.getfield 29, 3) := by decide +kernel
theorem dX2_advance_51 : decode cX2_advance 51 = .ok (.putfield 19, 3) := by decide +kernel
theorem dX2_advance_54 : decode cX2_advance 54 = .ok (.aload_n 0, 1) := by decide +kernel
theorem dX2_advance_55 : decode cX2_advance 55 = .ok (.getfield 29, 3) := by decide +kernel
theorem dX2_advance_58 : decode cX2_advance 58 = .ok (.aload_n 0, 1) := by decide +kernel
theorem dX2_advance_59 : decode cX2_advance 59 = .ok (.getfield 15, 3) := by decide +kernel
theorem dX2_advance_62 : decode cX2_advance 62 = .ok (.if_icmp .lt 11, 3) := by decide +kernel
theorem dX2_advance_65 : decode cX2_advance 65 = .ok (.aload_n 0, 1) := by decide +kernel
theorem dX2_advance_66 : decode cX2_advance 66 = .ok (.iconst 0, 1) := by decide +kernel
theorem dX2_advance_67 : decode cX2_advance 67 = .ok (.putfield 32, 3) := by decide +kernel
theorem dX2_advance_70 : decode cX2_advance 70 = .ok (.goto 90, 3) := by decide +kernel
theorem dX2_advance_73 : decode cX2_advance 73 = .ok (.aload_n 0, 1) := by decide +kernel
theorem dX2_advance_74 : decode cX2_advance 74 = .ok (.getfield 9, 3) := by decide +kernel
theorem dX2_advance_77 : decode cX2_advance 77 = .ok (.aload_n 0, 1) := by decide +kernel
theorem dX2_advance_78 : decode cX2_advance 78 = .ok (.getfield 29, 3) := by decide +kernel
theorem dX2_advance_81 : decode cX2_advance 81 = .ok (.iaload, 1) := by decide +kernel
theorem dX2_advance_82 : decode cX2_advance 82 = .ok (.invokestatic 116, 3) := by decide +kernel
theorem dX2_advance_85 : decode cX2_advance 85 = .ok (.ifCond .eq 15, 3) := by decide +kernel
theorem dX2_advance_88 : decode cX2_advance 88 = .ok (.aload_n 0, 1) := by decide +kernel
theorem dX2_advance_89 : decode cX2_advance 89 = .ok (.iconst 1, 1) := by decide +kernel
theorem dX2_advance_90 : decode cX2_advance 90 = .ok (.putfield 32, 3) := by decide +kernel
theorem dX2_advance_93 : decode cX2_advance 93 = .ok (.aload_n 0, 1) := by decide +kernel
theorem dX2_advance_94 : decode cX2_advance 94 = .ok (.invokevirtual 119, 3) := by decide +kernel
theorem dX2_advance_97 : decode cX2_advance 97 = .ok (.goto 63, 3) := by decide +kernel
theorem dX2_advance_100 : decode cX2_advance 100 = .ok (.aload_n 0, 1) := by decide +kernel
theorem dX2_advance_101 : decode cX2_advance 101 = .ok (.getfield 9, 3) := by decide +kernel
theorem dX2_advance_104 : decode cX2_advance 104 = .ok (.aload_n 0, 1) := by decide +kernel
theorem dX2_advance_105 : decode cX2_advance 105 = .ok (.getfield 29, 3) := by decide +kernel
theorem dX2_advance_108 : decode cX2_advance 108 = .ok (.iaload, 1) := by decide +kernel
theorem dX2_advance_109 : decode cX2_advance 109 = .ok (.invokestatic 122, 3) := by decide +kernel
theorem dX2_advance_112 : decode cX2_advance 112 = .ok (.ifCond .eq 15, 3) := by decide +kernel
theorem dX2_advance_115 : decode cX2_advance 115 = .ok (.aload_n 0, 1) := by decide +kernel
theorem dX2_advance_116 : decode cX2_advance 116 = .ok (.iconst 2, 1) := by decide +kernel
theorem dX2_advance_117 : decode cX2_advance 117 = .ok (.putfield 32, 3) := by decide +kernel
theorem dX2_advance_120 : decode cX2_advance 120 = .ok (.aload_n 0, 1) := by decide +kernel
theorem dX2_advance_121 : decode cX2_advance 121 = .ok (.invokevirtual 125, 3) := by decide +kernel
theorem dX2_advance_124 : decode cX2_advance 124 = .ok (.goto 36, 3) := by decide +kernel
theorem dX2_advance_127 : decode cX2_advance 127 = .ok (.aload_n 0, 1) := by decide +kernel
theorem dX2_advance_128 : decode cX2_advance 128 = .ok (.aload_n 0, 1) := by decide +kernel
theorem dX2_advance_129 : decode cX2_advance 129 = .ok (.getfield 9, 3) := by decide +kernel
theorem dX2_advance_132 : decode cX2_advance 132 = .ok (.aload_n 0, 1) := by decide +kernel
theorem dX2_advance_133 : decode cX2_advance 133 = .ok (.getfield 29, 3) := by decide +kernel
theorem dX2_advance_136 : decode cX2_advance 136 = .ok (.iaload, 1) := by decide +kernel
theorem dX2_advance_137 : decode cX2_advance 137 = .ok (.bipush 59, 2) := by decide +kernel
theorem dX2_advance_139 : decode cX2_advance 139 = .ok (.if_icmp .ne 7, 3) := by decide +kernel
theorem dX2_advance_142 : decode cX2_advance 142 = .ok (.iconst 3, 1) := by decide +kernel
theorem dX2_advance_143 : decode cX2_advance 143 = .ok (.goto 4, 3) := by decide +kernel
theorem dX2_advance_146 : decode cX2_advance 146 = .ok (.iconst 4, 1) := by decide +kernel
theorem dX2_advance_147 : decode cX2_advance 147 = .ok (.putfield 32, 3) := by decide +kernel
theorem dX2_advance_150 : decode cX2_advance 150 = .ok (.aload_n 0, 1) := by decide +kernel
theorem dX2_advance_151 : decode cX2_advance 151 = .ok (.dup, 1) := by decide +kernel
theorem dX2_advance_152 : decode cX2_advance 152 = .ok (.getfield 19, 3) := by decide +kernel
theorem dX2_advance_155 : decode cX2_advance 155 = .ok (.iconst 1, 1) := by decide +kernel
theorem dX2_advance_156 : decode cX2_advance 156 = .ok (.iadd, 1) := by decide +kernel
theorem dX2_advance_157 : decode cX2_advance 157 = .ok (.putfield 19, 3) := by decide +kernel
theorem dX2_advance_160 : decode cX2_advance 160 = .ok (.return_, 1) := by decide +kernel
theorem dX2_takeWord_0 : decode cX2_takeWord 0 = .ok (.aload_n 0, 1) := by decide +kernel
theorem dX2_takeWord_1 : decode cX2_takeWord 1 = .ok (.getfield 19, 3) := by decide +kernel
theorem dX2_takeWord_4 : decode cX2_takeWord 4 = .ok (.aload_n 0, 1) := by decide +kernel
theorem dX2_takeWord_5 : decode cX2_takeWord 5 = .ok (.getfield 15, 3) := by decide +kernel
theorem dX2_takeWord_8 : decode cX2_takeWord 8 = .ok (.if_icmp .ge 31, 3) := by decide +kernel
theorem dX2_takeWord_11 : decode cX2_takeWord 11 = .ok (.aload_n 0, 1) := by decide +kernel
theorem dX2_takeWord_12 : decode cX2_takeWord 12 = .ok (.getfield 9, 3) := by decide +kernel
theorem dX2_takeWord_15 : decode cX2_takeWord 15 = .ok (.aload_n 0, 1) := by decide +kernel
theorem dX2_takeWord_16 : decode cX2_takeWord 16 = .ok (.getfield 19, 3) := by decide +kernel
theorem dX2_takeWord_19 : decode cX2_takeWord 19 = .ok (.iaload, 1) := by decide +kernel
theorem dX2_takeWord_20 : decode cX2_takeWord 20 = .ok (.invokestatic 116, 3) := by decide +kernel
theorem dX2_takeWord_23 : decode cX2_takeWord 23 = .ok (.ifCond .eq 16, 3) := by decide +kernel
theorem dX2_takeWord_26 : decode cX2_takeWord 26 = .ok (.aload_n 0, 1) := by decide +kernel
theorem dX2_takeWord_27 : decode cX2_takeWord 27 = .ok (.dup, 1) := by decide +kernel
theorem dX2_takeWord_28 : decode cX2_takeWord 28 = .ok (.getfield 19, 3) := by decide +kernel
theorem dX2_takeWord_31 : decode cX2_takeWord 31 = .ok (.iconst 1, 1) := by decide +kernel
theorem dX2_takeWord_32 : decode cX2_takeWord 32 = .ok (.iadd, 1) := by decide +kernel
theorem dX2_takeWord_33 : decode cX2_takeWord 33 = .ok (.putfield 19, 3) := by decide +kernel
theorem dX2_takeWord_36 : decode cX2_takeWord 36 = .ok (.goto (-36), 3) := by decide +kernel
theorem dX2_takeWord_39 : decode cX2_takeWord 39 = .ok (.return_, 1) := by decide +kernel
theorem dX2_takeNumber_0 : decode cX2_takeNumber 0 = .ok (.aload_n 0, 1) := by decide +kernel
theorem dX2_takeNumber_1 : decode cX2_takeNumber 1 = .ok (.iconst 0, 1) := by decide +kernel
theorem dX2_takeNumber_2 : decode cX2_takeNumber 2 = .ok (.putfield 45, 3) := by decide +kernel
theorem dX2_takeNumber_5 : decode cX2_takeNumber 5 = .ok (.aload_n 0, 1) := by decide +kernel
theorem dX2_takeNumber_6 : decode cX2_takeNumber 6 = .ok (.getfield 19, 3) := by decide +kernel
theorem dX2_takeNumber_9 : decode cX2_takeNumber 9 = .ok (.aload_n 0, 1) := by decide +kernel
theorem dX2_takeNumber_10 : decode cX2_takeNumber 10 = .ok (.getfield 15, 3) := by decide +kernel
theorem dX2_takeNumber_13 : decode cX2_takeNumber 13 = .ok (.if_icmp .ge 61, 3) := by decide +kernel
theorem dX2_takeNumber_16 : decode cX2_takeNumber 16 = .ok (.aload_n 0, 1) := by decide +kernel
theorem dX2_takeNumber_17 : decode cX2_takeNumber 17 = .ok (.getfield 9, 3) := by decide +kernel
theorem dX2_takeNumber_20 : decode cX2_takeNumber 20 = .ok (.aload_n 0, 1) := by decide +kernel
theorem dX2_takeNumber_21 : decode cX2_takeNumber 21 = .ok (.getfield 19, 3) := by decide +kernel
theorem dX2_takeNumber_24 : decode cX2_takeNumber 24 = .ok (.iaload, 1) := by decide +kernel
theorem dX2_takeNumber_25 : decode cX2_takeNumber 25 = .ok (.invokestatic 122, 3) := by decide +kernel
theorem dX2_takeNumber_28 : decode cX2_takeNumber 28 = .ok (.ifCond .eq 46, 3) := by decide +kernel
theorem dX2_takeNumber_31 : decode cX2_takeNumber 31 = .ok (.aload_n 0, 1) := by decide +kernel
theorem dX2_takeNumber_32 : decode cX2_takeNumber 32 = .ok (.sipush 1000, 3) := by decide +kernel
theorem dX2_takeNumber_35 : decode cX2_takeNumber 35 = .ok (.bipush 10, 2) := by decide +kernel
theorem dX2_takeNumber_37 : decode cX2_takeNumber 37 = .ok (.aload_n 0, 1) := by decide +kernel
theorem dX2_takeNumber_38 : decode cX2_takeNumber 38 = .ok (.getfield 45, 3) := by decide +kernel
theorem dX2_takeNumber_41 : decode cX2_takeNumber 41 = .ok (.imul, 1) := by decide +kernel
theorem dX2_takeNumber_42 : decode cX2_takeNumber 42 = .ok (.aload_n 0, 1) := by decide +kernel
theorem dX2_takeNumber_43 : decode cX2_takeNumber 43 = .ok (.getfield 9, 3) := by decide +kernel
theorem dX2_takeNumber_46 : decode cX2_takeNumber 46 = .ok (.aload_n 0, 1) := by decide +kernel
theorem dX2_takeNumber_47 : decode cX2_takeNumber 47 = .ok (.getfield 19, 3) := by decide +kernel
theorem dX2_takeNumber_50 : decode cX2_takeNumber 50 = .ok (.iaload, 1) := by decide +kernel
theorem dX2_takeNumber_51 : decode cX2_takeNumber 51 = .ok (.iadd, 1) := by decide +kernel
theorem dX2_takeNumber_52 : decode cX2_takeNumber 52 = .ok (.bipush 48, 2) := by decide +kernel
theorem dX2_takeNumber_54 : decode cX2_takeNumber 54 = .ok (.isub, 1) := by decide +kernel
theorem dX2_takeNumber_55 : decode cX2_takeNumber 55 = .ok (.invokestatic 128, 3) := by decide +kernel
theorem dX2_takeNumber_58 : decode cX2_takeNumber 58 = .ok (.putfield 45, 3) := by decide +kernel
theorem dX2_takeNumber_61 : decode cX2_takeNumber 61 = .ok (.aload_n 0, 1) := by decide +kernel
theorem dX2_takeNumber_62 : decode cX2_takeNumber 62 = .ok (.dup, 1) := by decide +kernel
theorem dX2_takeNumber_63 : decode cX2_takeNumber 63 = .ok (.getfield 19, 3) := by decide +kernel
theorem dX2_takeNumber_66 : decode cX2_takeNumber 66 = .ok (.iconst 1, 1) := by decide +kernel
theorem dX2_takeNumber_67 : decode cX2_takeNumber 67 = .ok (.iadd, 1) := by decide +kernel
theorem dX2_takeNumber_68 : decode cX2_takeNumber 68 = .ok (.putfield 19, 3) := by decide +kernel
theorem dX2_takeNumber_71 : decode cX2_takeNumber 71 = .ok (.goto (-66), 3) := by decide +kernel
theorem dX2_takeNumber_74 : decode cX2_takeNumber 74 = .ok (.return_, 1) := by decide +kernel
theorem dX2_isLetter_0 : decode cX2_isLetter 0 = .ok (.iload_n 0, 1) := by decide +kernel
theorem dX2_isLetter_1 : decode cX2_isLetter 1 = .ok (.bipush 97, 2) := by decide +kernel
theorem dX2_isLetter_3 : decode cX2_isLetter 3 = .ok (.if_icmp .lt 13, 3) := by decide +kernel
theorem dX2_isLetter_6 : decode cX2_isLetter 6 = .ok (.iload_n 0, 1) := by decide +kernel
theorem dX2_isLetter_7 : decode cX2_isLetter 7 = .ok (.bipush 122, 2) := by decide +kernel
theorem dX2_isLetter_9 : decode cX2_isLetter 9 = .ok (.if_icmp .gt 7, 3) := by decide +kernel
theorem dX2_isLetter_12 : decode cX2_isLetter 12 = .ok (.iconst 1, 1) := by decide +kernel
theorem dX2_isLetter_13 : decode cX2_isLetter 13 = .ok (.goto 4, 3) := by decide +kernel
theorem dX2_isLetter_16 : decode cX2_isLetter 16 = .ok (.iconst 0, 1) := by decide +kernel
theorem dX2_isLetter_17 : decode cX2_isLetter 17 = .ok (.ireturn, 1) := by decide +kernel
theorem dX2_isDigit_0 : decode cX2_isDigit 0 = .ok (.iload_n 0, 1) := by decide +kernel
theorem dX2_isDigit_1 : decode cX2_isDigit 1 = .ok (.bipush 48, 2) := by decide +kernel
theorem dX2_isDigit_3 : decode cX2_isDigit 3 = .ok (.if_icmp .lt 13, 3) := by decide +kernel
theorem dX2_isDigit_6 : decode cX2_isDigit 6 = .ok (.iload_n 0, 1) := by decide +kernel
theorem dX2_isDigit_7 : decode cX2_isDigit 7 = .ok (.bipush 57, 2) := by decide +kernel
theorem dX2_isDigit_9 : decode cX2_isDigit 9 = .ok (.if_icmp .gt 7, 3) := by decide +kernel
theorem dX2_isDigit_12 : decode cX2_isDigit 12 = .ok (.iconst 1, 1) := by decide +kernel
theorem dX2_isDigit_13 : decode cX2_isDigit 13 = .ok (.goto 4, 3) := by decide +kernel
theorem dX2_isDigit_16 : decode cX2_isDigit 16 = .ok (.iconst 0, 1) := by decide +kernel
theorem dX2_isDigit_17 : decode cX2_isDigit 17 = .ok (.ireturn, 1) := by decide +kernel
theorem dJ6_bitCount_0f7a4_0 : decode cJ6_bitCount_0f7a4 0 = .ok (.iload_n 0, 1) := by decide +kernel
theorem dJ6_bitCount_0f7a4_1 : decode cJ6_bitCount_0f7a4 1 = .ok (.iload_n 0, 1) := by decide +kernel
theorem dJ6_bitCount_0f7a4_2 : decode cJ6_bitCount_0f7a4 2 = .ok (.iconst 1, 1) := by decide +kernel
theorem dJ6_bitCount_0f7a4_3 : decode cJ6_bitCount_0f7a4 3 = .ok (.iushr, 1) := by decide +kernel
theorem dJ6_bitCount_0f7a4_4 : decode cJ6_bitCount_0f7a4 4 = .ok (.ldc_w 265, 3) := by decide +kernel
theorem dJ6_bitCount_0f7a4_7 : decode cJ6_bitCount_0f7a4 7 = .ok (.iand, 1) := by decide +kernel
theorem dJ6_bitCount_0f7a4_8 : decode cJ6_bitCount_0f7a4 8 = .ok (.isub, 1) := by decide +kernel
theorem dJ6_bitCount_0f7a4_9 : decode cJ6_bitCount_0f7a4 9 = .ok (.istore_n 0, 1) := by decide +kernel
theorem dJ6_bitCount_0f7a4_10 : decode cJ6_bitCount_0f7a4 10 = .ok (.iload_n 0, 1) := by decide +kernel
theorem dJ6_bitCount_0f7a4_11 : decode cJ6_bitCount_0f7a4 11 = .ok (.ldc_w 266, 3) := by decide +kernel
theorem dJ6_bitCount_0f7a4_14 : decode cJ6_bitCount_0f7a4 14 = .ok (.iand, 1) := by decide +kernel
theorem dJ6_bitCount_0f7a4_15 : decode cJ6_bitCount_0f7a4 15 = .ok (.iload_n 0, 1) := by decide +kernel
theorem dJ6_bitCount_0f7a4_16 : decode cJ6_bitCount_0f7a4 16 = .ok (.iconst 2, 1) := by decide +kernel
theorem dJ6_bitCount_0f7a4_17 : decode cJ6_bitCount_0f7a4 17 = .ok (.iushr, 1) := by decide +kernel
theorem dJ6_bitCount_0f7a4_18 : decode cJ6_bitCount_0f7a4 18 = .ok (.ldc_w 266, 3) := by decide +kernel
theorem dJ6_bitCount_0f7a4_21 : decode cJ6_bitCount_0f7a4 21 = .ok (.iand, 1) := by decide +kernel
theorem dJ6_bitCount_0f7a4_22 : decode cJ6_bitCount_0f7a4 22 = .ok (.iadd, 1) := by decide +kernel
theorem dJ6_bitCount_0f7a4_23 : decode cJ6_bitCount_0f7a4 23 = .ok (.istore_n 0, 1) := by decide +kernel
theorem dJ6_bitCount_0f7a4_24 : decode cJ6_bitCount_0f7a4 24 = .ok (.iload_n 0, 1) := by decide +kernel
theorem dJ6_bitCount_0f7a4_25 : decode cJ6_bitCount_0f7a4 25 = .ok (.iload_n 0, 1) := by decide +kernel
theorem dJ6_bitCount_0f7a4_26 : decode cJ6_bitCount_0f7a4 26 = .ok (.iconst 4, 1) := by decide +kernel
theorem dJ6_bitCount_0f7a4_27 : decode cJ6_bitCount_0f7a4 27 = .ok (.iushr, 1) := by decide +kernel
theorem dJ6_bitCount_0f7a4_28 : decode cJ6_bitCount_0f7a4 28 = .ok (.iadd, 1) := by decide +kernel
theorem dJ6_bitCount_0f7a4_29 : decode cJ6_bitCount_0f7a4 29 = .ok (.ldc_w 267, 3) := by decide +kernel
theorem dJ6_bitCount_0f7a4_32 : decode cJ6_bitCount_0f7a4 32 = .ok (.iand, 1) := by decide +kernel
theorem dJ6_bitCount_0f7a4_33 : decode cJ6_bitCount_0f7a4 33 = .ok (.istore_n 0, 1) := by decide +kernel
theorem dJ6_bitCount_0f7a4_34 : decode cJ6_bitCount_0f7a4 34 = .ok (.iload_n 0, 1) := by decide +kernel
theorem dJ6_bitCount_0f7a4_35 : decode cJ6_bitCount_0f7a4 35 = .ok (.iload_n 0, 1) := by decide +kernel
theorem dJ6_bitCount_0f7a4_36 : decode cJ6_bitCount_0f7a4 36 = .ok (.bipush 8, 2) := by decide +kernel
theorem dJ6_bitCount_0f7a4_38 : decode cJ6_bitCount_0f7a4 38 = .ok (.iushr, 1) := by decide +kernel
theorem dJ6_bitCount_0f7a4_39 : decode cJ6_bitCount_0f7a4 39 = .ok (.iadd, 1) := by decide +kernel
theorem dJ6_bitCount_0f7a4_40 : decode cJ6_bitCount_0f7a4 40 = .ok (.istore_n 0, 1) := by decide +kernel
theorem dJ6_bitCount_0f7a4_41 : decode cJ6_bitCount_0f7a4 41 = .ok (.iload_n 0, 1) := by decide +kernel
theorem dJ6_bitCount_0f7a4_42 : decode cJ6_bitCount_0f7a4 42 = .ok (.iload_n 0, 1) := by decide +kernel
theorem dJ6_bitCount_0f7a4_43 : decode cJ6_bitCount_0f7a4 43 = .ok (.bipush 16, 2) := by decide +kernel
theorem dJ6_bitCount_0f7a4_45 : decode cJ6_bitCount_0f7a4 45 = .ok (.iushr, 1) := by decide +kernel
theorem dJ6_bitCount_0f7a4_46 : decode cJ6_bitCount_0f7a4 46 = .ok (.iadd, 1) := by decide +kernel
theorem dJ6_bitCount_0f7a4_47 : decode cJ6_bitCount_0f7a4 47 = .ok (.istore_n 0, 1) := by decide +kernel
theorem dJ6_bitCount_0f7a4_48 : decode cJ6_bitCount_0f7a4 48 = .ok (.iload_n 0, 1) := by decide +kernel
theorem dJ6_bitCount_0f7a4_49 : decode cJ6_bitCount_0f7a4 49 = .ok (.bipush 63, 2) := by decide +kernel
theorem dJ6_bitCount_0f7a4_51 : decode cJ6_bitCount_0f7a4 51 = .ok (.iand, 1) := by decide +kernel
theorem dJ6_bitCount_0f7a4_52 : decode cJ6_bitCount_0f7a4 52 = .ok (.ireturn, 1) := by decide +kernel
theorem dJ9_abs_0f7a4_0 : decode cJ9_abs_0f7a4 0 = .ok (.iload_n 0, 1) := by decide +kernel
theorem dJ9_abs_0f7a4_1 : decode cJ9_abs_0f7a4 1 = .ok (.ifCond .ge 8, 3) := by decide +kernel
theorem dJ9_abs_0f7a4_4 : decode cJ9_abs_0f7a4 4 = .ok (.iload_n 0, 1) := by decide +kernel
theorem dJ9_abs_0f7a4_5 : decode cJ9_abs_0f7a4 5 = .ok (.ineg, 1) := by decide +kernel
theorem dJ9_abs_0f7a4_6 : decode cJ9_abs_0f7a4 6 = .ok (.goto 4, 3) := by decide +kernel
theorem dJ9_abs_0f7a4_9 : decode cJ9_abs_0f7a4 9 = .ok (.iload_n 0, 1) := by decide +kernel
theorem dJ9_abs_0f7a4_10 : decode cJ9_abs_0f7a4 10 = .ok (.ireturn, 1) := by decide +kernel
theorem dJ9_min_7cf53_0 : decode cJ9_min_7cf53 0 = .ok (.iload_n 0, 1) := by decide +kernel
theorem dJ9_min_7cf53_1 : decode cJ9_min_7cf53 1 = .ok (.iload_n 1, 1) := by decide +kernel
theorem dJ9_min_7cf53_2 : decode cJ9_min_7cf53 2 = .ok (.if_icmp .gt 7, 3) := by decide +kernel
theorem dJ9_min_7cf53_5 : decode cJ9_min_7cf53 5 = .ok (.iload_n 0, 1) := by decide +kernel
theorem dJ9_min_7cf53_6 : decode cJ9_min_7cf53 6 = .ok (.goto 4, 3) := by decide +kernel
theorem dJ9_min_7cf53_9 : decode cJ9_min_7cf53 9 = .ok (.iload_n 1, 1) := by decide +kernel
theorem dJ9_min_7cf53_10 : decode cJ9_min_7cf53 10 = .ok (.ireturn, 1) := by decide +kernel
theorem dJ0_length_8abf5_0 : decode cJ0_length_8abf5 0 = .ok (.aload_n 0, 1) := by decide +kernel
theorem dJ0_length_8abf5_1 : decode cJ0_length_8abf5 1 = .ok (.getfield 9, 3) := by decide +kernel
theorem dJ0_length_8abf5_4 : decode cJ0_length_8abf5 4 = .ok (.arraylength, 1) := by decide +kernel
theorem dJ0_length_8abf5_5 : decode cJ0_length_8abf5 5 = .ok (.aload_n 0, 1) := by decide +kernel
theorem dJ0_length_8abf5_6 : decode cJ0_length_8abf5 6 = .ok (.invokevirtual 335, 3) := by decide +kernel
theorem dJ0_length_8abf5_9 : decode cJ0_length_8abf5 9 = .ok (.ishr, 1) := by decide +kernel
theorem dJ0_length_8abf5_10 : decode cJ0_length_8abf5 10 = .ok (.ireturn, 1) := by decide +kernel
theorem dJ0_charAt_5068e_0 : decode cJ0_charAt_5068e 0 = .ok (.aload_n 0, 1) := by decide +kernel
theorem dJ0_charAt_5068e_1 : decode cJ0_charAt_5068e 1 = .ok (.invokevirtual 492, 3) := by decide +kernel
theorem dJ0_charAt_5068e_4 : decode cJ0_charAt_5068e 4 = .ok (.ifCond .eq 12, 3) := by decide +kernel
theorem dJ0_charAt_5068e_7 : decode cJ0_charAt_5068e 7 = .ok (.aload_n 0, 1) := by decide +kernel
theorem dJ0_charAt_5068e_8 : decode cJ0_charAt_5068e 8 = .ok (.getfield 9, 3) := by decide +kernel
theorem dJ0_charAt_5068e_11 : decode cJ0_charAt_5068e 11 = .ok (.iload_n 1, 1) := by decide +kernel
theorem dJ0_charAt_5068e_12 : decode cJ0_charAt_5068e 12 = .ok (.invokestatic 495, 3) := by decide +kernel
theorem dJ0_charAt_5068e_15 : decode cJ0_charAt_5068e 15 = .ok (.ireturn, 1) := by decide +kernel
theorem dJ0_charAt_5068e_16 : decode cJ0_charAt_5068e 16 = .ok (.aload_n 0, 1) := by decide +kernel
theorem dJ0_charAt_5068e_17 : decode cJ0_charAt_5068e 17 = .ok (.getfield 9, 3) := by decide +kernel
theorem dJ0_charAt_5068e_20 : decode cJ0_charAt_5068e 20 = .ok (.iload_n 1, 1) := by decide +kernel
theorem dJ0_charAt_5068e_21 : decode cJ0_charAt_5068e 21 = .ok (.invokestatic 498, 3) := by decide +kernel
theorem dJ0_charAt_5068e_24 : decode cJ0_charAt_5068e 24 = .ok (.ireturn, 1) := by decide +kernel
theorem dJ0_coder_7d493_0 : decode cJ0_coder_7d493 0 = .ok (.getstatic 38, 3) := by decide +kernel
theorem dJ0_coder_7d493_3 : decode cJ0_coder_7d493 3 = .ok (.ifCond .eq 10, 3) := by decide +kernel
theorem dJ0_coder_7d493_6 : decode cJ0_coder_7d493 6 = .ok (.aload_n 0, 1) := by decide +kernel
theorem dJ0_coder_7d493_7 : decode cJ0_coder_7d493 7 = .ok (.getfield 15, 3) := by decide +kernel
theorem dJ0_coder_7d493_10 : decode cJ0_coder_7d493 10 = .ok (.goto 4, 3) := by decide +kernel
theorem dJ0_coder_7d493_13 : decode cJ0_coder_7d493 13 = .ok (.iconst 1, 1) := by decide +kernel
theorem dJ0_coder_7d493_14 : decode cJ0_coder_7d493 14 = .ok (.ireturn, 1) := by decide +kernel
theorem dJ0_isLatin1_aae02_0 : decode cJ0_isLatin1_aae02 0 = .ok (.getstatic 38, 3) := by decide +kernel
theorem dJ0_isLatin1_aae02_3 : decode cJ0_isLatin1_aae02 3 = .ok (.ifCond .eq 14, 3) := by decide +kernel
theorem dJ0_isLatin1_aae02_6 : decode cJ0_isLatin1_aae02 6 = .ok (.aload_n 0, 1) := by decide +kernel
theorem dJ0_isLatin1_aae02_7 : decode cJ0_isLatin1_aae02 7 = .ok (.getfield 15, 3) := by decide +kernel
theorem dJ0_isLatin1_aae02_10 : decode cJ0_isLatin1_aae02 10 = .ok (.ifCond .ne 7, 3) := by decide +kernel
theorem dJ0_isLatin1_aae02_13 : decode cJ0_isLatin1_aae02 13 = .ok (.iconst 1, 1) := by decide +kernel
theorem dJ0_isLatin1_aae02_14 : decode cJ0_isLatin1_aae02 14 = .ok (.goto 4, 3) := by decide +kernel
theorem dJ0_isLatin1_aae02_17 : decode cJ0_isLatin1_aae02 17 = .ok (.iconst 0, 1) := by decide +kernel
theorem dJ0_isLatin1_aae02_18 : decode cJ0_isLatin1_aae02 18 = .ok (.ireturn, 1) := by decide +kernel
theorem dJ0_checkIndex_df160_0 : decode cJ0_checkIndex_df160 0 = .ok (.iload_n 0, 1) := by decide +kernel
theorem dJ0_checkIndex_df160_1 : decode cJ0_checkIndex_df160 1 = .ok (.iload_n 1, 1) := by decide +kernel
theorem dJ0_checkIndex_df160_2 : decode cJ0_checkIndex_df160 2 = .ok (.getstatic 1053, 3) := by decide +kernel
theorem dJ0_checkIndex_df160_5 : decode cJ0_checkIndex_df160 5 = .ok (.invokestatic 1059, 3) := by decide +kernel
theorem dJ0_checkIndex_df160_8 : decode cJ0_checkIndex_df160 8 = .ok (.pop, 1) := by decide +kernel
theorem dJ0_checkIndex_df160_9 : decode cJ0_checkIndex_df160 9 = .ok (.return_, 1) := by decide +kernel
theorem dJ1_charAt_3b067_0 : decode cJ1_charAt_3b067 0 = .ok (.iload_n 1, 1) := by decide +kernel
theorem dJ1_charAt_3b067_1 : decode cJ1_charAt_3b067 1 = .ok (.aload_n 0, 1) := by decide +kernel
theorem dJ1_charAt_3b067_2 : decode cJ1_charAt_3b067 2 = .ok (.arraylength, 1) := by decide +kernel
theorem dJ1_charAt_3b067_3 : decode cJ1_charAt_3b067 3 = .ok (.invokestatic 9, 3) := by decide +kernel
theorem dJ1_charAt_3b067_6 : decode cJ1_charAt_3b067 6 = .ok (.aload_n 0, 1) := by decide +kernel
theorem dJ1_charAt_3b067_7 : decode cJ1_charAt_3b067 7 = .ok (.iload_n 1, 1) := by decide +kernel
theorem dJ1_charAt_3b067_8 : decode cJ1_charAt_3b067 8 = .ok (.baload, 1) := by decide +kernel
theorem dJ1_charAt_3b067_9 : decode cJ1_charAt_3b067 9 = .ok (.sipush 255, 3) := by decide +kernel
theorem dJ1_charAt_3b067_12 : decode cJ1_charAt_3b067 12 = .ok (.iand, 1) := by decide +kernel
theorem dJ1_charAt_3b067_13 : decode cJ1_charAt_3b067 13 = .ok (.i2c, 1) := by decide +kernel
theorem dJ1_charAt_3b067_14 : decode cJ1_charAt_3b067 14 = .ok (.ireturn, 1) := by decide +kernel
theorem dJ3_checkIndex_8e157_0 : decode cJ3_checkIndex_8e157 0 = .ok (.iload_n 0, 1) := by decide +kernel
theorem dJ3_checkIndex_8e157_1 : decode cJ3_checkIndex_8e157 1 = .ok (.ifCond .lt 8, 3) := by decide +kernel
theorem dJ3_checkIndex_8e157_4 : decode cJ3_checkIndex_8e157 4 = .ok (.iload_n 0, 1) := by decide +kernel
theorem dJ3_checkIndex_8e157_5 : decode cJ3_checkIndex_8e157 5 = .ok (.iload_n 1, 1) := by decide +kernel
theorem dJ3_checkIndex_8e157_6 : decode cJ3_checkIndex_8e157 6 = .ok (.if_icmp .lt 10, 3) := by decide +kernel
theorem dJ3_checkIndex_8e157_9 : decode cJ3_checkIndex_8e157 9 = .ok (.aload_n 2, 1) := by decide +kernel
theorem dJ3_checkIndex_8e157_10 : decode cJ3_checkIndex_8e157 10 = .ok (.iload_n 0, 1) := by decide +kernel
theorem dJ3_checkIndex_8e157_11 : decode cJ3_checkIndex_8e157 11 = .ok (.iload_n 1, 1) := by decide +kernel
theorem dJ3_checkIndex_8e157_12 : decode cJ3_checkIndex_8e157 12 = .ok (.invokestatic 95, 3) := by decide +kernel
theorem dJ3_checkIndex_8e157_15 : decode cJ3_checkIndex_8e157 15 = .ok (.athrow, 1) := by decide +kernel
theorem dJ3_checkIndex_8e157_16 : decode cJ3_checkIndex_8e157 16 = .ok (.iload_n 0, 1) := by decide +kernel
theorem dJ3_checkIndex_8e157_17 : decode cJ3_checkIndex_8e157 17 = .ok (.ireturn, 1) := by decide +kernel
