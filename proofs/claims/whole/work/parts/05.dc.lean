theorem dX4_init_0 : decode cX4_init 0 = .ok (.aload_n 0, 1) := by decide +kernel
theorem dX4_init_1 : decode cX4_init 1 = .ok (.invokespecial 1, 3) := by decide +kernel
theorem dX4_init_4 : decode cX4_init 4 = .ok (.aload_n 0, 1) := by decide +kernel
theorem dX4_init_5 : decode cX4_init 5 = .ok (.bipush 37, 2) := by decide +kernel
theorem dX4_init_7 : decode cX4_init 7 = .ok (.newarray .int, 2) := by decide +kernel
theorem dX4_init_9 : decode cX4_init 9 = .ok (.putfield 7, 3) := by decide +kernel
theorem dX4_init_12 : decode cX4_init 12 = .ok (.aload_n 0, 1) := by decide +kernel
theorem dX4_init_13 : decode cX4_init 13 = .ok (.bipush 37, 2) := by decide +kernel
theorem dX4_init_15 : decode cX4_init 15 = .ok (.newarray .int, 2) := by decide +kernel
theorem dX4_init_17 : decode cX4_init 17 = .ok (.putfield 13, 3) := by decide +kernel
theorem dX4_init_20 : decode cX4_init 20 = .ok (.aload_n 0, 1) := by decide +kernel
theorem dX4_init_21 : decode cX4_init 21 = .ok (.bipush 37, 2) := by decide +kernel
theorem dX4_init_23 : decode cX4_init 23 = .ok (.newarray .int, 2) := by decide +kernel
theorem dX4_init_25 : decode cX4_init 25 = .ok (.putfield 16, 3) := by decide +kernel
theorem dX4_init_28 : decode cX4_init 28 = .ok (.aload_n 0, 1) := by decide +kernel
theorem dX4_init_29 : decode cX4_init 29 = .ok (.bipush 37, 2) := by decide +kernel
theorem dX4_init_31 : decode cX4_init 31 = .ok (.newarray .int, 2) := by decide +kernel
theorem dX4_init_33 : decode cX4_init 33 = .ok (.putfield 19, 3) := by decide +kernel
theorem dX4_init_36 : decode cX4_init 36 = .ok (.aload_n 0, 1) := by decide +kernel
theorem dX4_init_37 : decode cX4_init 37 = .ok (.bipush 7, 2) := by decide +kernel
theorem dX4_init_39 : decode cX4_init 39 = .ok (.newarray .int, 2) := by decide +kernel
theorem dX4_init_41 : decode cX4_init 41 = .ok (.putfield 22, 3) := by decide +kernel
theorem dX4_init_44 : decode cX4_init 44 = .ok (.aload_n 0, 1) := by decide +kernel
theorem dX4_init_45 : decode cX4_init 45 = .ok (.bipush 120, 2) := by decide +kernel
theorem dX4_init_47 : decode cX4_init 47 = .ok (.newarray .int, 2) := by decide +kernel
theorem dX4_init_49 : decode cX4_init 49 = .ok (.putfield 25, 3) := by decide +kernel
theorem dX4_init_52 : decode cX4_init 52 = .ok (.aload_n 0, 1) := by decide +kernel
theorem dX4_init_53 : decode cX4_init 53 = .ok (.iconst 4, 1) := by decide +kernel
theorem dX4_init_54 : decode cX4_init 54 = .ok (.newarray .int, 2) := by decide +kernel
theorem dX4_init_56 : decode cX4_init 56 = .ok (.putfield 28, 3) := by decide +kernel
theorem dX4_init_59 : decode cX4_init 59 = .ok (.aload_n 0, 1) := by decide +kernel
theorem dX4_init_60 : decode cX4_init 60 = .ok (.iconst 4, 1) := by decide +kernel
theorem dX4_init_61 : decode cX4_init 61 = .ok (.newarray .int, 2) := by decide +kernel
theorem dX4_init_63 : decode cX4_init 63 = .ok (.putfield 31, 3) := by decide +kernel
theorem dX4_init_66 : decode cX4_init 66 = .ok (.aload_n 0, 1) := by decide +kernel
theorem dX4_init_67 : decode cX4_init 67 = .ok (.sipush 160, 3) := by decide +kernel
theorem dX4_init_70 : decode cX4_init 70 = .ok (.newarray .long, 2) := by decide +kernel
theorem dX4_init_72 : decode cX4_init 72 = .ok (.putfield 34, 3) := by decide +kernel
theorem dX4_init_75 : decode cX4_init 75 = .ok (.aload_n 0, 1) := by decide +kernel
theorem dX4_init_76 : decode cX4_init 76 = .ok (.bipush 40, 2) := by decide +kernel
theorem dX4_init_78 : decode cX4_init 78 = .ok (.newarray .long, 2) := by decide +kernel
theorem dX4_init_80 : decode cX4_init 80 = .ok (.putfield 38, 3) := by decide +kernel
theorem dX4_init_83 : decode cX4_init 83 = .ok (.aload_n 0, 1) := by decide +kernel
theorem dX4_init_84 : decode cX4_init 84 = .ok (.getfield 7, 3) := by decide +kernel
theorem dX4_init_87 : decode cX4_init 87 = .ok (.iconst 2, 1) := by decide +kernel
theorem dX4_init_88 : decode cX4_init 88 = .ok (.bipush 10, 2) := by decide +kernel
theorem dX4_init_90 : decode cX4_init 90 = .ok (.iastore, 1) := by decide +kernel
theorem dX4_init_91 : decode cX4_init 91 = .ok (.return_, 1) := by decide +kernel
theorem dX4_in_0 : decode cX4_in 0 = .ok (.lload_n 0, 1) := by decide +kernel
theorem dX4_in_1 : decode cX4_in 1 = .ok (.lload_n 2, 1) := by decide +kernel
theorem dX4_in_2 : decode cX4_in 2 = .ok (.lcmp, 1) := by decide +kernel
theorem dX4_in_3 : decode cX4_in 3 = .ok (.ifCond .lt 14, 3) := by decide +kernel
theorem dX4_in_6 : decode cX4_in 6 = .ok (.lload_n 0, 1) := by decide +kernel
theorem dX4_in_7 : decode cX4_in 7 = .ok (.lload 4, 2) := by decide +kernel
theorem dX4_in_9 : decode cX4_in 9 = .ok (.lcmp, 1) := by decide +kernel
theorem dX4_in_10 : decode cX4_in 10 = .ok (.ifCond .gt 7, 3) := by decide +kernel
theorem dX4_in_13 : decode cX4_in 13 = .ok (.iconst 1, 1) := by decide +kernel
theorem dX4_in_14 : decode cX4_in 14 = .ok (.goto 4, 3) := by decide +kernel
theorem dX4_in_17 : decode cX4_in 17 = .ok (.iconst 0, 1) := by decide +kernel
theorem dX4_in_18 : decode cX4_in 18 = .ok (.ireturn, 1) := by decide +kernel
theorem dX4_finds_0 : decode cX4_finds 0 = .ok (.aload_n 0, 1) := by decide +kernel
theorem dX4_finds_1 : decode cX4_finds 1 = .ok (.getfield 22, 3) := by decide +kernel
theorem dX4_finds_4 : decode cX4_finds 4 = .ok (.ldc 41, 2) := by decide +kernel
theorem dX4_finds_6 : decode cX4_finds 6 = .ok (.iload_n 1, 1) := by decide +kernel
theorem dX4_finds_7 : decode cX4_finds 7 = .ok (.isub, 1) := by decide +kernel
theorem dX4_finds_8 : decode cX4_finds 8 = .ok (.dup2, 1) := by decide +kernel
theorem dX4_finds_9 : decode cX4_finds 9 = .ok (.iaload, 1) := by decide +kernel
theorem dX4_finds_10 : decode cX4_finds 10 = .ok (.iconst 1, 1) := by decide +kernel
theorem dX4_finds_11 : decode cX4_finds 11 = .ok (.iadd, 1) := by decide +kernel
theorem dX4_finds_12 : decode cX4_finds 12 = .ok (.iastore, 1) := by decide +kernel
theorem dX4_finds_13 : decode cX4_finds 13 = .ok (.iload_n 1, 1) := by decide +kernel
theorem dX4_finds_14 : decode cX4_finds 14 = .ok (.ireturn, 1) := by decide +kernel
theorem dX4_saves_0 : decode cX4_saves 0 = .ok (.iconst 0, 1) := by decide +kernel
theorem dX4_saves_1 : decode cX4_saves 1 = .ok (.istore_n 1, 1) := by decide +kernel
theorem dX4_saves_2 : decode cX4_saves 2 = .ok (.iload_n 1, 1) := by decide +kernel
theorem dX4_saves_3 : decode cX4_saves 3 = .ok (.bipush 37, 2) := by decide +kernel
theorem dX4_saves_5 : decode cX4_saves 5 = .ok (.if_icmp .ge 21, 3) := by decide +kernel
theorem dX4_saves_8 : decode cX4_saves 8 = .ok (.aload_n 0, 1) := by decide +kernel
theorem dX4_saves_9 : decode cX4_saves 9 = .ok (.getfield 16, 3) := by decide +kernel
theorem dX4_saves_12 : decode cX4_saves 12 = .ok (.iload_n 1, 1) := by decide +kernel
theorem dX4_saves_13 : decode cX4_saves 13 = .ok (.aload_n 0, 1) := by decide +kernel
theorem dX4_saves_14 : decode cX4_saves 14 = .ok (.getfield 7, 3) := by decide +kernel
theorem dX4_saves_17 : decode cX4_saves 17 = .ok (.iload_n 1, 1) := by decide +kernel
theorem dX4_saves_18 : decode cX4_saves 18 = .ok (.iaload, 1) := by decide +kernel
theorem dX4_saves_19 : decode cX4_saves 19 = .ok (.iastore, 1) := by decide +kernel
theorem dX4_saves_20 : decode cX4_saves 20 = .ok (.iinc 1 1, 3) := by decide +kernel
theorem dX4_saves_23 : decode cX4_saves 23 = .ok (.goto (-21), 3) := by decide +kernel
theorem dX4_saves_26 : decode cX4_saves 26 = .ok (.return_, 1) := by decide +kernel
theorem dX4_putsBack_0 : decode cX4_putsBack 0 = .ok (.iconst 0, 1) := by decide +kernel
theorem dX4_putsBack_1 : decode cX4_putsBack 1 = .ok (.istore_n 1, 1) := by decide +kernel
theorem dX4_putsBack_2 : decode cX4_putsBack 2 = .ok (.iload_n 1, 1) := by decide +kernel
theorem dX4_putsBack_3 : decode cX4_putsBack 3 = .ok (.bipush 37, 2) := by decide +kernel
theorem dX4_putsBack_5 : decode cX4_putsBack 5 = .ok (.if_icmp .ge 21, 3) := by decide +kernel
theorem dX4_putsBack_8 : decode cX4_putsBack 8 = .ok (.aload_n 0, 1) := by decide +kernel
theorem dX4_putsBack_9 : decode cX4_putsBack 9 = .ok (.getfield 7, 3) := by decide +kernel
theorem dX4_putsBack_12 : decode cX4_putsBack 12 = .ok (.iload_n 1, 1) := by decide +kernel
theorem dX4_putsBack_13 : decode cX4_putsBack 13 = .ok (.aload_n 0, 1) := by decide +kernel
theorem dX4_putsBack_14 : decode cX4_putsBack 14 = .ok (.getfield 16, 3) := by decide +kernel
theorem dX4_putsBack_17 : decode cX4_putsBack 17 = .ok (.iload_n 1, 1) := by decide +kernel
theorem dX4_putsBack_18 : decode cX4_putsBack 18 = .ok (.iaload, 1) := by decide +kernel
theorem dX4_putsBack_19 : decode cX4_putsBack 19 = .ok (.iastore, 1) := by decide +kernel
theorem dX4_putsBack_20 : decode cX4_putsBack 20 = .ok (.iinc 1 1, 3) := by decide +kernel
theorem dX4_putsBack_23 : decode cX4_putsBack 23 = .ok (.goto (-21), 3) := by decide +kernel
theorem dX4_putsBack_26 : decode cX4_putsBack 26 = .ok (.return_, 1) := by decide +kernel
theorem dX4_laysAside_0 : decode cX4_laysAside 0 = .ok (.iconst 0, 1) := by decide +kernel
theorem dX4_laysAside_1 : decode cX4_laysAside 1 = .ok (.istore_n 1, 1) := by decide +kernel
theorem dX4_laysAside_2 : decode cX4_laysAside 2 = .ok (.iload_n 1, 1) := by decide +kernel
theorem dX4_laysAside_3 : decode cX4_laysAside 3 = .ok (.bipush 37, 2) := by decide +kernel
theorem dX4_laysAside_5 : decode cX4_laysAside 5 = .ok (.if_icmp .ge 21, 3) := by decide +kernel
theorem dX4_laysAside_8 : decode cX4_laysAside 8 = .ok (.aload_n 0, 1) := by decide +kernel
theorem dX4_laysAside_9 : decode cX4_laysAside 9 = .ok (.getfield 19, 3) := by decide +kernel
theorem dX4_laysAside_12 : decode cX4_laysAside 12 = .ok (.iload_n 1, 1) := by decide +kernel
theorem dX4_laysAside_13 : decode cX4_laysAside 13 = .ok (.aload_n 0, 1) := by decide +kernel
theorem dX4_laysAside_14 : decode cX4_laysAside 14 = .ok (.getfield 7, 3) := by decide +kernel
theorem dX4_laysAside_17 : decode cX4_laysAside 17 = .ok (.iload_n 1, 1) := by decide +kernel
theorem dX4_laysAside_18 : decode cX4_laysAside 18 = .ok (.iaload, 1) := by decide +kernel
theorem dX4_laysAside_19 : decode cX4_laysAside 19 = .ok (.iastore, 1) := by decide +kernel
theorem dX4_laysAside_20 : decode cX4_laysAside 20 = .ok (.iinc 1 1, 3) := by decide +kernel
theorem dX4_laysAside_23 : decode cX4_laysAside 23 = .ok (.goto (-21), 3) := by decide +kernel
theorem dX4_laysAside_26 : decode cX4_laysAside 26 = .ok (.return_, 1) := by decide +kernel
theorem dX4_takesBack_0 : decode cX4_takesBack 0 = .ok (.iconst 0, 1) := by decide +kernel
theorem dX4_takesBack_1 : decode cX4_takesBack 1 = .ok (.istore_n 2, 1) := by decide +kernel
theorem dX4_takesBack_2 : decode cX4_takesBack 2 = .ok (.iload_n 2, 1) := by decide +kernel
theorem dX4_takesBack_3 : decode cX4_takesBack 3 = .ok (.bipush 37, 2) := by decide +kernel
theorem dX4_takesBack_5 : decode cX4_takesBack 5 = .ok (.if_icmp .ge 21, 3) := by decide +kernel
theorem dX4_takesBack_8 : decode cX4_takesBack 8 = .ok (.aload_n 0, 1) := by decide +kernel
theorem dX4_takesBack_9 : decode cX4_takesBack 9 = .ok (.getfield 7, 3) := by decide +kernel
theorem dX4_takesBack_12 : decode cX4_takesBack 12 = .ok (.iload_n 2, 1) := by decide +kernel
theorem dX4_takesBack_13 : decode cX4_takesBack 13 = .ok (.aload_n 0, 1) := by decide +kernel
theorem dX4_takesBack_14 : decode cX4_takesBack 14 = .ok (.getfield 19, 3) := by decide +kernel
theorem dX4_takesBack_17 : decode cX4_takesBack 17 = .ok (.iload_n 2, 1) := by decide +kernel
theorem dX4_takesBack_18 : decode cX4_takesBack 18 = .ok (.iaload, 1) := by decide +kernel
theorem dX4_takesBack_19 : decode cX4_takesBack 19 = .ok (.iastore, 1) := by decide +kernel
theorem dX4_takesBack_20 : decode cX4_takesBack 20 = .ok (.iinc 2 1, 3) := by decide +kernel
theorem dX4_takesBack_23 : decode cX4_takesBack 23 = .ok (.goto (-21), 3) := by decide +kernel
theorem dX4_takesBack_26 : decode cX4_takesBack 26 = .ok (.iload_n 1, 1) := by decide +kernel
theorem dX4_takesBack_27 : decode cX4_takesBack 27 = .ok (.ireturn, 1) := by decide +kernel
theorem dX4_becomes_0 : decode cX4_becomes 0 = .ok (.aload_n 0, 1) := by decide +kernel
theorem dX4_becomes_1 : decode cX4_becomes 1 = .ok (.getfield 7, 3) := by decide +kernel
theorem dX4_becomes_4 : decode cX4_becomes 4 = .ok (.iload_n 1, 1) := by decide +kernel
theorem dX4_becomes_5 : decode cX4_becomes 5 = .ok (.iaload, 1) := by decide +kernel
theorem dX4_becomes_6 : decode cX4_becomes 6 = .ok (.istore_n 3, 1) := by decide +kernel
theorem dX4_becomes_7 : decode cX4_becomes 7 = .ok (.aload_n 0, 1) := by decide +kernel
theorem dX4_becomes_8 : decode cX4_becomes 8 = .ok (.getfield 7, 3) := by decide +kernel
theorem dX4_becomes_11 : decode cX4_becomes 11 = .ok (.iload_n 1, 1) := by decide +kernel
theorem dX4_becomes_12 : decode cX4_becomes 12 = .ok (.iload_n 2, 1) := by decide +kernel
theorem dX4_becomes_13 : decode cX4_becomes 13 = .ok (.iastore, 1) := by decide +kernel
theorem dX4_becomes_14 : decode cX4_becomes 14 = .ok (.iload_n 3, 1) := by decide +kernel
theorem dX4_becomes_15 : decode cX4_becomes 15 = .ok (.ireturn, 1) := by decide +kernel
theorem dX4_isPerson_0 : decode cX4_isPerson 0 = .ok (.iload_n 1, 1) := by decide +kernel
theorem dX4_isPerson_1 : decode cX4_isPerson 1 = .ok (.i2l, 1) := by decide +kernel
theorem dX4_isPerson_2 : decode cX4_isPerson 2 = .ok (.lconst 0, 1) := by decide +kernel
theorem dX4_isPerson_3 : decode cX4_isPerson 3 = .ok (.aload_n 0, 1) := by decide +kernel
theorem dX4_isPerson_4 : decode cX4_isPerson 4 = .ok (.getfield 7, 3) := by decide +kernel
theorem dX4_isPerson_7 : decode cX4_isPerson 7 = .ok (.iconst 0, 1) := by decide +kernel
theorem dX4_isPerson_8 : decode cX4_isPerson 8 = .ok (.iaload, 1) := by decide +kernel
theorem dX4_isPerson_9 : decode cX4_isPerson 9 = .ok (.iconst 1, 1) := by decide +kernel
theorem dX4_isPerson_10 : decode cX4_isPerson 10 = .ok (.isub, 1) := by decide +kernel
theorem dX4_isPerson_11 : decode cX4_isPerson 11 = .ok (.i2l, 1) := by decide +kernel
theorem dX4_isPerson_12 : decode cX4_isPerson 12 = .ok (.invokestatic 42, 3) := by decide +kernel
theorem dX4_isPerson_15 : decode cX4_isPerson 15 = .ok (.ireturn, 1) := by decide +kernel
theorem dX4_isKind_0 : decode cX4_isKind 0 = .ok (.iload_n 0, 1) := by decide +kernel
theorem dX4_isKind_1 : decode cX4_isKind 1 = .ok (.i2l, 1) := by decide +kernel
theorem dX4_isKind_2 : decode cX4_isKind 2 = .ok (.lconst 0, 1) := by decide +kernel
theorem dX4_isKind_3 : decode cX4_isKind 3 = .ok (.ldc2_w 46, 3) := by decide +kernel
theorem dX4_isKind_6 : decode cX4_isKind 6 = .ok (.invokestatic 42, 3) := by decide +kernel
theorem dX4_isKind_9 : decode cX4_isKind 9 = .ok (.ireturn, 1) := by decide +kernel
theorem dX4_isEnd_0 : decode cX4_isEnd 0 = .ok (.iload_n 0, 1) := by decide +kernel
theorem dX4_isEnd_1 : decode cX4_isEnd 1 = .ok (.i2l, 1) := by decide +kernel
theorem dX4_isEnd_2 : decode cX4_isEnd 2 = .ok (.lconst 0, 1) := by decide +kernel
theorem dX4_isEnd_3 : decode cX4_isEnd 3 = .ok (.lconst 1, 1) := by decide +kernel
theorem dX4_isEnd_4 : decode cX4_isEnd 4 = .ok (.invokestatic 42, 3) := by decide +kernel
theorem dX4_isEnd_7 : decode cX4_isEnd 7 = .ok (.ireturn, 1) := by decide +kernel
theorem dX4_spotOf_0 : decode cX4_spotOf 0 = .ok (.iconst 5, 1) := by decide +kernel
theorem dX4_spotOf_1 : decode cX4_spotOf 1 = .ok (.iconst 4, 1) := by decide +kernel
theorem dX4_spotOf_2 : decode cX4_spotOf 2 = .ok (.iload_n 0, 1) := by decide +kernel
theorem dX4_spotOf_3 : decode cX4_spotOf 3 = .ok (.imul, 1) := by decide +kernel
theorem dX4_spotOf_4 : decode cX4_spotOf 4 = .ok (.iadd, 1) := by decide +kernel
theorem dX4_spotOf_5 : decode cX4_spotOf 5 = .ok (.iload_n 1, 1) := by decide +kernel
theorem dX4_spotOf_6 : decode cX4_spotOf 6 = .ok (.iadd, 1) := by decide +kernel
theorem dX4_spotOf_7 : decode cX4_spotOf 7 = .ok (.ireturn, 1) := by decide +kernel
theorem dX4_its_0 : decode cX4_its 0 = .ok (.aload_n 0, 1) := by decide +kernel
theorem dX4_its_1 : decode cX4_its 1 = .ok (.getfield 7, 3) := by decide +kernel
theorem dX4_its_4 : decode cX4_its 4 = .ok (.iload_n 1, 1) := by decide +kernel
theorem dX4_its_5 : decode cX4_its 5 = .ok (.iload_n 2, 1) := by decide +kernel
theorem dX4_its_6 : decode cX4_its 6 = .ok (.invokestatic 48, 3) := by decide +kernel
theorem dX4_its_9 : decode cX4_its 9 = .ok (.iaload, 1) := by decide +kernel
theorem dX4_its_10 : decode cX4_its 10 = .ok (.ireturn, 1) := by decide +kernel
theorem dX4_heldTo_0 : decode cX4_heldTo 0 = .ok (.iload_n 0, 1) := by decide +kernel
theorem dX4_heldTo_1 : decode cX4_heldTo 1 = .ok (.bipush 99, 2) := by decide +kernel
theorem dX4_heldTo_3 : decode cX4_heldTo 3 = .ok (.if_icmp .le 8, 3) := by decide +kernel
theorem dX4_heldTo_6 : decode cX4_heldTo 6 = .ok (.bipush 99, 2) := by decide +kernel
theorem dX4_heldTo_8 : decode cX4_heldTo 8 = .ok (.goto 4, 3) := by decide +kernel
theorem dX4_heldTo_11 : decode cX4_heldTo 11 = .ok (.iload_n 0, 1) := by decide +kernel
theorem dX4_heldTo_12 : decode cX4_heldTo 12 = .ok (.ireturn, 1) := by decide +kernel
theorem dX4_ones_0 : decode cX4_ones 0 = .ok (.iconst 0, 1) := by decide +kernel
theorem dX4_ones_1 : decode cX4_ones 1 = .ok (.istore_n 1, 1) := by decide +kernel
theorem dX4_ones_2 : decode cX4_ones 2 = .ok (.iload_n 0, 1) := by decide +kernel
theorem dX4_ones_3 : decode cX4_ones 3 = .ok (.istore_n 2, 1) := by decide +kernel
theorem dX4_ones_4 : decode cX4_ones 4 = .ok (.iload_n 2, 1) := by decide +kernel
theorem dX4_ones_5 : decode cX4_ones 5 = .ok (.ifCond .eq 15, 3) := by decide +kernel
theorem dX4_ones_8 : decode cX4_ones 8 = .ok (.iinc 1 1, 3) := by decide +kernel
theorem dX4_ones_11 : decode cX4_ones 11 = .ok (.iload_n 2, 1) := by decide +kernel
theorem dX4_ones_12 : decode cX4_ones 12 = .ok (.iload_n 2, 1) := by decide +kernel
theorem dX4_ones_13 : decode cX4_ones 13 = .ok (.iconst 1, 1) := by decide +kernel
theorem dX4_ones_14 : decode cX4_ones 14 = .ok (.isub, 1) := by decide +kernel
theorem dX4_ones_15 : decode cX4_ones 15 = .ok (.iand, 1) := by decide +kernel
theorem dX4_ones_16 : decode cX4_ones 16 = .ok (.istore_n 2, 1) := by decide +kernel
theorem dX4_ones_17 : decode cX4_ones 17 = .ok (.goto (-13), 3) := by decide +kernel
theorem dX4_ones_20 : decode cX4_ones 20 = .ok (.iload_n 1, 1) := by decide +kernel
theorem dX4_ones_21 : decode cX4_ones 21 = .ok (.ireturn, 1) := by decide +kernel
theorem dX4_adds_0 : decode cX4_adds 0 = .ok (.aload_n 0, 1) := by decide +kernel
theorem dX4_adds_1 : decode cX4_adds 1 = .ok (.getfield 7, 3) := by decide +kernel
theorem dX4_adds_4 : decode cX4_adds 4 = .ok (.iconst 0, 1) := by decide +kernel
theorem dX4_adds_5 : decode cX4_adds 5 = .ok (.iaload, 1) := by decide +kernel
theorem dX4_adds_6 : decode cX4_adds 6 = .ok (.istore_n 2, 1) := by decide +kernel
theorem dX4_adds_7 : decode cX4_adds 7 = .ok (.aload_n 0, 1) := by decide +kernel
theorem dX4_adds_8 : decode cX4_adds 8 = .ok (.getfield 7, 3) := by decide +kernel
theorem dX4_adds_11 : decode cX4_adds 11 = .ok (.iload_n 2, 1) := by decide +kernel
theorem dX4_adds_12 : decode cX4_adds 12 = .ok (.iconst 0, 1) := by decide +kernel
theorem dX4_adds_13 : decode cX4_adds 13 = .ok (.invokestatic 48, 3) := by decide +kernel
theorem dX4_adds_16 : decode cX4_adds 16 = .ok (.iload_n 1, 1) := by decide +kernel
theorem dX4_adds_17 : decode cX4_adds 17 = .ok (.iastore, 1) := by decide +kernel
theorem dX4_adds_18 : decode cX4_adds 18 = .ok (.aload_n 0, 1) := by decide +kernel
theorem dX4_adds_19 : decode cX4_adds 19 = .ok (.getfield 7, 3) := by decide +kernel
theorem dX4_adds_22 : decode cX4_adds 22 = .ok (.iload_n 2, 1) := by decide +kernel
theorem dX4_adds_23 : decode cX4_adds 23 = .ok (.iconst 1, 1) := by decide +kernel
theorem dX4_adds_24 : decode cX4_adds 24 = .ok (.invokestatic 48, 3) := by decide +kernel
theorem dX4_adds_27 : decode cX4_adds 27 = .ok (.iconst 0, 1) := by decide +kernel
theorem dX4_adds_28 : decode cX4_adds 28 = .ok (.iastore, 1) := by decide +kernel
theorem dX4_adds_29 : decode cX4_adds 29 = .ok (.aload_n 0, 1) := by decide +kernel
theorem dX4_adds_30 : decode cX4_adds 30 = .ok (.getfield 7, 3) := by decide +kernel
theorem dX4_adds_33 : decode cX4_adds 33 = .ok (.iload_n 2, 1) := by decide +kernel
theorem dX4_adds_34 : decode cX4_adds 34 = .ok (.iconst 2, 1) := by decide +kernel
theorem dX4_adds_35 : decode cX4_adds 35 = .ok (.invokestatic 48, 3) := by decide +kernel
theorem dX4_adds_38 : decode cX4_adds 38 = .ok (.iconst 0, 1) := by decide +kernel
theorem dX4_adds_39 : decode cX4_adds 39 = .ok (.iastore, 1) := by decide +kernel
theorem dX4_adds_40 : decode cX4_adds 40 = .ok (.aload_n 0, 1) := by decide +kernel
theorem dX4_adds_41 : decode cX4_adds 41 = .ok (.getfield 7, 3) := by decide +kernel
theorem dX4_adds_44 : decode cX4_adds 44 = .ok (.iload_n 2, 1) := by decide +kernel
theorem dX4_adds_45 : decode cX4_adds 45 = .ok (.iconst 3, 1) := by decide +kernel
theorem dX4_adds_46 : decode cX4_adds 46 = .ok (.invokestatic 48, 3) := by decide +kernel
theorem dX4_adds_49 : decode cX4_adds 49 = .ok (.iconst (-1), 1) := by decide +kernel
theorem dX4_adds_50 : decode cX4_adds 50 = .ok (.iastore, 1) := by decide +kernel
theorem dX4_adds_51 : decode cX4_adds 51 = .ok (.aload_n 0, 1) := by decide +kernel
theorem dX4_adds_52 : decode cX4_adds 52 = .ok (.getfield 7, 3) := by decide +kernel
theorem dX4_adds_55 : decode cX4_adds 55 = .ok (.iconst 0, 1) := by decide +kernel
theorem dX4_adds_56 : decode cX4_adds 56 = .ok (.dup2, 1) := by decide +kernel
theorem dX4_adds_57 : decode cX4_adds 57 = .ok (.iaload, 1) := by decide +kernel
theorem dX4_adds_58 : decode cX4_adds 58 = .ok (.iconst 1, 1) := by decide +kernel
theorem dX4_adds_59 : decode cX4_adds 59 = .ok (.iadd, 1) := by decide +kernel
theorem dX4_adds_60 : decode cX4_adds 60 = .ok (.iastore, 1) := by decide +kernel
theorem dX4_adds_61 : decode cX4_adds 61 = .ok (.iload_n 2, 1) := by decide +kernel
theorem dX4_adds_62 : decode cX4_adds 62 = .ok (.ireturn, 1) := by decide +kernel
theorem dX4_person_0 : decode cX4_person 0 = .ok (.iload_n 1, 1) := by decide +kernel
theorem dX4_person_1 : decode cX4_person 1 = .ok (.invokestatic 52, 3) := by decide +kernel
theorem dX4_person_4 : decode cX4_person 4 = .ok (.ifCond .ne 10, 3) := by decide +kernel
theorem dX4_person_7 : decode cX4_person 7 = .ok (.aload_n 0, 1) := by decide +kernel
theorem dX4_person_8 : decode cX4_person 8 = .ok (.ldc 41, 2) := by decide +kernel
theorem dX4_person_10 : decode cX4_person 10 = .ok (.invokevirtual 56, 3) := by decide +kernel
theorem dX4_person_13 : decode cX4_person 13 = .ok (.ireturn, 1) := by decide +kernel
theorem dX4_person_14 : decode cX4_person 14 = .ok (.aload_n 0, 1) := by decide +kernel
theorem dX4_person_15 : decode cX4_person 15 = .ok (.getfield 7, 3) := by decide +kernel
theorem dX4_person_18 : decode cX4_person 18 = .ok (.iconst 0, 1) := by decide +kernel
theorem dX4_person_19 : decode cX4_person 19 = .ok (.iaload, 1) := by decide +kernel
theorem dX4_person_20 : decode cX4_person 20 = .ok (.bipush 8, 2) := by decide +kernel
theorem dX4_person_22 : decode cX4_person 22 = .ok (.if_icmp .ne 12, 3) := by decide +kernel
theorem dX4_person_25 : decode cX4_person 25 = .ok (.aload_n 0, 1) := by decide +kernel
theorem dX4_person_26 : decode cX4_person 26 = .ok (.ldc 60, 2) := by decide +kernel
theorem dX4_person_28 : decode cX4_person 28 = .ok (.invokevirtual 56, 3) := by decide +kernel
theorem dX4_person_31 : decode cX4_person 31 = .ok (.goto 8, 3) := by decide +kernel
theorem dX4_person_34 : decode cX4_person 34 = .ok (.aload_n 0, 1) := by decide +kernel
theorem dX4_person_35 : decode cX4_person 35 = .ok (.iload_n 1, 1) := by decide +kernel
theorem dX4_person_36 : decode cX4_person 36 = .ok (.invokevirtual 61, 3) := by decide +kernel
theorem dX4_person_39 : decode cX4_person 39 = .ok (.ireturn, 1) := by decide +kernel
theorem dX4_heartOf_0 : decode cX4_heartOf 0 = .ok (.aload_n 0, 1) := by decide +kernel
theorem dX4_heartOf_1 : decode cX4_heartOf 1 = .ok (.iload_n 1, 1) := by decide +kernel
theorem dX4_heartOf_2 : decode cX4_heartOf 2 = .ok (.iconst 1, 1) := by decide +kernel
theorem dX4_heartOf_3 : decode cX4_heartOf 3 = .ok (.invokevirtual 64, 3) := by decide +kernel
theorem dX4_heartOf_6 : decode cX4_heartOf 6 = .ok (.aload_n 0, 1) := by decide +kernel
theorem dX4_heartOf_7 : decode cX4_heartOf 7 = .ok (.iload_n 1, 1) := by decide +kernel
theorem dX4_heartOf_8 : decode cX4_heartOf 8 = .ok (.iconst 2, 1) := by decide +kernel
theorem dX4_heartOf_9 : decode cX4_heartOf 9 = .ok (.invokevirtual 64, 3) := by decide +kernel
theorem dX4_heartOf_12 : decode cX4_heartOf 12 = .ok (.isub, 1) := by decide +kernel
theorem dX4_heartOf_13 : decode cX4_heartOf 13 = .ok (.istore_n 2, 1) := by decide +kernel
theorem dX4_heartOf_14 : decode cX4_heartOf 14 = .ok (.iload_n 2, 1) := by decide +kernel
theorem dX4_heartOf_15 : decode cX4_heartOf 15 = .ok (.aload_n 0, 1) := by decide +kernel
theorem dX4_heartOf_16 : decode cX4_heartOf 16 = .ok (.iload_n 1, 1) := by decide +kernel
theorem dX4_heartOf_17 : decode cX4_heartOf 17 = .ok (.iconst 2, 1) := by decide +kernel
theorem dX4_heartOf_18 : decode cX4_heartOf 18 = .ok (.invokevirtual 64, 3) := by decide +kernel
theorem dX4_heartOf_21 : decode cX4_heartOf 21 = .ok (.iconst 2, 1) := by decide +kernel
theorem dX4_heartOf_22 : decode cX4_heartOf 22 = .ok (.idiv, 1) := by decide +kernel
theorem dX4_heartOf_23 : decode cX4_heartOf 23 = .ok (.isub, 1) := by decide +kernel
theorem dX4_heartOf_24 : decode cX4_heartOf 24 = .ok (.istore_n 3, 1) := by decide +kernel
theorem dX4_heartOf_25 : decode cX4_heartOf 25 = .ok (.aload_n 0, 1) := by decide +kernel
theorem dX4_heartOf_26 : decode cX4_heartOf 26 = .ok (.iload_n 1, 1) := by decide +kernel
theorem dX4_heartOf_27 : decode cX4_heartOf 27 = .ok (.iconst 0, 1) := by decide +kernel
theorem dX4_heartOf_28 : decode cX4_heartOf 28 = .ok (.invokevirtual 64, 3) := by decide +kernel
theorem dX4_heartOf_31 : decode cX4_heartOf 31 = .ok (.tableswitch 66 1 5 #[33, 35, 39, 43, 49], 33) := by decide +kernel
theorem dX4_heartOf_64 : decode cX4_heartOf 64 = .ok (.iload_n 3, 1) := by decide +kernel
theorem dX4_heartOf_65 : decode cX4_heartOf 65 = .ok (.ireturn, 1) := by decide +kernel
theorem dX4_heartOf_66 : decode cX4_heartOf 66 = .ok (.iconst 2, 1) := by decide +kernel
theorem dX4_heartOf_67 : decode cX4_heartOf 67 = .ok (.iload_n 2, 1) := by decide +kernel
theorem dX4_heartOf_68 : decode cX4_heartOf 68 = .ok (.imul, 1) := by decide +kernel
theorem dX4_heartOf_69 : decode cX4_heartOf 69 = .ok (.ireturn, 1) := by decide +kernel
theorem dX4_heartOf_70 : decode cX4_heartOf 70 = .ok (.iload_n 2, 1) := by decide +kernel
theorem dX4_heartOf_71 : decode cX4_heartOf 71 = .ok (.iconst 2, 1) := by decide +kernel
theorem dX4_heartOf_72 : decode cX4_heartOf 72 = .ok (.idiv, 1) := by decide +kernel
theorem dX4_heartOf_73 : decode cX4_heartOf 73 = .ok (.ireturn, 1) := by decide +kernel
theorem dX4_heartOf_74 : decode cX4_heartOf 74 = .ok (.iconst 2, 1) := by decide +kernel
theorem dX4_heartOf_75 : decode cX4_heartOf 75 = .ok (.iload_n 2, 1) := by decide +kernel
theorem dX4_heartOf_76 : decode cX4_heartOf 76 = .ok (.imul, 1) := by decide +kernel
theorem dX4_heartOf_77 : decode cX4_heartOf 77 = .ok (.iconst 3, 1) := by decide +kernel
theorem dX4_heartOf_78 : decode cX4_heartOf 78 = .ok (.isub, 1) := by decide +kernel
theorem dX4_heartOf_79 : decode cX4_heartOf 79 = .ok (.ireturn, 1) := by decide +kernel
theorem dX4_heartOf_80 : decode cX4_heartOf 80 = .ok (.aload_n 0, 1) := by decide +kernel
theorem dX4_heartOf_81 : decode cX4_heartOf 81 = .ok (.getfield 7, 3) := by decide +kernel
theorem dX4_heartOf_84 : decode cX4_heartOf 84 = .ok (.iconst 1, 1) := by decide +kernel
theorem dX4_heartOf_85 : decode cX4_heartOf 85 = .ok (.iaload, 1) := by decide +kernel
theorem dX4_heartOf_86 : decode cX4_heartOf 86 = .ok (.bipush 40, 2) := by decide +kernel
theorem dX4_heartOf_88 : decode cX4_heartOf 88 = .ok (.if_icmp .lt 7, 3) := by decide +kernel
theorem dX4_heartOf_91 : decode cX4_heartOf 91 = .ok (.iconst 0, 1) := by decide +kernel
theorem dX4_heartOf_92 : decode cX4_heartOf 92 = .ok (.goto 4, 3) := by decide +kernel
theorem dX4_heartOf_95 : decode cX4_heartOf 95 = .ok (.iload_n 3, 1) := by decide +kernel
theorem dX4_heartOf_96 : decode cX4_heartOf 96 = .ok (.ireturn, 1) := by decide +kernel
theorem dX4_heartOf_97 : decode cX4_heartOf 97 = .ok (.iload_n 2, 1) := by decide +kernel
theorem dX4_heartOf_98 : decode cX4_heartOf 98 = .ok (.ireturn, 1) := by decide +kernel
theorem dX4_mixesOf_0 : decode cX4_mixesOf 0 = .ok (.aload_n 0, 1) := by decide +kernel
theorem dX4_mixesOf_1 : decode cX4_mixesOf 1 = .ok (.iload_n 1, 1) := by decide +kernel
theorem dX4_mixesOf_2 : decode cX4_mixesOf 2 = .ok (.iconst 0, 1) := by decide +kernel
theorem dX4_mixesOf_3 : decode cX4_mixesOf 3 = .ok (.invokevirtual 64, 3) := by decide +kernel
theorem dX4_mixesOf_6 : decode cX4_mixesOf 6 = .ok (.tableswitch 51 2 5 #[30, 32, 34, 36], 30) := by decide +kernel
theorem dX4_mixesOf_36 : decode cX4_mixesOf 36 = .ok (.iconst 3, 1) := by decide +kernel
theorem dX4_mixesOf_37 : decode cX4_mixesOf 37 = .ok (.ireturn, 1) := by decide +kernel
theorem dX4_mixesOf_38 : decode cX4_mixesOf 38 = .ok (.iconst 0, 1) := by decide +kernel
theorem dX4_mixesOf_39 : decode cX4_mixesOf 39 = .ok (.ireturn, 1) := by decide +kernel
theorem dX4_mixesOf_40 : decode cX4_mixesOf 40 = .ok (.iconst 2, 1) := by decide +kernel
theorem dX4_mixesOf_41 : decode cX4_mixesOf 41 = .ok (.ireturn, 1) := by decide +kernel
theorem dX4_mixesOf_42 : decode cX4_mixesOf 42 = .ok (.aload_n 0, 1) := by decide +kernel
theorem dX4_mixesOf_43 : decode cX4_mixesOf 43 = .ok (.iload_n 1, 1) := by decide +kernel
theorem dX4_mixesOf_44 : decode cX4_mixesOf 44 = .ok (.iconst 1, 1) := by decide +kernel
theorem dX4_mixesOf_45 : decode cX4_mixesOf 45 = .ok (.invokevirtual 64, 3) := by decide +kernel
theorem dX4_mixesOf_48 : decode cX4_mixesOf 48 = .ok (.ifCond .ne 7, 3) := by decide +kernel
theorem dX4_mixesOf_51 : decode cX4_mixesOf 51 = .ok (.iconst 0, 1) := by decide +kernel
theorem dX4_mixesOf_52 : decode cX4_mixesOf 52 = .ok (.goto 4, 3) := by decide +kernel
theorem dX4_mixesOf_55 : decode cX4_mixesOf 55 = .ok (.iconst 1, 1) := by decide +kernel
theorem dX4_mixesOf_56 : decode cX4_mixesOf 56 = .ok (.ireturn, 1) := by decide +kernel
theorem dX4_mixesOf_57 : decode cX4_mixesOf 57 = .ok (.iconst 1, 1) := by decide +kernel
theorem dX4_mixesOf_58 : decode cX4_mixesOf 58 = .ok (.ireturn, 1) := by decide +kernel
theorem dX4_of_0 : decode cX4_of 0 = .ok (.aload_n 0, 1) := by decide +kernel
theorem dX4_of_1 : decode cX4_of 1 = .ok (.iload_n 1, 1) := by decide +kernel
theorem dX4_of_2 : decode cX4_of 2 = .ok (.invokevirtual 67, 3) := by decide +kernel
theorem dX4_of_5 : decode cX4_of 5 = .ok (.ifCond .eq 15, 3) := by decide +kernel
theorem dX4_of_8 : decode cX4_of 8 = .ok (.iload_n 2, 1) := by decide +kernel
theorem dX4_of_9 : decode cX4_of 9 = .ok (.i2l, 1) := by decide +kernel
theorem dX4_of_10 : decode cX4_of 10 = .ok (.lconst 0, 1) := by decide +kernel
theorem dX4_of_11 : decode cX4_of 11 = .ok (.ldc2_w 70, 3) := by decide +kernel
theorem dX4_of_14 : decode cX4_of 14 = .ok (.invokestatic 42, 3) := by decide +kernel
theorem dX4_of_17 : decode cX4_of 17 = .ok (.ifCond .ne 10, 3) := by decide +kernel
theorem dX4_of_20 : decode cX4_of 20 = .ok (.aload_n 0, 1) := by decide +kernel
theorem dX4_of_21 : decode cX4_of 21 = .ok (.ldc 41, 2) := by decide +kernel
theorem dX4_of_23 : decode cX4_of 23 = .ok (.invokevirtual 56, 3) := by decide +kernel
theorem dX4_of_26 : decode cX4_of 26 = .ok (.ireturn, 1) := by decide +kernel
theorem dX4_of_27 : decode cX4_of 27 = .ok (.iload_n 2, 1) := by decide +kernel
theorem dX4_of_28 : decode cX4_of 28 = .ok (.iconst 3, 1) := by decide +kernel
theorem dX4_of_29 : decode cX4_of 29 = .ok (.if_icmp .gt 12, 3) := by decide +kernel
theorem dX4_of_32 : decode cX4_of 32 = .ok (.aload_n 0, 1) := by decide +kernel
theorem dX4_of_33 : decode cX4_of 33 = .ok (.iload_n 1, 1) := by decide +kernel
theorem dX4_of_34 : decode cX4_of 34 = .ok (.iload_n 2, 1) := by decide +kernel
theorem dX4_of_35 : decode cX4_of 35 = .ok (.invokevirtual 64, 3) := by decide +kernel
theorem dX4_of_38 : decode cX4_of 38 = .ok (.goto 8, 3) := by decide +kernel
theorem dX4_of_41 : decode cX4_of 41 = .ok (.aload_n 0, 1) := by decide +kernel
theorem dX4_of_42 : decode cX4_of 42 = .ok (.iload_n 1, 1) := by decide +kernel
theorem dX4_of_43 : decode cX4_of 43 = .ok (.invokevirtual 72, 3) := by decide +kernel
theorem dX4_of_46 : decode cX4_of 46 = .ok (.ireturn, 1) := by decide +kernel
theorem dX4_heart_0 : decode cX4_heart 0 = .ok (.aload_n 0, 1) := by decide +kernel
theorem dX4_heart_1 : decode cX4_heart 1 = .ok (.iload_n 1, 1) := by decide +kernel
theorem dX4_heart_2 : decode cX4_heart 2 = .ok (.invokevirtual 67, 3) := by decide +kernel
theorem dX4_heart_5 : decode cX4_heart 5 = .ok (.ifCond .eq 15, 3) := by decide +kernel
theorem dX4_heart_8 : decode cX4_heart 8 = .ok (.sipush 1000, 3) := by decide +kernel
theorem dX4_heart_11 : decode cX4_heart 11 = .ok (.aload_n 0, 1) := by decide +kernel
theorem dX4_heart_12 : decode cX4_heart 12 = .ok (.iload_n 1, 1) := by decide +kernel
theorem dX4_heart_13 : decode cX4_heart 13 = .ok (.invokevirtual 75, 3) := by decide +kernel
theorem dX4_heart_16 : decode cX4_heart 16 = .ok (.iadd, 1) := by decide +kernel
theorem dX4_heart_17 : decode cX4_heart 17 = .ok (.goto 9, 3) := by decide +kernel
theorem dX4_heart_20 : decode cX4_heart 20 = .ok (.aload_n 0, 1) := by decide +kernel
theorem dX4_heart_21 : decode cX4_heart 21 = .ok (.ldc 41, 2) := by decide +kernel
theorem dX4_heart_23 : decode cX4_heart 23 = .ok (.invokevirtual 56, 3) := by decide +kernel
theorem dX4_heart_26 : decode cX4_heart 26 = .ok (.ireturn, 1) := by decide +kernel
theorem dX4_set_0 : decode cX4_set 0 = .ok (.iload_n 2, 1) := by decide +kernel
theorem dX4_set_1 : decode cX4_set 1 = .ok (.iconst 3, 1) := by decide +kernel
theorem dX4_set_2 : decode cX4_set 2 = .ok (.if_icmp .ne 15, 3) := by decide +kernel
theorem dX4_set_5 : decode cX4_set 5 = .ok (.iload_n 3, 1) := by decide +kernel
theorem dX4_set_6 : decode cX4_set 6 = .ok (.i2l, 1) := by decide +kernel
theorem dX4_set_7 : decode cX4_set 7 = .ok (.ldc2_w 78, 3) := by decide +kernel
theorem dX4_set_10 : decode cX4_set 10 = .ok (.lconst 1, 1) := by decide +kernel
theorem dX4_set_11 : decode cX4_set 11 = .ok (.invokestatic 42, 3) := by decide +kernel
theorem dX4_set_14 : decode cX4_set 14 = .ok (.goto 32, 3) := by decide +kernel
theorem dX4_set_17 : decode cX4_set 17 = .ok (.iload_n 2, 1) := by decide +kernel
theorem dX4_set_18 : decode cX4_set 18 = .ok (.i2l, 1) := by decide +kernel
theorem dX4_set_19 : decode cX4_set 19 = .ok (.lconst 1, 1) := by decide +kernel
theorem dX4_set_20 : decode cX4_set 20 = .ok (.ldc2_w 80, 3) := by decide +kernel
theorem dX4_set_23 : decode cX4_set 23 = .ok (.invokestatic 42, 3) := by decide +kernel
theorem dX4_set_26 : decode cX4_set 26 = .ok (.ifCond .eq 19, 3) := by decide +kernel
theorem dX4_set_29 : decode cX4_set 29 = .ok (.iload_n 3, 1) := by decide +kernel
theorem dX4_set_30 : decode cX4_set 30 = .ok (.i2l, 1) := by decide +kernel
theorem dX4_set_31 : decode cX4_set 31 = .ok (.lconst 0, 1) := by decide +kernel
theorem dX4_set_32 : decode cX4_set 32 = .ok (.ldc2_w 82, 3) := by decide +kernel
theorem dX4_set_35 : decode cX4_set 35 = .ok (.invokestatic 42, 3) := by decide +kernel
theorem dX4_set_38 : decode cX4_set 38 = .ok (.ifCond .eq 7, 3) := by decide +kernel
theorem dX4_set_41 : decode cX4_set 41 = .ok (.iconst 1, 1) := by decide +kernel
theorem dX4_set_42 : decode cX4_set 42 = .ok (.goto 4, 3) := by decide +kernel
theorem dX4_set_45 : decode cX4_set 45 = .ok (.iconst 0, 1) := by decide +kernel
theorem dX4_set_46 : decode cX4_set 46 = .ok (.istore 4, 2) := by decide +kernel
theorem dX4_set_48 : decode cX4_set 48 = .ok (.aload_n 0, 1) := by decide +kernel
theorem dX4_set_49 : decode cX4_set 49 = .ok (.iload_n 1, 1) := by decide +kernel
theorem dX4_set_50 : decode cX4_set 50 = .ok (.invokevirtual 67, 3) := by decide +kernel
theorem dX4_set_53 : decode cX4_set 53 = .ok (.ifCond .eq 21, 3) := by decide +kernel
theorem dX4_set_56 : decode cX4_set 56 = .ok (.iload 4, 2) := by decide +kernel
theorem dX4_set_58 : decode cX4_set 58 = .ok (.ifCond .eq 16, 3) := by decide +kernel
theorem dX4_set_61 : decode cX4_set 61 = .ok (.aload_n 0, 1) := by decide +kernel
theorem dX4_set_62 : decode cX4_set 62 = .ok (.iload_n 1, 1) := by decide +kernel
theorem dX4_set_63 : decode cX4_set 63 = .ok (.iload_n 2, 1) := by decide +kernel
theorem dX4_set_64 : decode cX4_set 64 = .ok (.invokestatic 48, 3) := by decide +kernel
theorem dX4_set_67 : decode cX4_set 67 = .ok (.iload_n 3, 1) := by decide +kernel
theorem dX4_set_68 : decode cX4_set 68 = .ok (.invokevirtual 84, 3) := by decide +kernel
theorem dX4_set_71 : decode cX4_set 71 = .ok (.goto 9, 3) := by decide +kernel
theorem dX4_set_74 : decode cX4_set 74 = .ok (.aload_n 0, 1) := by decide +kernel
theorem dX4_set_75 : decode cX4_set 75 = .ok (.ldc 41, 2) := by decide +kernel
theorem dX4_set_77 : decode cX4_set 77 = .ok (.invokevirtual 56, 3) := by decide +kernel
theorem dX4_set_80 : decode cX4_set 80 = .ok (.ireturn, 1) := by decide +kernel
theorem dX4_turn_0 : decode cX4_turn 0 = .ok (.aload_n 0, 1) := by decide +kernel
theorem dX4_turn_1 : decode cX4_turn 1 = .ok (.iload_n 1, 1) := by decide +kernel
theorem dX4_turn_2 : decode cX4_turn 2 = .ok (.invokevirtual 67, 3) := by decide +kernel
theorem dX4_turn_5 : decode cX4_turn 5 = .ok (.ifCond .eq 23, 3) := by decide +kernel
theorem dX4_turn_8 : decode cX4_turn 8 = .ok (.iload_n 2, 1) := by decide +kernel
theorem dX4_turn_9 : decode cX4_turn 9 = .ok (.invokestatic 52, 3) := by decide +kernel
theorem dX4_turn_12 : decode cX4_turn 12 = .ok (.ifCond .eq 16, 3) := by decide +kernel
theorem dX4_turn_15 : decode cX4_turn 15 = .ok (.aload_n 0, 1) := by decide +kernel
theorem dX4_turn_16 : decode cX4_turn 16 = .ok (.iload_n 1, 1) := by decide +kernel
theorem dX4_turn_17 : decode cX4_turn 17 = .ok (.iconst 0, 1) := by decide +kernel
theorem dX4_turn_18 : decode cX4_turn 18 = .ok (.invokestatic 48, 3) := by decide +kernel
theorem dX4_turn_21 : decode cX4_turn 21 = .ok (.iload_n 2, 1) := by decide +kernel
theorem dX4_turn_22 : decode cX4_turn 22 = .ok (.invokevirtual 84, 3) := by decide +kernel
theorem dX4_turn_25 : decode cX4_turn 25 = .ok (.goto 9, 3) := by decide +kernel
theorem dX4_turn_28 : decode cX4_turn 28 = .ok (.aload_n 0, 1) := by decide +kernel
theorem dX4_turn_29 : decode cX4_turn 29 = .ok (.ldc 41, 2) := by decide +kernel
theorem dX4_turn_31 : decode cX4_turn 31 = .ok (.invokevirtual 56, 3) := by decide +kernel
theorem dX4_turn_34 : decode cX4_turn 34 = .ok (.ireturn, 1) := by decide +kernel
theorem dX4_isUnder_0 : decode cX4_isUnder 0 = .ok (.iload_n 1, 1) := by decide +kernel
theorem dX4_isUnder_1 : decode cX4_isUnder 1 = .ok (.ifCond .eq 28, 3) := by decide +kernel
theorem dX4_isUnder_4 : decode cX4_isUnder 4 = .ok (.iload_n 0, 1) := by decide +kernel
theorem dX4_isUnder_5 : decode cX4_isUnder 5 = .ok (.iload_n 1, 1) := by decide +kernel
theorem dX4_isUnder_6 : decode cX4_isUnder 6 = .ok (.if_icmp .eq 23, 3) := by decide +kernel
theorem dX4_isUnder_9 : decode cX4_isUnder 9 = .ok (.iload_n 0, 1) := by decide +kernel
theorem dX4_isUnder_10 : decode cX4_isUnder 10 = .ok (.iconst 4, 1) := by decide +kernel
theorem dX4_isUnder_11 : decode cX4_isUnder 11 = .ok (.if_icmp .ne 8, 3) := by decide +kernel
theorem dX4_isUnder_14 : decode cX4_isUnder 14 = .ok (.iload_n 1, 1) := by decide +kernel
theorem dX4_isUnder_15 : decode cX4_isUnder 15 = .ok (.iconst 2, 1) := by decide +kernel
theorem dX4_isUnder_16 : decode cX4_isUnder 16 = .ok (.if_icmp .eq 13, 3) := by decide +kernel
theorem dX4_isUnder_19 : decode cX4_isUnder 19 = .ok (.iload_n 0, 1) := by decide +kernel
theorem dX4_isUnder_20 : decode cX4_isUnder 20 = .ok (.iconst 5, 1) := by decide +kernel
theorem dX4_isUnder_21 : decode cX4_isUnder 21 = .ok (.if_icmp .ne 12, 3) := by decide +kernel
theorem dX4_isUnder_24 : decode cX4_isUnder 24 = .ok (.iload_n 1, 1) := by decide +kernel
theorem dX4_isUnder_25 : decode cX4_isUnder 25 = .ok (.iconst 1, 1) := by decide +kernel
theorem dX4_isUnder_26 : decode cX4_isUnder 26 = .ok (.if_icmp .ne 7, 3) := by decide +kernel
theorem dX4_isUnder_29 : decode cX4_isUnder 29 = .ok (.iconst 1, 1) := by decide +kernel
theorem dX4_isUnder_30 : decode cX4_isUnder 30 = .ok (.goto 4, 3) := by decide +kernel
theorem dX4_isUnder_33 : decode cX4_isUnder 33 = .ok (.iconst 0, 1) := by decide +kernel
theorem dX4_isUnder_34 : decode cX4_isUnder 34 = .ok (.ireturn, 1) := by decide +kernel
theorem dX4_as_0 : decode cX4_as 0 = .ok (.aload_n 0, 1) := by decide +kernel
theorem dX4_as_1 : decode cX4_as 1 = .ok (.iload_n 1, 1) := by decide +kernel
theorem dX4_as_2 : decode cX4_as 2 = .ok (.invokevirtual 67, 3) := by decide +kernel
theorem dX4_as_5 : decode cX4_as 5 = .ok (.ifCond .eq 10, 3) := by decide +kernel
theorem dX4_as_8 : decode cX4_as 8 = .ok (.iload_n 2, 1) := by decide +kernel
theorem dX4_as_9 : decode cX4_as 9 = .ok (.invokestatic 52, 3) := by decide +kernel
theorem dX4_as_12 : decode cX4_as 12 = .ok (.ifCond .ne 10, 3) := by decide +kernel
theorem dX4_as_15 : decode cX4_as 15 = .ok (.aload_n 0, 1) := by decide +kernel
theorem dX4_as_16 : decode cX4_as 16 = .ok (.ldc 41, 2) := by decide +kernel
theorem dX4_as_18 : decode cX4_as 18 = .ok (.invokevirtual 56, 3) := by decide +kernel
theorem dX4_as_21 : decode cX4_as 21 = .ok (.ireturn, 1) := by decide +kernel
theorem dX4_as_22 : decode cX4_as 22 = .ok (.aload_n 0, 1) := by decide +kernel
theorem dX4_as_23 : decode cX4_as 23 = .ok (.iload_n 1, 1) := by decide +kernel
theorem dX4_as_24 : decode cX4_as 24 = .ok (.iconst 0, 1) := by decide +kernel
theorem dX4_as_25 : decode cX4_as 25 = .ok (.invokevirtual 64, 3) := by decide +kernel
theorem dX4_as_28 : decode cX4_as 28 = .ok (.iload_n 2, 1) := by decide +kernel
theorem dX4_as_29 : decode cX4_as 29 = .ok (.invokestatic 87, 3) := by decide +kernel
theorem dX4_as_32 : decode cX4_as 32 = .ok (.ifCond .eq 12, 3) := by decide +kernel
theorem dX4_as_35 : decode cX4_as 35 = .ok (.aload_n 0, 1) := by decide +kernel
theorem dX4_as_36 : decode cX4_as 36 = .ok (.iload_n 1, 1) := by decide +kernel
theorem dX4_as_37 : decode cX4_as 37 = .ok (.iconst 1, 1) := by decide +kernel
theorem dX4_as_38 : decode cX4_as 38 = .ok (.invokevirtual 64, 3) := by decide +kernel
theorem dX4_as_41 : decode cX4_as 41 = .ok (.goto 9, 3) := by decide +kernel
theorem dX4_as_44 : decode cX4_as 44 = .ok (.aload_n 0, 1) := by decide +kernel
theorem dX4_as_45 : decode cX4_as 45 = .ok (.ldc 91, 2) := by decide +kernel
theorem dX4_as_47 : decode cX4_as 47 = .ok (.invokevirtual 56, 3) := by decide +kernel
theorem dX4_as_50 : decode cX4_as 50 = .ok (.ireturn, 1) := by decide +kernel
theorem dX4_hears_0 : decode cX4_hears 0 = .ok (.aload_n 0, 1) := by decide +kernel
theorem dX4_hears_1 : decode cX4_hears 1 = .ok (.getfield 7, 3) := by decide +kernel
theorem dX4_hears_4 : decode cX4_hears 4 = .ok (.iload_n 1, 1) := by decide +kernel
theorem dX4_hears_5 : decode cX4_hears 5 = .ok (.iconst 1, 1) := by decide +kernel
theorem dX4_hears_6 : decode cX4_hears 6 = .ok (.invokestatic 48, 3) := by decide +kernel
theorem dX4_hears_9 : decode cX4_hears 9 = .ok (.aload_n 0, 1) := by decide +kernel
theorem dX4_hears_10 : decode cX4_hears 10 = .ok (.iload_n 1, 1) := by decide +kernel
theorem dX4_hears_11 : decode cX4_hears 11 = .ok (.iconst 1, 1) := by decide +kernel
theorem dX4_hears_12 : decode cX4_hears 12 = .ok (.invokevirtual 64, 3) := by decide +kernel
theorem dX4_hears_15 : decode cX4_hears 15 = .ok (.iload_n 2, 1) := by decide +kernel
theorem dX4_hears_16 : decode cX4_hears 16 = .ok (.iadd, 1) := by decide +kernel
theorem dX4_hears_17 : decode cX4_hears 17 = .ok (.invokestatic 92, 3) := by decide +kernel
theorem dX4_hears_20 : decode cX4_hears 20 = .ok (.iastore, 1) := by decide +kernel
theorem dX4_hears_21 : decode cX4_hears 21 = .ok (.aload_n 0, 1) := by decide +kernel
theorem dX4_hears_22 : decode cX4_hears 22 = .ok (.getfield 7, 3) := by decide +kernel
theorem dX4_hears_25 : decode cX4_hears 25 = .ok (.iload_n 1, 1) := by decide +kernel
theorem dX4_hears_26 : decode cX4_hears 26 = .ok (.iconst 2, 1) := by decide +kernel
theorem dX4_hears_27 : decode cX4_hears 27 = .ok (.invokestatic 48, 3) := by decide +kernel
theorem dX4_hears_30 : decode cX4_hears 30 = .ok (.aload_n 0, 1) := by decide +kernel
theorem dX4_hears_31 : decode cX4_hears 31 = .ok (.iload_n 1, 1) := by decide +kernel
theorem dX4_hears_32 : decode cX4_hears 32 = .ok (.iconst 2, 1) := by decide +kernel
theorem dX4_hears_33 : decode cX4_hears 33 = .ok (.invokevirtual 64, 3) := by decide +kernel
theorem dX4_hears_36 : decode cX4_hears 36 = .ok (.iload_n 3, 1) := by decide +kernel
theorem dX4_hears_37 : decode cX4_hears 37 = .ok (.iadd, 1) := by decide +kernel
theorem dX4_hears_38 : decode cX4_hears 38 = .ok (.invokestatic 92, 3) := by decide +kernel
theorem dX4_hears_41 : decode cX4_hears 41 = .ok (.iastore, 1) := by decide +kernel
theorem dX4_hears_42 : decode cX4_hears 42 = .ok (.return_, 1) := by decide +kernel
theorem dX4_news_0 : decode cX4_news 0 = .ok (.aload_n 0, 1) := by decide +kernel
theorem dX4_news_1 : decode cX4_news 1 = .ok (.iload_n 1, 1) := by decide +kernel
theorem dX4_news_2 : decode cX4_news 2 = .ok (.invokevirtual 67, 3) := by decide +kernel
theorem dX4_news_5 : decode cX4_news 5 = .ok (.ifCond .eq 27, 3) := by decide +kernel
theorem dX4_news_8 : decode cX4_news 8 = .ok (.iload_n 2, 1) := by decide +kernel
theorem dX4_news_9 : decode cX4_news 9 = .ok (.i2l, 1) := by decide +kernel
theorem dX4_news_10 : decode cX4_news 10 = .ok (.lconst 0, 1) := by decide +kernel
theorem dX4_news_11 : decode cX4_news 11 = .ok (.ldc2_w 82, 3) := by decide +kernel
theorem dX4_news_14 : decode cX4_news 14 = .ok (.invokestatic 42, 3) := by decide +kernel
theorem dX4_news_17 : decode cX4_news 17 = .ok (.ifCond .eq 15, 3) := by decide +kernel
theorem dX4_news_20 : decode cX4_news 20 = .ok (.iload_n 3, 1) := by decide +kernel
theorem dX4_news_21 : decode cX4_news 21 = .ok (.i2l, 1) := by decide +kernel
theorem dX4_news_22 : decode cX4_news 22 = .ok (.lconst 0, 1) := by decide +kernel
theorem dX4_news_23 : decode cX4_news 23 = .ok (.ldc2_w 82, 3) := by decide +kernel
theorem dX4_news_26 : decode cX4_news 26 = .ok (.invokestatic 42, 3) := by decide +kernel
theorem dX4_news_29 : decode cX4_news 29 = .ok (.ifCond .ne 10, 3) := by decide +kernel
theorem dX4_news_32 : decode cX4_news 32 = .ok (.aload_n 0, 1) := by decide +kernel
theorem dX4_news_33 : decode cX4_news 33 = .ok (.ldc 41, 2) := by decide +kernel
theorem dX4_news_35 : decode cX4_news 35 = .ok (.invokevirtual 56, 3) := by decide +kernel
theorem dX4_news_38 : decode cX4_news 38 = .ok (.ireturn, 1) := by decide +kernel
theorem dX4_news_39 : decode cX4_news 39 = .ok (.aload_n 0, 1) := by decide +kernel
theorem dX4_news_40 : decode cX4_news 40 = .ok (.iload_n 1, 1) := by decide +kernel
theorem dX4_news_41 : decode cX4_news 41 = .ok (.iload_n 2, 1) := by decide +kernel
theorem dX4_news_42 : decode cX4_news 42 = .ok (.iload_n 3, 1) := by decide +kernel
theorem dX4_news_43 : decode cX4_news 43 = .ok (.invokevirtual 95, 3) := by decide +kernel
theorem dX4_news_46 : decode cX4_news 46 = .ok (.sipush 1000, 3) := by decide +kernel
theorem dX4_news_49 : decode cX4_news 49 = .ok (.aload_n 0, 1) := by decide +kernel
theorem dX4_news_50 : decode cX4_news 50 = .ok (.iload_n 1, 1) := by decide +kernel
theorem dX4_news_51 : decode cX4_news 51 = .ok (.invokevirtual 75, 3) := by decide +kernel
theorem dX4_news_54 : decode cX4_news 54 = .ok (.iadd, 1) := by decide +kernel
theorem dX4_news_55 : decode cX4_news 55 = .ok (.ireturn, 1) := by decide +kernel
theorem dX4_thoseAt_0 : decode cX4_thoseAt 0 = .ok (.iconst 0, 1) := by decide +kernel
theorem dX4_thoseAt_1 : decode cX4_thoseAt 1 = .ok (.istore_n 2, 1) := by decide +kernel
theorem dX4_thoseAt_2 : decode cX4_thoseAt 2 = .ok (.iconst 0, 1) := by decide +kernel
theorem dX4_thoseAt_3 : decode cX4_thoseAt 3 = .ok (.istore_n 3, 1) := by decide +kernel
theorem dX4_thoseAt_4 : decode cX4_thoseAt 4 = .ok (.iload_n 3, 1) := by decide +kernel
theorem dX4_thoseAt_5 : decode cX4_thoseAt 5 = .ok (.aload_n 0, 1) := by decide +kernel
theorem dX4_thoseAt_6 : decode cX4_thoseAt 6 = .ok (.getfield 7, 3) := by decide +kernel
theorem dX4_thoseAt_9 : decode cX4_thoseAt 9 = .ok (.iconst 0, 1) := by decide +kernel
theorem dX4_thoseAt_10 : decode cX4_thoseAt 10 = .ok (.iaload, 1) := by decide +kernel
theorem dX4_thoseAt_11 : decode cX4_thoseAt 11 = .ok (.if_icmp .ge 29, 3) := by decide +kernel
theorem dX4_thoseAt_14 : decode cX4_thoseAt 14 = .ok (.iload_n 2, 1) := by decide +kernel
theorem dX4_thoseAt_15 : decode cX4_thoseAt 15 = .ok (.aload_n 0, 1) := by decide +kernel
theorem dX4_thoseAt_16 : decode cX4_thoseAt 16 = .ok (.iload_n 3, 1) := by decide +kernel
theorem dX4_thoseAt_17 : decode cX4_thoseAt 17 = .ok (.iconst 3, 1) := by decide +kernel
theorem dX4_thoseAt_18 : decode cX4_thoseAt 18 = .ok (.invokevirtual 64, 3) := by decide +kernel
theorem dX4_thoseAt_21 : decode cX4_thoseAt 21 = .ok (.iload_n 1, 1) := by decide +kernel
theorem dX4_thoseAt_22 : decode cX4_thoseAt 22 = .ok (.if_icmp .ne 9, 3) := by decide +kernel
theorem dX4_thoseAt_25 : decode cX4_thoseAt 25 = .ok (.iconst 1, 1) := by decide +kernel
theorem dX4_thoseAt_26 : decode cX4_thoseAt 26 = .ok (.iload_n 3, 1) := by decide +kernel
theorem dX4_thoseAt_27 : decode cX4_thoseAt 27 = .ok (.ishl, 1) := by decide +kernel
theorem dX4_thoseAt_28 : decode cX4_thoseAt 28 = .ok (.goto 4, 3) := by decide +kernel
theorem dX4_thoseAt_31 : decode cX4_thoseAt 31 = .ok (.iconst 0, 1) := by decide +kernel
theorem dX4_thoseAt_32 : decode cX4_thoseAt 32 = .ok (.ior, 1) := by decide +kernel
theorem dX4_thoseAt_33 : decode cX4_thoseAt 33 = .ok (.istore_n 2, 1) := by decide +kernel
theorem dX4_thoseAt_34 : decode cX4_thoseAt 34 = .ok (.iinc 3 1, 3) := by decide +kernel
theorem dX4_thoseAt_37 : decode cX4_thoseAt 37 = .ok (.goto (-33), 3) := by decide +kernel
theorem dX4_thoseAt_40 : decode cX4_thoseAt 40 = .ok (.iload_n 2, 1) := by decide +kernel
theorem dX4_thoseAt_41 : decode cX4_thoseAt 41 = .ok (.ireturn, 1) := by decide +kernel
theorem dX4_loadOf_0 : decode cX4_loadOf 0 = .ok (.bipush (-2), 2) := by decide +kernel
theorem dX4_loadOf_2 : decode cX4_loadOf 2 = .ok (.aload_n 0, 1) := by decide +kernel
theorem dX4_loadOf_3 : decode cX4_loadOf 3 = .ok (.getfield 7, 3) := by decide +kernel
theorem dX4_loadOf_6 : decode cX4_loadOf 6 = .ok (.iconst 3, 1) := by decide +kernel
theorem dX4_loadOf_7 : decode cX4_loadOf 7 = .ok (.iload_n 1, 1) := by decide +kernel
theorem dX4_loadOf_8 : decode cX4_loadOf 8 = .ok (.iadd, 1) := by decide +kernel
theorem dX4_loadOf_9 : decode cX4_loadOf 9 = .ok (.iaload, 1) := by decide +kernel
theorem dX4_loadOf_10 : decode cX4_loadOf 10 = .ok (.imul, 1) := by decide +kernel
theorem dX4_loadOf_11 : decode cX4_loadOf 11 = .ok (.istore_n 2, 1) := by decide +kernel
theorem dX4_loadOf_12 : decode cX4_loadOf 12 = .ok (.iconst 0, 1) := by decide +kernel
theorem dX4_loadOf_13 : decode cX4_loadOf 13 = .ok (.istore_n 3, 1) := by decide +kernel
theorem dX4_loadOf_14 : decode cX4_loadOf 14 = .ok (.iload_n 3, 1) := by decide +kernel
theorem dX4_loadOf_15 : decode cX4_loadOf 15 = .ok (.aload_n 0, 1) := by decide +kernel
theorem dX4_loadOf_16 : decode cX4_loadOf 16 = .ok (.getfield 7, 3) := by decide +kernel
theorem dX4_loadOf_19 : decode cX4_loadOf 19 = .ok (.iconst 0, 1) := by decide +kernel
theorem dX4_loadOf_20 : decode cX4_loadOf 20 = .ok (.iaload, 1) := by decide +kernel
theorem dX4_loadOf_21 : decode cX4_loadOf 21 = .ok (.if_icmp .ge 31, 3) := by decide +kernel
theorem dX4_loadOf_24 : decode cX4_loadOf 24 = .ok (.iload_n 2, 1) := by decide +kernel
theorem dX4_loadOf_25 : decode cX4_loadOf 25 = .ok (.aload_n 0, 1) := by decide +kernel
theorem dX4_loadOf_26 : decode cX4_loadOf 26 = .ok (.iload_n 3, 1) := by decide +kernel
theorem dX4_loadOf_27 : decode cX4_loadOf 27 = .ok (.iconst 3, 1) := by decide +kernel
theorem dX4_loadOf_28 : decode cX4_loadOf 28 = .ok (.invokevirtual 64, 3) := by decide +kernel
theorem dX4_loadOf_31 : decode cX4_loadOf 31 = .ok (.iload_n 1, 1) := by decide +kernel
theorem dX4_loadOf_32 : decode cX4_loadOf 32 = .ok (.if_icmp .ne 11, 3) := by decide +kernel
theorem dX4_loadOf_35 : decode cX4_loadOf 35 = .ok (.aload_n 0, 1) := by decide +kernel
theorem dX4_loadOf_36 : decode cX4_loadOf 36 = .ok (.iload_n 3, 1) := by decide +kernel
theorem dX4_loadOf_37 : decode cX4_loadOf 37 = .ok (.invokevirtual 75, 3) := by decide +kernel
theorem dX4_loadOf_40 : decode cX4_loadOf 40 = .ok (.goto 4, 3) := by decide +kernel
theorem dX4_loadOf_43 : decode cX4_loadOf 43 = .ok (.iconst 0, 1) := by decide +kernel
theorem dX4_loadOf_44 : decode cX4_loadOf 44 = .ok (.iadd, 1) := by decide +kernel
theorem dX4_loadOf_45 : decode cX4_loadOf 45 = .ok (.istore_n 2, 1) := by decide +kernel
theorem dX4_loadOf_46 : decode cX4_loadOf 46 = .ok (.iinc 3 1, 3) := by decide +kernel
theorem dX4_loadOf_49 : decode cX4_loadOf 49 = .ok (.goto (-35), 3) := by decide +kernel
theorem dX4_loadOf_52 : decode cX4_loadOf 52 = .ok (.iload_n 2, 1) := by decide +kernel
theorem dX4_loadOf_53 : decode cX4_loadOf 53 = .ok (.ireturn, 1) := by decide +kernel
theorem dX4_load_0 : decode cX4_load 0 = .ok (.iload_n 1, 1) := by decide +kernel
theorem dX4_load_1 : decode cX4_load 1 = .ok (.invokestatic 99, 3) := by decide +kernel
theorem dX4_load_4 : decode cX4_load 4 = .ok (.ifCond .eq 15, 3) := by decide +kernel
theorem dX4_load_7 : decode cX4_load 7 = .ok (.sipush 1000, 3) := by decide +kernel
theorem dX4_load_10 : decode cX4_load 10 = .ok (.aload_n 0, 1) := by decide +kernel
theorem dX4_load_11 : decode cX4_load 11 = .ok (.iload_n 1, 1) := by decide +kernel
theorem dX4_load_12 : decode cX4_load 12 = .ok (.invokevirtual 102, 3) := by decide +kernel
theorem dX4_load_15 : decode cX4_load 15 = .ok (.iadd, 1) := by decide +kernel
theorem dX4_load_16 : decode cX4_load 16 = .ok (.goto 9, 3) := by decide +kernel
theorem dX4_load_19 : decode cX4_load 19 = .ok (.aload_n 0, 1) := by decide +kernel
theorem dX4_load_20 : decode cX4_load 20 = .ok (.ldc 41, 2) := by decide +kernel
theorem dX4_load_22 : decode cX4_load 22 = .ok (.invokevirtual 56, 3) := by decide +kernel
theorem dX4_load_25 : decode cX4_load 25 = .ok (.ireturn, 1) := by decide +kernel
theorem dX4_at_0 : decode cX4_at 0 = .ok (.iload_n 1, 1) := by decide +kernel
theorem dX4_at_1 : decode cX4_at 1 = .ok (.invokestatic 99, 3) := by decide +kernel
theorem dX4_at_4 : decode cX4_at 4 = .ok (.ifCond .eq 11, 3) := by decide +kernel
theorem dX4_at_7 : decode cX4_at 7 = .ok (.aload_n 0, 1) := by decide +kernel
theorem dX4_at_8 : decode cX4_at 8 = .ok (.iload_n 1, 1) := by decide +kernel
theorem dX4_at_9 : decode cX4_at 9 = .ok (.invokevirtual 105, 3) := by decide +kernel
theorem dX4_at_12 : decode cX4_at 12 = .ok (.goto 9, 3) := by decide +kernel
theorem dX4_at_15 : decode cX4_at 15 = .ok (.aload_n 0, 1) := by decide +kernel
theorem dX4_at_16 : decode cX4_at 16 = .ok (.ldc 41, 2) := by decide +kernel
theorem dX4_at_18 : decode cX4_at 18 = .ok (.invokevirtual 56, 3) := by decide +kernel
theorem dX4_at_21 : decode cX4_at 21 = .ok (.ireturn, 1) := by decide +kernel
theorem dX4_hang_0 : decode cX4_hang 0 = .ok (.iload_n 1, 1) := by decide +kernel
theorem dX4_hang_1 : decode cX4_hang 1 = .ok (.invokestatic 99, 3) := by decide +kernel
theorem dX4_hang_4 : decode cX4_hang 4 = .ok (.ifCond .ne 10, 3) := by decide +kernel
theorem dX4_hang_7 : decode cX4_hang 7 = .ok (.aload_n 0, 1) := by decide +kernel
theorem dX4_hang_8 : decode cX4_hang 8 = .ok (.ldc 41, 2) := by decide +kernel
theorem dX4_hang_10 : decode cX4_hang 10 = .ok (.invokevirtual 56, 3) := by decide +kernel
theorem dX4_hang_13 : decode cX4_hang 13 = .ok (.ireturn, 1) := by decide +kernel
theorem dX4_hang_14 : decode cX4_hang 14 = .ok (.aload_n 0, 1) := by decide +kernel
theorem dX4_hang_15 : decode cX4_hang 15 = .ok (.getfield 7, 3) := by decide +kernel
theorem dX4_hang_18 : decode cX4_hang 18 = .ok (.iconst 2, 1) := by decide +kernel
theorem dX4_hang_19 : decode cX4_hang 19 = .ok (.iaload, 1) := by decide +kernel
theorem dX4_hang_20 : decode cX4_hang 20 = .ok (.ifCond .ne 10, 3) := by decide +kernel
theorem dX4_hang_23 : decode cX4_hang 23 = .ok (.aload_n 0, 1) := by decide +kernel
theorem dX4_hang_24 : decode cX4_hang 24 = .ok (.ldc 108, 2) := by decide +kernel
theorem dX4_hang_26 : decode cX4_hang 26 = .ok (.invokevirtual 56, 3) := by decide +kernel
theorem dX4_hang_29 : decode cX4_hang 29 = .ok (.ireturn, 1) := by decide +kernel
theorem dX4_hang_30 : decode cX4_hang 30 = .ok (.aload_n 0, 1) := by decide +kernel
theorem dX4_hang_31 : decode cX4_hang 31 = .ok (.getfield 7, 3) := by decide +kernel
theorem dX4_hang_34 : decode cX4_hang 34 = .ok (.iconst 2, 1) := by decide +kernel
theorem dX4_hang_35 : decode cX4_hang 35 = .ok (.dup2, 1) := by decide +kernel
theorem dX4_hang_36 : decode cX4_hang 36 = .ok (.iaload, 1) := by decide +kernel
theorem dX4_hang_37 : decode cX4_hang 37 = .ok (.iconst 1, 1) := by decide +kernel
theorem dX4_hang_38 : decode cX4_hang 38 = .ok (.isub, 1) := by decide +kernel
theorem dX4_hang_39 : decode cX4_hang 39 = .ok (.iastore, 1) := by decide +kernel
theorem dX4_hang_40 : decode cX4_hang 40 = .ok (.aload_n 0, 1) := by decide +kernel
theorem dX4_hang_41 : decode cX4_hang 41 = .ok (.getfield 7, 3) := by decide +kernel
theorem dX4_hang_44 : decode cX4_hang 44 = .ok (.iconst 3, 1) := by decide +kernel
theorem dX4_hang_45 : decode cX4_hang 45 = .ok (.iload_n 1, 1) := by decide +kernel
theorem dX4_hang_46 : decode cX4_hang 46 = .ok (.iadd, 1) := by decide +kernel
theorem dX4_hang_47 : decode cX4_hang 47 = .ok (.dup2, 1) := by decide +kernel
theorem dX4_hang_48 : decode cX4_hang 48 = .ok (.iaload, 1) := by decide +kernel
theorem dX4_hang_49 : decode cX4_hang 49 = .ok (.iconst 1, 1) := by decide +kernel
theorem dX4_hang_50 : decode cX4_hang 50 = .ok (.iadd, 1) := by decide +kernel
theorem dX4_hang_51 : decode cX4_hang 51 = .ok (.iastore, 1) := by decide +kernel
theorem dX4_hang_52 : decode cX4_hang 52 = .ok (.aload_n 0, 1) := by decide +kernel
theorem dX4_hang_53 : decode cX4_hang 53 = .ok (.getfield 7, 3) := by decide +kernel
theorem dX4_hang_56 : decode cX4_hang 56 = .ok (.iconst 3, 1) := by decide +kernel
theorem dX4_hang_57 : decode cX4_hang 57 = .ok (.iload_n 1, 1) := by decide +kernel
theorem dX4_hang_58 : decode cX4_hang 58 = .ok (.iadd, 1) := by decide +kernel
theorem dX4_hang_59 : decode cX4_hang 59 = .ok (.iaload, 1) := by decide +kernel
theorem dX4_hang_60 : decode cX4_hang 60 = .ok (.ireturn, 1) := by decide +kernel
theorem dX4_take_0 : decode cX4_take 0 = .ok (.iload_n 1, 1) := by decide +kernel
theorem dX4_take_1 : decode cX4_take 1 = .ok (.invokestatic 99, 3) := by decide +kernel
theorem dX4_take_4 : decode cX4_take 4 = .ok (.ifCond .ne 10, 3) := by decide +kernel
theorem dX4_take_7 : decode cX4_take 7 = .ok (.aload_n 0, 1) := by decide +kernel
theorem dX4_take_8 : decode cX4_take 8 = .ok (.ldc 41, 2) := by decide +kernel
theorem dX4_take_10 : decode cX4_take 10 = .ok (.invokevirtual 56, 3) := by decide +kernel
theorem dX4_take_13 : decode cX4_take 13 = .ok (.ireturn, 1) := by decide +kernel
theorem dX4_take_14 : decode cX4_take 14 = .ok (.aload_n 0, 1) := by decide +kernel
theorem dX4_take_15 : decode cX4_take 15 = .ok (.getfield 7, 3) := by decide +kernel
theorem dX4_take_18 : decode cX4_take 18 = .ok (.iconst 3, 1) := by decide +kernel
theorem dX4_take_19 : decode cX4_take 19 = .ok (.iload_n 1, 1) := by decide +kernel
theorem dX4_take_20 : decode cX4_take 20 = .ok (.iadd, 1) := by decide +kernel
theorem dX4_take_21 : decode cX4_take 21 = .ok (.iaload, 1) := by decide +kernel
theorem dX4_take_22 : decode cX4_take 22 = .ok (.ifCond .ne 10, 3) := by decide +kernel
theorem dX4_take_25 : decode cX4_take 25 = .ok (.aload_n 0, 1) := by decide +kernel
theorem dX4_take_26 : decode cX4_take 26 = .ok (.ldc 108, 2) := by decide +kernel
theorem dX4_take_28 : decode cX4_take 28 = .ok (.invokevirtual 56, 3) := by decide +kernel
theorem dX4_take_31 : decode cX4_take 31 = .ok (.ireturn, 1) := by decide +kernel
theorem dX4_take_32 : decode cX4_take 32 = .ok (.aload_n 0, 1) := by decide +kernel
theorem dX4_take_33 : decode cX4_take 33 = .ok (.getfield 7, 3) := by decide +kernel
theorem dX4_take_36 : decode cX4_take 36 = .ok (.iconst 2, 1) := by decide +kernel
theorem dX4_take_37 : decode cX4_take 37 = .ok (.iaload, 1) := by decide +kernel
theorem dX4_take_38 : decode cX4_take 38 = .ok (.bipush 20, 2) := by decide +kernel
theorem dX4_take_40 : decode cX4_take 40 = .ok (.if_icmp .ne 10, 3) := by decide +kernel
theorem dX4_take_43 : decode cX4_take 43 = .ok (.aload_n 0, 1) := by decide +kernel
theorem dX4_take_44 : decode cX4_take 44 = .ok (.ldc 60, 2) := by decide +kernel
theorem dX4_take_46 : decode cX4_take 46 = .ok (.invokevirtual 56, 3) := by decide +kernel
theorem dX4_take_49 : decode cX4_take 49 = .ok (.ireturn, 1) := by decide +kernel
theorem dX4_take_50 : decode cX4_take 50 = .ok (.aload_n 0, 1) := by decide +kernel
theorem dX4_take_51 : decode cX4_take 51 = .ok (.getfield 7, 3) := by decide +kernel
theorem dX4_take_54 : decode cX4_take 54 = .ok (.iconst 2, 1) := by decide +kernel
theorem dX4_take_55 : decode cX4_take 55 = .ok (.dup2, 1) := by decide +kernel
theorem dX4_take_56 : decode cX4_take 56 = .ok (.iaload, 1) := by decide +kernel
theorem dX4_take_57 : decode cX4_take 57 = .ok (.iconst 1, 1) := by decide +kernel
theorem dX4_take_58 : decode cX4_take 58 = .ok (.iadd, 1) := by decide +kernel
theorem dX4_take_59 : decode cX4_take 59 = .ok (.iastore, 1) := by decide +kernel
theorem dX4_take_60 : decode cX4_take 60 = .ok (.aload_n 0, 1) := by decide +kernel
theorem dX4_take_61 : decode cX4_take 61 = .ok (.getfield 7, 3) := by decide +kernel
theorem dX4_take_64 : decode cX4_take 64 = .ok (.iconst 3, 1) := by decide +kernel
theorem dX4_take_65 : decode cX4_take 65 = .ok (.iload_n 1, 1) := by decide +kernel
theorem dX4_take_66 : decode cX4_take 66 = .ok (.iadd, 1) := by decide +kernel
theorem dX4_take_67 : decode cX4_take 67 = .ok (.dup2, 1) := by decide +kernel
theorem dX4_take_68 : decode cX4_take 68 = .ok (.iaload, 1) := by decide +kernel
theorem dX4_take_69 : decode cX4_take 69 = .ok (.iconst 1, 1) := by decide +kernel
theorem dX4_take_70 : decode cX4_take 70 = .ok (.isub, 1) := by decide +kernel
theorem dX4_take_71 : decode cX4_take 71 = .ok (.iastore, 1) := by decide +kernel
theorem dX4_take_72 : decode cX4_take 72 = .ok (.aload_n 0, 1) := by decide +kernel
theorem dX4_take_73 : decode cX4_take 73 = .ok (.getfield 7, 3) := by decide +kernel
theorem dX4_take_76 : decode cX4_take 76 = .ok (.iconst 3, 1) := by decide +kernel
theorem dX4_take_77 : decode cX4_take 77 = .ok (.iload_n 1, 1) := by decide +kernel
theorem dX4_take_78 : decode cX4_take 78 = .ok (.iadd, 1) := by decide +kernel
theorem dX4_take_79 : decode cX4_take 79 = .ok (.iaload, 1) := by decide +kernel
theorem dX4_take_80 : decode cX4_take 80 = .ok (.ireturn, 1) := by decide +kernel
theorem dX4_bag_0 : decode cX4_bag 0 = .ok (.iload_n 1, 1) := by decide +kernel
theorem dX4_bag_1 : decode cX4_bag 1 = .ok (.i2l, 1) := by decide +kernel
theorem dX4_bag_2 : decode cX4_bag 2 = .ok (.lconst 0, 1) := by decide +kernel
theorem dX4_bag_3 : decode cX4_bag 3 = .ok (.ldc2_w 109, 3) := by decide +kernel
theorem dX4_bag_6 : decode cX4_bag 6 = .ok (.invokestatic 42, 3) := by decide +kernel
theorem dX4_bag_9 : decode cX4_bag 9 = .ok (.ifCond .eq 12, 3) := by decide +kernel
theorem dX4_bag_12 : decode cX4_bag 12 = .ok (.aload_n 0, 1) := by decide +kernel
theorem dX4_bag_13 : decode cX4_bag 13 = .ok (.iconst 2, 1) := by decide +kernel
theorem dX4_bag_14 : decode cX4_bag 14 = .ok (.iload_n 1, 1) := by decide +kernel
theorem dX4_bag_15 : decode cX4_bag 15 = .ok (.invokevirtual 84, 3) := by decide +kernel
theorem dX4_bag_18 : decode cX4_bag 18 = .ok (.goto 9, 3) := by decide +kernel
theorem dX4_bag_21 : decode cX4_bag 21 = .ok (.aload_n 0, 1) := by decide +kernel
theorem dX4_bag_22 : decode cX4_bag 22 = .ok (.ldc 41, 2) := by decide +kernel
theorem dX4_bag_24 : decode cX4_bag 24 = .ok (.invokevirtual 56, 3) := by decide +kernel
theorem dX4_bag_27 : decode cX4_bag 27 = .ok (.ireturn, 1) := by decide +kernel
theorem dX4_isHanging_0 : decode cX4_isHanging 0 = .ok (.aload_n 0, 1) := by decide +kernel
theorem dX4_isHanging_1 : decode cX4_isHanging 1 = .ok (.iconst 0, 1) := by decide +kernel
theorem dX4_isHanging_2 : decode cX4_isHanging 2 = .ok (.invokevirtual 105, 3) := by decide +kernel
theorem dX4_isHanging_5 : decode cX4_isHanging 5 = .ok (.ifCond .eq 15, 3) := by decide +kernel
theorem dX4_isHanging_8 : decode cX4_isHanging 8 = .ok (.aload_n 0, 1) := by decide +kernel
theorem dX4_isHanging_9 : decode cX4_isHanging 9 = .ok (.iconst 1, 1) := by decide +kernel
theorem dX4_isHanging_10 : decode cX4_isHanging 10 = .ok (.invokevirtual 105, 3) := by decide +kernel
theorem dX4_isHanging_13 : decode cX4_isHanging 13 = .ok (.ifCond .eq 7, 3) := by decide +kernel
theorem dX4_isHanging_16 : decode cX4_isHanging 16 = .ok (.iconst 1, 1) := by decide +kernel
theorem dX4_isHanging_17 : decode cX4_isHanging 17 = .ok (.goto 4, 3) := by decide +kernel
theorem dX4_isHanging_20 : decode cX4_isHanging 20 = .ok (.iconst 0, 1) := by decide +kernel
theorem dX4_isHanging_21 : decode cX4_isHanging 21 = .ok (.ireturn, 1) := by decide +kernel
theorem dX4_tiltNow_0 : decode cX4_tiltNow 0 = .ok (.aload_n 0, 1) := by decide +kernel
theorem dX4_tiltNow_1 : decode cX4_tiltNow 1 = .ok (.invokevirtual 111, 3) := by decide +kernel
theorem dX4_tiltNow_4 : decode cX4_tiltNow 4 = .ok (.ifCond .eq 17, 3) := by decide +kernel
theorem dX4_tiltNow_7 : decode cX4_tiltNow 7 = .ok (.aload_n 0, 1) := by decide +kernel
theorem dX4_tiltNow_8 : decode cX4_tiltNow 8 = .ok (.iconst 0, 1) := by decide +kernel
theorem dX4_tiltNow_9 : decode cX4_tiltNow 9 = .ok (.invokevirtual 102, 3) := by decide +kernel
theorem dX4_tiltNow_12 : decode cX4_tiltNow 12 = .ok (.aload_n 0, 1) := by decide +kernel
theorem dX4_tiltNow_13 : decode cX4_tiltNow 13 = .ok (.iconst 1, 1) := by decide +kernel
theorem dX4_tiltNow_14 : decode cX4_tiltNow 14 = .ok (.invokevirtual 102, 3) := by decide +kernel
theorem dX4_tiltNow_17 : decode cX4_tiltNow 17 = .ok (.iadd, 1) := by decide +kernel
theorem dX4_tiltNow_18 : decode cX4_tiltNow 18 = .ok (.goto 6, 3) := by decide +kernel
theorem dX4_tiltNow_21 : decode cX4_tiltNow 21 = .ok (.sipush 5000, 3) := by decide +kernel
theorem dX4_tiltNow_24 : decode cX4_tiltNow 24 = .ok (.ireturn, 1) := by decide +kernel
theorem dX4_far_0 : decode cX4_far 0 = .ok (.aload_n 0, 1) := by decide +kernel
theorem dX4_far_1 : decode cX4_far 1 = .ok (.invokevirtual 115, 3) := by decide +kernel
theorem dX4_far_4 : decode cX4_far 4 = .ok (.istore_n 1, 1) := by decide +kernel
theorem dX4_far_5 : decode cX4_far 5 = .ok (.iload_n 1, 1) := by decide +kernel
theorem dX4_far_6 : decode cX4_far 6 = .ok (.ifCond .ge 8, 3) := by decide +kernel
theorem dX4_far_9 : decode cX4_far 9 = .ok (.iload_n 1, 1) := by decide +kernel
theorem dX4_far_10 : decode cX4_far 10 = .ok (.ineg, 1) := by decide +kernel
theorem dX4_far_11 : decode cX4_far 11 = .ok (.goto 4, 3) := by decide +kernel
theorem dX4_far_14 : decode cX4_far 14 = .ok (.iload_n 1, 1) := by decide +kernel
theorem dX4_far_15 : decode cX4_far 15 = .ok (.ireturn, 1) := by decide +kernel
theorem dX4_isMixing_0 : decode cX4_isMixing 0 = .ok (.aload_n 0, 1) := by decide +kernel
theorem dX4_isMixing_1 : decode cX4_isMixing 1 = .ok (.iload_n 1, 1) := by decide +kernel
theorem dX4_isMixing_2 : decode cX4_isMixing 2 = .ok (.iconst 1, 1) := by decide +kernel
theorem dX4_isMixing_3 : decode cX4_isMixing 3 = .ok (.invokevirtual 64, 3) := by decide +kernel
theorem dX4_isMixing_6 : decode cX4_isMixing 6 = .ok (.aload_n 0, 1) := by decide +kernel
theorem dX4_isMixing_7 : decode cX4_isMixing 7 = .ok (.iload_n 1, 1) := by decide +kernel
theorem dX4_isMixing_8 : decode cX4_isMixing 8 = .ok (.iconst 2, 1) := by decide +kernel
theorem dX4_isMixing_9 : decode cX4_isMixing 9 = .ok (.invokevirtual 64, 3) := by decide +kernel
theorem dX4_isMixing_12 : decode cX4_isMixing 12 = .ok (.isub, 1) := by decide +kernel
theorem dX4_isMixing_13 : decode cX4_isMixing 13 = .ok (.istore_n 2, 1) := by decide +kernel
theorem dX4_isMixing_14 : decode cX4_isMixing 14 = .ok (.iload_n 2, 1) := by decide +kernel
theorem dX4_isMixing_15 : decode cX4_isMixing 15 = .ok (.ifCond .ge 8, 3) := by decide +kernel
theorem dX4_isMixing_18 : decode cX4_isMixing 18 = .ok (.iload_n 2, 1) := by decide +kernel
theorem dX4_isMixing_19 : decode cX4_isMixing 19 = .ok (.ineg, 1) := by decide +kernel
theorem dX4_isMixing_20 : decode cX4_isMixing 20 = .ok (.goto 4, 3) := by decide +kernel
theorem dX4_isMixing_23 : decode cX4_isMixing 23 = .ok (.iload_n 2, 1) := by decide +kernel
theorem dX4_isMixing_24 : decode cX4_isMixing 24 = .ok (.iconst 2, 1) := by decide +kernel
theorem dX4_isMixing_25 : decode cX4_isMixing 25 = .ok (.idiv, 1) := by decide +kernel
theorem dX4_isMixing_26 : decode cX4_isMixing 26 = .ok (.istore_n 3, 1) := by decide +kernel
theorem dX4_isMixing_27 : decode cX4_isMixing 27 = .ok (.aload_n 0, 1) := by decide +kernel
theorem dX4_isMixing_28 : decode cX4_isMixing 28 = .ok (.iload_n 1, 1) := by decide +kernel
theorem dX4_isMixing_29 : decode cX4_isMixing 29 = .ok (.invokevirtual 72, 3) := by decide +kernel
theorem dX4_isMixing_32 : decode cX4_isMixing 32 = .ok (.iload_n 3, 1) := by decide +kernel
theorem dX4_isMixing_33 : decode cX4_isMixing 33 = .ok (.if_icmp .ge 11, 3) := by decide +kernel
theorem dX4_isMixing_36 : decode cX4_isMixing 36 = .ok (.aload_n 0, 1) := by decide +kernel
theorem dX4_isMixing_37 : decode cX4_isMixing 37 = .ok (.iload_n 1, 1) := by decide +kernel
theorem dX4_isMixing_38 : decode cX4_isMixing 38 = .ok (.invokevirtual 72, 3) := by decide +kernel
theorem dX4_isMixing_41 : decode cX4_isMixing 41 = .ok (.goto 4, 3) := by decide +kernel
theorem dX4_isMixing_44 : decode cX4_isMixing 44 = .ok (.iload_n 3, 1) := by decide +kernel
theorem dX4_isMixing_45 : decode cX4_isMixing 45 = .ok (.istore 4, 2) := by decide +kernel
theorem dX4_isMixing_47 : decode cX4_isMixing 47 = .ok (.iload_n 2, 1) := by decide +kernel
theorem dX4_isMixing_48 : decode cX4_isMixing 48 = .ok (.ifCond .le 9, 3) := by decide +kernel
theorem dX4_isMixing_51 : decode cX4_isMixing 51 = .ok (.iload 4, 2) := by decide +kernel
theorem dX4_isMixing_53 : decode cX4_isMixing 53 = .ok (.ineg, 1) := by decide +kernel
theorem dX4_isMixing_54 : decode cX4_isMixing 54 = .ok (.goto 5, 3) := by decide +kernel
theorem dX4_isMixing_57 : decode cX4_isMixing 57 = .ok (.iload 4, 2) := by decide +kernel
theorem dX4_isMixing_59 : decode cX4_isMixing 59 = .ok (.istore 5, 2) := by decide +kernel
theorem dX4_isMixing_61 : decode cX4_isMixing 61 = .ok (.aload_n 0, 1) := by decide +kernel
theorem dX4_isMixing_62 : decode cX4_isMixing 62 = .ok (.getfield 7, 3) := by decide +kernel
theorem dX4_isMixing_65 : decode cX4_isMixing 65 = .ok (.iload_n 1, 1) := by decide +kernel
theorem dX4_isMixing_66 : decode cX4_isMixing 66 = .ok (.iconst 1, 1) := by decide +kernel
theorem dX4_isMixing_67 : decode cX4_isMixing 67 = .ok (.invokestatic 48, 3) := by decide +kernel
theorem dX4_isMixing_70 : decode cX4_isMixing 70 = .ok (.dup2, 1) := by decide +kernel
theorem dX4_isMixing_71 : decode cX4_isMixing 71 = .ok (.iaload, 1) := by decide +kernel
theorem dX4_isMixing_72 : decode cX4_isMixing 72 = .ok (.iload 5, 2) := by decide +kernel
theorem dX4_isMixing_74 : decode cX4_isMixing 74 = .ok (.iadd, 1) := by decide +kernel
theorem dX4_isMixing_75 : decode cX4_isMixing 75 = .ok (.iastore, 1) := by decide +kernel
theorem dX4_isMixing_76 : decode cX4_isMixing 76 = .ok (.aload_n 0, 1) := by decide +kernel
theorem dX4_isMixing_77 : decode cX4_isMixing 77 = .ok (.getfield 7, 3) := by decide +kernel
theorem dX4_isMixing_80 : decode cX4_isMixing 80 = .ok (.iload_n 1, 1) := by decide +kernel
theorem dX4_isMixing_81 : decode cX4_isMixing 81 = .ok (.iconst 2, 1) := by decide +kernel
theorem dX4_isMixing_82 : decode cX4_isMixing 82 = .ok (.invokestatic 48, 3) := by decide +kernel
theorem dX4_isMixing_85 : decode cX4_isMixing 85 = .ok (.dup2, 1) := by decide +kernel
theorem dX4_isMixing_86 : decode cX4_isMixing 86 = .ok (.iaload, 1) := by decide +kernel
theorem dX4_isMixing_87 : decode cX4_isMixing 87 = .ok (.iload 5, 2) := by decide +kernel
theorem dX4_isMixing_89 : decode cX4_isMixing 89 = .ok (.isub, 1) := by decide +kernel
theorem dX4_isMixing_90 : decode cX4_isMixing 90 = .ok (.iastore, 1) := by decide +kernel
theorem dX4_isMixing_91 : decode cX4_isMixing 91 = .ok (.return_, 1) := by decide +kernel
theorem dX4_minute_0 : decode cX4_minute 0 = .ok (.aload_n 0, 1) := by decide +kernel
theorem dX4_minute_1 : decode cX4_minute 1 = .ok (.invokevirtual 111, 3) := by decide +kernel
theorem dX4_minute_4 : decode cX4_minute 4 = .ok (.ifCond .eq 36, 3) := by decide +kernel
theorem dX4_minute_7 : decode cX4_minute 7 = .ok (.iconst 0, 1) := by decide +kernel
theorem dX4_minute_8 : decode cX4_minute 8 = .ok (.istore_n 1, 1) := by decide +kernel
theorem dX4_minute_9 : decode cX4_minute 9 = .ok (.iload_n 1, 1) := by decide +kernel
theorem dX4_minute_10 : decode cX4_minute 10 = .ok (.aload_n 0, 1) := by decide +kernel
theorem dX4_minute_11 : decode cX4_minute 11 = .ok (.getfield 7, 3) := by decide +kernel
theorem dX4_minute_14 : decode cX4_minute 14 = .ok (.iconst 0, 1) := by decide +kernel
theorem dX4_minute_15 : decode cX4_minute 15 = .ok (.iaload, 1) := by decide +kernel
theorem dX4_minute_16 : decode cX4_minute 16 = .ok (.if_icmp .ge 24, 3) := by decide +kernel
theorem dX4_minute_19 : decode cX4_minute 19 = .ok (.aload_n 0, 1) := by decide +kernel
theorem dX4_minute_20 : decode cX4_minute 20 = .ok (.iload_n 1, 1) := by decide +kernel
theorem dX4_minute_21 : decode cX4_minute 21 = .ok (.iconst 3, 1) := by decide +kernel
theorem dX4_minute_22 : decode cX4_minute 22 = .ok (.invokevirtual 64, 3) := by decide +kernel
theorem dX4_minute_25 : decode cX4_minute 25 = .ok (.iconst (-1), 1) := by decide +kernel
theorem dX4_minute_26 : decode cX4_minute 26 = .ok (.if_icmp .eq 8, 3) := by decide +kernel
theorem dX4_minute_29 : decode cX4_minute 29 = .ok (.aload_n 0, 1) := by decide +kernel
theorem dX4_minute_30 : decode cX4_minute 30 = .ok (.iload_n 1, 1) := by decide +kernel
theorem dX4_minute_31 : decode cX4_minute 31 = .ok (.invokevirtual 119, 3) := by decide +kernel
theorem dX4_minute_34 : decode cX4_minute 34 = .ok (.iinc 1 1, 3) := by decide +kernel
theorem dX4_minute_37 : decode cX4_minute 37 = .ok (.goto (-28), 3) := by decide +kernel
theorem dX4_minute_40 : decode cX4_minute 40 = .ok (.aload_n 0, 1) := by decide +kernel
theorem dX4_minute_41 : decode cX4_minute 41 = .ok (.getfield 7, 3) := by decide +kernel
theorem dX4_minute_44 : decode cX4_minute 44 = .ok (.iconst 1, 1) := by decide +kernel
theorem dX4_minute_45 : decode cX4_minute 45 = .ok (.dup2, 1) := by decide +kernel
theorem dX4_minute_46 : decode cX4_minute 46 = .ok (.iaload, 1) := by decide +kernel
theorem dX4_minute_47 : decode cX4_minute 47 = .ok (.iconst 1, 1) := by decide +kernel
theorem dX4_minute_48 : decode cX4_minute 48 = .ok (.iadd, 1) := by decide +kernel
theorem dX4_minute_49 : decode cX4_minute 49 = .ok (.iastore, 1) := by decide +kernel
theorem dX4_minute_50 : decode cX4_minute 50 = .ok (.return_, 1) := by decide +kernel
theorem dX4_minutesGo_0 : decode cX4_minutesGo 0 = .ok (.iconst 0, 1) := by decide +kernel
theorem dX4_minutesGo_1 : decode cX4_minutesGo 1 = .ok (.istore_n 2, 1) := by decide +kernel
theorem dX4_minutesGo_2 : decode cX4_minutesGo 2 = .ok (.iload_n 2, 1) := by decide +kernel
theorem dX4_minutesGo_3 : decode cX4_minutesGo 3 = .ok (.iload_n 1, 1) := by decide +kernel
theorem dX4_minutesGo_4 : decode cX4_minutesGo 4 = .ok (.if_icmp .ge 13, 3) := by decide +kernel
theorem dX4_minutesGo_7 : decode cX4_minutesGo 7 = .ok (.aload_n 0, 1) := by decide +kernel
theorem dX4_minutesGo_8 : decode cX4_minutesGo 8 = .ok (.invokevirtual 123, 3) := by decide +kernel
theorem dX4_minutesGo_11 : decode cX4_minutesGo 11 = .ok (.iinc 2 1, 3) := by decide +kernel
theorem dX4_minutesGo_14 : decode cX4_minutesGo 14 = .ok (.goto (-12), 3) := by decide +kernel
theorem dX4_minutesGo_17 : decode cX4_minutesGo 17 = .ok (.return_, 1) := by decide +kernel
theorem dX4_minutes_0 : decode cX4_minutes 0 = .ok (.iload_n 1, 1) := by decide +kernel
theorem dX4_minutes_1 : decode cX4_minutes 1 = .ok (.i2l, 1) := by decide +kernel
theorem dX4_minutes_2 : decode cX4_minutes 2 = .ok (.lconst 1, 1) := by decide +kernel
theorem dX4_minutes_3 : decode cX4_minutes 3 = .ok (.ldc2_w 126, 3) := by decide +kernel
theorem dX4_minutes_6 : decode cX4_minutes 6 = .ok (.invokestatic 42, 3) := by decide +kernel
theorem dX4_minutes_9 : decode cX4_minutes 9 = .ok (.ifCond .ne 10, 3) := by decide +kernel
theorem dX4_minutes_12 : decode cX4_minutes 12 = .ok (.aload_n 0, 1) := by decide +kernel
theorem dX4_minutes_13 : decode cX4_minutes 13 = .ok (.ldc 41, 2) := by decide +kernel
theorem dX4_minutes_15 : decode cX4_minutes 15 = .ok (.invokevirtual 56, 3) := by decide +kernel
theorem dX4_minutes_18 : decode cX4_minutes 18 = .ok (.ireturn, 1) := by decide +kernel
theorem dX4_minutes_19 : decode cX4_minutes 19 = .ok (.aload_n 0, 1) := by decide +kernel
theorem dX4_minutes_20 : decode cX4_minutes 20 = .ok (.getfield 7, 3) := by decide +kernel
theorem dX4_minutes_23 : decode cX4_minutes 23 = .ok (.iconst 1, 1) := by decide +kernel
theorem dX4_minutes_24 : decode cX4_minutes 24 = .ok (.iaload, 1) := by decide +kernel
theorem dX4_minutes_25 : decode cX4_minutes 25 = .ok (.iload_n 1, 1) := by decide +kernel
theorem dX4_minutes_26 : decode cX4_minutes 26 = .ok (.iadd, 1) := by decide +kernel
theorem dX4_minutes_27 : decode cX4_minutes 27 = .ok (.ldc 128, 2) := by decide +kernel
theorem dX4_minutes_29 : decode cX4_minutes 29 = .ok (.if_icmp .le 10, 3) := by decide +kernel
theorem dX4_minutes_32 : decode cX4_minutes 32 = .ok (.aload_n 0, 1) := by decide +kernel
theorem dX4_minutes_33 : decode cX4_minutes 33 = .ok (.ldc 129, 2) := by decide +kernel
theorem dX4_minutes_35 : decode cX4_minutes 35 = .ok (.invokevirtual 56, 3) := by decide +kernel
theorem dX4_minutes_38 : decode cX4_minutes 38 = .ok (.ireturn, 1) := by decide +kernel
theorem dX4_minutes_39 : decode cX4_minutes 39 = .ok (.aload_n 0, 1) := by decide +kernel
theorem dX4_minutes_40 : decode cX4_minutes 40 = .ok (.iload_n 1, 1) := by decide +kernel
theorem dX4_minutes_41 : decode cX4_minutes 41 = .ok (.invokevirtual 130, 3) := by decide +kernel
theorem dX4_minutes_44 : decode cX4_minutes 44 = .ok (.sipush 10000, 3) := by decide +kernel
theorem dX4_minutes_47 : decode cX4_minutes 47 = .ok (.aload_n 0, 1) := by decide +kernel
theorem dX4_minutes_48 : decode cX4_minutes 48 = .ok (.invokevirtual 115, 3) := by decide +kernel
theorem dX4_minutes_51 : decode cX4_minutes 51 = .ok (.iadd, 1) := by decide +kernel
theorem dX4_minutes_52 : decode cX4_minutes 52 = .ok (.ireturn, 1) := by decide +kernel
theorem dX4_together_0 : decode cX4_together 0 = .ok (.iconst 0, 1) := by decide +kernel
theorem dX4_together_1 : decode cX4_together 1 = .ok (.istore_n 2, 1) := by decide +kernel
theorem dX4_together_2 : decode cX4_together 2 = .ok (.iconst 0, 1) := by decide +kernel
theorem dX4_together_3 : decode cX4_together 3 = .ok (.istore_n 3, 1) := by decide +kernel
theorem dX4_together_4 : decode cX4_together 4 = .ok (.iload_n 3, 1) := by decide +kernel
theorem dX4_together_5 : decode cX4_together 5 = .ok (.aload_n 0, 1) := by decide +kernel
theorem dX4_together_6 : decode cX4_together 6 = .ok (.getfield 7, 3) := by decide +kernel
theorem dX4_together_9 : decode cX4_together 9 = .ok (.iconst 0, 1) := by decide +kernel
theorem dX4_together_10 : decode cX4_together 10 = .ok (.iaload, 1) := by decide +kernel
theorem dX4_together_11 : decode cX4_together 11 = .ok (.if_icmp .ge 18, 3) := by decide +kernel
theorem dX4_together_14 : decode cX4_together 14 = .ok (.iload_n 2, 1) := by decide +kernel
theorem dX4_together_15 : decode cX4_together 15 = .ok (.aload_n 0, 1) := by decide +kernel
theorem dX4_together_16 : decode cX4_together 16 = .ok (.iload_n 3, 1) := by decide +kernel
theorem dX4_together_17 : decode cX4_together 17 = .ok (.iload_n 1, 1) := by decide +kernel
theorem dX4_together_18 : decode cX4_together 18 = .ok (.invokevirtual 64, 3) := by decide +kernel
theorem dX4_together_21 : decode cX4_together 21 = .ok (.iadd, 1) := by decide +kernel
theorem dX4_together_22 : decode cX4_together 22 = .ok (.istore_n 2, 1) := by decide +kernel
theorem dX4_together_23 : decode cX4_together 23 = .ok (.iinc 3 1, 3) := by decide +kernel
theorem dX4_together_26 : decode cX4_together 26 = .ok (.goto (-22), 3) := by decide +kernel
theorem dX4_together_29 : decode cX4_together 29 = .ok (.iload_n 2, 1) := by decide +kernel
theorem dX4_together_30 : decode cX4_together 30 = .ok (.ireturn, 1) := by decide +kernel
theorem dX4_sitting_0 : decode cX4_sitting 0 = .ok (.aload_n 0, 1) := by decide +kernel
theorem dX4_sitting_1 : decode cX4_sitting 1 = .ok (.iconst 0, 1) := by decide +kernel
theorem dX4_sitting_2 : decode cX4_sitting 2 = .ok (.invokevirtual 105, 3) := by decide +kernel
theorem dX4_sitting_5 : decode cX4_sitting 5 = .ok (.aload_n 0, 1) := by decide +kernel
theorem dX4_sitting_6 : decode cX4_sitting 6 = .ok (.iconst 1, 1) := by decide +kernel
theorem dX4_sitting_7 : decode cX4_sitting 7 = .ok (.invokevirtual 105, 3) := by decide +kernel
theorem dX4_sitting_10 : decode cX4_sitting 10 = .ok (.ior, 1) := by decide +kernel
theorem dX4_sitting_11 : decode cX4_sitting 11 = .ok (.ireturn, 1) := by decide +kernel
theorem dX4_now_0 : decode cX4_now 0 = .ok (.iload_n 1, 1) := by decide +kernel
theorem dX4_now_1 : decode cX4_now 1 = .ok (.tableswitch 96 0 6 #[43, 50, 57, 66, 79, 84, 90], 43) := by decide +kernel
theorem dX4_now_44 : decode cX4_now 44 = .ok (.aload_n 0, 1) := by decide +kernel
theorem dX4_now_45 : decode cX4_now 45 = .ok (.getfield 7, 3) := by decide +kernel
theorem dX4_now_48 : decode cX4_now 48 = .ok (.iconst 1, 1) := by decide +kernel
theorem dX4_now_49 : decode cX4_now 49 = .ok (.iaload, 1) := by decide +kernel
theorem dX4_now_50 : decode cX4_now 50 = .ok (.ireturn, 1) := by decide +kernel
theorem dX4_now_51 : decode cX4_now 51 = .ok (.aload_n 0, 1) := by decide +kernel
theorem dX4_now_52 : decode cX4_now 52 = .ok (.getfield 7, 3) := by decide +kernel
theorem dX4_now_55 : decode cX4_now 55 = .ok (.iconst 2, 1) := by decide +kernel
theorem dX4_now_56 : decode cX4_now 56 = .ok (.iaload, 1) := by decide +kernel
theorem dX4_now_57 : decode cX4_now 57 = .ok (.ireturn, 1) := by decide +kernel
theorem dX4_now_58 : decode cX4_now 58 = .ok (.sipush 10000, 3) := by decide +kernel
theorem dX4_now_61 : decode cX4_now 61 = .ok (.aload_n 0, 1) := by decide +kernel
theorem dX4_now_62 : decode cX4_now 62 = .ok (.invokevirtual 115, 3) := by decide +kernel
theorem dX4_now_65 : decode cX4_now 65 = .ok (.iadd, 1) := by decide +kernel
theorem dX4_now_66 : decode cX4_now 66 = .ok (.ireturn, 1) := by decide +kernel
theorem dX4_now_67 : decode cX4_now 67 = .ok (.aload_n 0, 1) := by decide +kernel
theorem dX4_now_68 : decode cX4_now 68 = .ok (.invokevirtual 115, 3) := by decide +kernel
theorem dX4_now_71 : decode cX4_now 71 = .ok (.ifCond .ne 7, 3) := by decide +kernel
theorem dX4_now_74 : decode cX4_now 74 = .ok (.iconst 1, 1) := by decide +kernel
theorem dX4_now_75 : decode cX4_now 75 = .ok (.goto 4, 3) := by decide +kernel
theorem dX4_now_78 : decode cX4_now 78 = .ok (.iconst 0, 1) := by decide +kernel
theorem dX4_now_79 : decode cX4_now 79 = .ok (.ireturn, 1) := by decide +kernel
theorem dX4_now_80 : decode cX4_now 80 = .ok (.aload_n 0, 1) := by decide +kernel
theorem dX4_now_81 : decode cX4_now 81 = .ok (.invokevirtual 133, 3) := by decide +kernel
theorem dX4_now_84 : decode cX4_now 84 = .ok (.ireturn, 1) := by decide +kernel
theorem dX4_now_85 : decode cX4_now 85 = .ok (.aload_n 0, 1) := by decide +kernel
theorem dX4_now_86 : decode cX4_now 86 = .ok (.iconst 1, 1) := by decide +kernel
theorem dX4_now_87 : decode cX4_now 87 = .ok (.invokevirtual 136, 3) := by decide +kernel
theorem dX4_now_90 : decode cX4_now 90 = .ok (.ireturn, 1) := by decide +kernel
theorem dX4_now_91 : decode cX4_now 91 = .ok (.aload_n 0, 1) := by decide +kernel
theorem dX4_now_92 : decode cX4_now 92 = .ok (.iconst 2, 1) := by decide +kernel
theorem dX4_now_93 : decode cX4_now 93 = .ok (.invokevirtual 136, 3) := by decide +kernel
theorem dX4_now_96 : decode cX4_now 96 = .ok (.ireturn, 1) := by decide +kernel
theorem dX4_now_97 : decode cX4_now 97 = .ok (.aload_n 0, 1) := by decide +kernel
theorem dX4_now_98 : decode cX4_now 98 = .ok (.ldc 41, 2) := by decide +kernel
theorem dX4_now_100 : decode cX4_now 100 = .ok (.invokevirtual 56, 3) := by decide +kernel
theorem dX4_now_103 : decode cX4_now 103 = .ok (.ireturn, 1) := by decide +kernel
theorem dX4_on_0 : decode cX4_on 0 = .ok (.aload_n 0, 1) := by decide +kernel
theorem dX4_on_1 : decode cX4_on 1 = .ok (.iload_n 1, 1) := by decide +kernel
theorem dX4_on_2 : decode cX4_on 2 = .ok (.invokevirtual 67, 3) := by decide +kernel
theorem dX4_on_5 : decode cX4_on 5 = .ok (.ifCond .eq 25, 3) := by decide +kernel
theorem dX4_on_8 : decode cX4_on 8 = .ok (.iload_n 2, 1) := by decide +kernel
theorem dX4_on_9 : decode cX4_on 9 = .ok (.i2l, 1) := by decide +kernel
theorem dX4_on_10 : decode cX4_on 10 = .ok (.lconst 0, 1) := by decide +kernel
theorem dX4_on_11 : decode cX4_on 11 = .ok (.ldc2_w 126, 3) := by decide +kernel
theorem dX4_on_14 : decode cX4_on 14 = .ok (.invokestatic 42, 3) := by decide +kernel
theorem dX4_on_17 : decode cX4_on 17 = .ok (.ifCond .eq 13, 3) := by decide +kernel
theorem dX4_on_20 : decode cX4_on 20 = .ok (.iload_n 3, 1) := by decide +kernel
theorem dX4_on_21 : decode cX4_on 21 = .ok (.i2l, 1) := by decide +kernel
theorem dX4_on_22 : decode cX4_on 22 = .ok (.lconst 0, 1) := by decide +kernel
theorem dX4_on_23 : decode cX4_on 23 = .ok (.lconst 1, 1) := by decide +kernel
theorem dX4_on_24 : decode cX4_on 24 = .ok (.invokestatic 42, 3) := by decide +kernel
theorem dX4_on_27 : decode cX4_on 27 = .ok (.ifCond .ne 10, 3) := by decide +kernel
theorem dX4_on_30 : decode cX4_on 30 = .ok (.aload_n 0, 1) := by decide +kernel
theorem dX4_on_31 : decode cX4_on 31 = .ok (.ldc 41, 2) := by decide +kernel
theorem dX4_on_33 : decode cX4_on 33 = .ok (.invokevirtual 56, 3) := by decide +kernel
theorem dX4_on_36 : decode cX4_on 36 = .ok (.ireturn, 1) := by decide +kernel
theorem dX4_on_37 : decode cX4_on 37 = .ok (.aload_n 0, 1) := by decide +kernel
theorem dX4_on_38 : decode cX4_on 38 = .ok (.invokevirtual 139, 3) := by decide +kernel
theorem dX4_on_41 : decode cX4_on 41 = .ok (.aload_n 0, 1) := by decide +kernel
theorem dX4_on_42 : decode cX4_on 42 = .ok (.iload_n 2, 1) := by decide +kernel
theorem dX4_on_43 : decode cX4_on 43 = .ok (.invokevirtual 130, 3) := by decide +kernel
theorem dX4_on_46 : decode cX4_on 46 = .ok (.aload_n 0, 1) := by decide +kernel
theorem dX4_on_47 : decode cX4_on 47 = .ok (.aload_n 0, 1) := by decide +kernel
theorem dX4_on_48 : decode cX4_on 48 = .ok (.iload_n 1, 1) := by decide +kernel
theorem dX4_on_49 : decode cX4_on 49 = .ok (.iload_n 3, 1) := by decide +kernel
theorem dX4_on_50 : decode cX4_on 50 = .ok (.ifCond .ne 7, 3) := by decide +kernel
theorem dX4_on_53 : decode cX4_on 53 = .ok (.iconst 1, 1) := by decide +kernel
theorem dX4_on_54 : decode cX4_on 54 = .ok (.goto 4, 3) := by decide +kernel
theorem dX4_on_57 : decode cX4_on 57 = .ok (.iconst 2, 1) := by decide +kernel
theorem dX4_on_58 : decode cX4_on 58 = .ok (.invokevirtual 64, 3) := by decide +kernel
theorem dX4_on_61 : decode cX4_on 61 = .ok (.invokevirtual 142, 3) := by decide +kernel
theorem dX4_on_64 : decode cX4_on 64 = .ok (.ireturn, 1) := by decide +kernel
theorem dX4_tilt_0 : decode cX4_tilt 0 = .ok (.iload_n 1, 1) := by decide +kernel
theorem dX4_tilt_1 : decode cX4_tilt 1 = .ok (.i2l, 1) := by decide +kernel
theorem dX4_tilt_2 : decode cX4_tilt 2 = .ok (.lconst 0, 1) := by decide +kernel
theorem dX4_tilt_3 : decode cX4_tilt 3 = .ok (.ldc2_w 126, 3) := by decide +kernel
theorem dX4_tilt_6 : decode cX4_tilt 6 = .ok (.invokestatic 42, 3) := by decide +kernel
theorem dX4_tilt_9 : decode cX4_tilt 9 = .ok (.ifCond .ne 10, 3) := by decide +kernel
theorem dX4_tilt_12 : decode cX4_tilt 12 = .ok (.aload_n 0, 1) := by decide +kernel
theorem dX4_tilt_13 : decode cX4_tilt 13 = .ok (.ldc 41, 2) := by decide +kernel
theorem dX4_tilt_15 : decode cX4_tilt 15 = .ok (.invokevirtual 56, 3) := by decide +kernel
theorem dX4_tilt_18 : decode cX4_tilt 18 = .ok (.ireturn, 1) := by decide +kernel
theorem dX4_tilt_19 : decode cX4_tilt 19 = .ok (.aload_n 0, 1) := by decide +kernel
theorem dX4_tilt_20 : decode cX4_tilt 20 = .ok (.invokevirtual 139, 3) := by decide +kernel
theorem dX4_tilt_23 : decode cX4_tilt 23 = .ok (.aload_n 0, 1) := by decide +kernel
theorem dX4_tilt_24 : decode cX4_tilt 24 = .ok (.iload_n 1, 1) := by decide +kernel
theorem dX4_tilt_25 : decode cX4_tilt 25 = .ok (.invokevirtual 130, 3) := by decide +kernel
theorem dX4_tilt_28 : decode cX4_tilt 28 = .ok (.aload_n 0, 1) := by decide +kernel
theorem dX4_tilt_29 : decode cX4_tilt 29 = .ok (.sipush 10000, 3) := by decide +kernel
theorem dX4_tilt_32 : decode cX4_tilt 32 = .ok (.aload_n 0, 1) := by decide +kernel
theorem dX4_tilt_33 : decode cX4_tilt 33 = .ok (.invokevirtual 115, 3) := by decide +kernel
theorem dX4_tilt_36 : decode cX4_tilt 36 = .ok (.iadd, 1) := by decide +kernel
theorem dX4_tilt_37 : decode cX4_tilt 37 = .ok (.invokevirtual 142, 3) := by decide +kernel
theorem dX4_tilt_40 : decode cX4_tilt 40 = .ok (.ireturn, 1) := by decide +kernel
theorem dX4_level_0 : decode cX4_level 0 = .ok (.aload_n 0, 1) := by decide +kernel
theorem dX4_level_1 : decode cX4_level 1 = .ok (.invokevirtual 139, 3) := by decide +kernel
theorem dX4_level_4 : decode cX4_level 4 = .ok (.iconst 0, 1) := by decide +kernel
theorem dX4_level_5 : decode cX4_level 5 = .ok (.istore_n 1, 1) := by decide +kernel
theorem dX4_level_6 : decode cX4_level 6 = .ok (.iload_n 1, 1) := by decide +kernel
theorem dX4_level_7 : decode cX4_level 7 = .ok (.bipush 100, 2) := by decide +kernel
theorem dX4_level_9 : decode cX4_level 9 = .ok (.if_icmp .gt 20, 3) := by decide +kernel
theorem dX4_level_12 : decode cX4_level 12 = .ok (.aload_n 0, 1) := by decide +kernel
theorem dX4_level_13 : decode cX4_level 13 = .ok (.invokevirtual 115, 3) := by decide +kernel
theorem dX4_level_16 : decode cX4_level 16 = .ok (.ifCond .eq 13, 3) := by decide +kernel
theorem dX4_level_19 : decode cX4_level 19 = .ok (.aload_n 0, 1) := by decide +kernel
theorem dX4_level_20 : decode cX4_level 20 = .ok (.invokevirtual 123, 3) := by decide +kernel
theorem dX4_level_23 : decode cX4_level 23 = .ok (.iinc 1 1, 3) := by decide +kernel
theorem dX4_level_26 : decode cX4_level 26 = .ok (.goto (-20), 3) := by decide +kernel
theorem dX4_level_29 : decode cX4_level 29 = .ok (.aload_n 0, 1) := by decide +kernel
theorem dX4_level_30 : decode cX4_level 30 = .ok (.iload_n 1, 1) := by decide +kernel
theorem dX4_level_31 : decode cX4_level 31 = .ok (.invokevirtual 142, 3) := by decide +kernel
theorem dX4_level_34 : decode cX4_level 34 = .ok (.istore_n 2, 1) := by decide +kernel
theorem dX4_level_35 : decode cX4_level 35 = .ok (.iload_n 2, 1) := by decide +kernel
theorem dX4_level_36 : decode cX4_level 36 = .ok (.bipush 100, 2) := by decide +kernel
theorem dX4_level_38 : decode cX4_level 38 = .ok (.if_icmp .le 12, 3) := by decide +kernel
theorem dX4_level_41 : decode cX4_level 41 = .ok (.aload_n 0, 1) := by decide +kernel
theorem dX4_level_42 : decode cX4_level 42 = .ok (.ldc 108, 2) := by decide +kernel
theorem dX4_level_44 : decode cX4_level 44 = .ok (.invokevirtual 56, 3) := by decide +kernel
theorem dX4_level_47 : decode cX4_level 47 = .ok (.goto 4, 3) := by decide +kernel
theorem dX4_level_50 : decode cX4_level 50 = .ok (.iload_n 2, 1) := by decide +kernel
theorem dX4_level_51 : decode cX4_level 51 = .ok (.ireturn, 1) := by decide +kernel
theorem dX4_mixed_0 : decode cX4_mixed 0 = .ok (.aload_n 0, 1) := by decide +kernel
theorem dX4_mixed_1 : decode cX4_mixed 1 = .ok (.iload_n 1, 1) := by decide +kernel
theorem dX4_mixed_2 : decode cX4_mixed 2 = .ok (.invokevirtual 67, 3) := by decide +kernel
theorem dX4_mixed_5 : decode cX4_mixed 5 = .ok (.ifCond .ne 10, 3) := by decide +kernel
theorem dX4_mixed_8 : decode cX4_mixed 8 = .ok (.aload_n 0, 1) := by decide +kernel
theorem dX4_mixed_9 : decode cX4_mixed 9 = .ok (.ldc 41, 2) := by decide +kernel
theorem dX4_mixed_11 : decode cX4_mixed 11 = .ok (.invokevirtual 56, 3) := by decide +kernel
theorem dX4_mixed_14 : decode cX4_mixed 14 = .ok (.ireturn, 1) := by decide +kernel
theorem dX4_mixed_15 : decode cX4_mixed 15 = .ok (.aload_n 0, 1) := by decide +kernel
theorem dX4_mixed_16 : decode cX4_mixed 16 = .ok (.invokevirtual 139, 3) := by decide +kernel
theorem dX4_mixed_19 : decode cX4_mixed 19 = .ok (.iconst 0, 1) := by decide +kernel
theorem dX4_mixed_20 : decode cX4_mixed 20 = .ok (.istore_n 2, 1) := by decide +kernel
theorem dX4_mixed_21 : decode cX4_mixed 21 = .ok (.iload_n 2, 1) := by decide +kernel
theorem dX4_mixed_22 : decode cX4_mixed 22 = .ok (.bipush 100, 2) := by decide +kernel
theorem dX4_mixed_24 : decode cX4_mixed 24 = .ok (.if_icmp .gt 28, 3) := by decide +kernel
theorem dX4_mixed_27 : decode cX4_mixed 27 = .ok (.aload_n 0, 1) := by decide +kernel
theorem dX4_mixed_28 : decode cX4_mixed 28 = .ok (.iload_n 1, 1) := by decide +kernel
theorem dX4_mixed_29 : decode cX4_mixed 29 = .ok (.iconst 1, 1) := by decide +kernel
theorem dX4_mixed_30 : decode cX4_mixed 30 = .ok (.invokevirtual 64, 3) := by decide +kernel
theorem dX4_mixed_33 : decode cX4_mixed 33 = .ok (.aload_n 0, 1) := by decide +kernel
theorem dX4_mixed_34 : decode cX4_mixed 34 = .ok (.iload_n 1, 1) := by decide +kernel
theorem dX4_mixed_35 : decode cX4_mixed 35 = .ok (.iconst 2, 1) := by decide +kernel
theorem dX4_mixed_36 : decode cX4_mixed 36 = .ok (.invokevirtual 64, 3) := by decide +kernel
theorem dX4_mixed_39 : decode cX4_mixed 39 = .ok (.if_icmp .eq 13, 3) := by decide +kernel
theorem dX4_mixed_42 : decode cX4_mixed 42 = .ok (.aload_n 0, 1) := by decide +kernel
theorem dX4_mixed_43 : decode cX4_mixed 43 = .ok (.invokevirtual 123, 3) := by decide +kernel
theorem dX4_mixed_46 : decode cX4_mixed 46 = .ok (.iinc 2 1, 3) := by decide +kernel
theorem dX4_mixed_49 : decode cX4_mixed 49 = .ok (.goto (-28), 3) := by decide +kernel
theorem dX4_mixed_52 : decode cX4_mixed 52 = .ok (.aload_n 0, 1) := by decide +kernel
theorem dX4_mixed_53 : decode cX4_mixed 53 = .ok (.iload_n 2, 1) := by decide +kernel
theorem dX4_mixed_54 : decode cX4_mixed 54 = .ok (.invokevirtual 142, 3) := by decide +kernel
theorem dX4_mixed_57 : decode cX4_mixed 57 = .ok (.istore_n 3, 1) := by decide +kernel
theorem dX4_mixed_58 : decode cX4_mixed 58 = .ok (.iload_n 3, 1) := by decide +kernel
theorem dX4_mixed_59 : decode cX4_mixed 59 = .ok (.bipush 100, 2) := by decide +kernel
theorem dX4_mixed_61 : decode cX4_mixed 61 = .ok (.if_icmp .le 12, 3) := by decide +kernel
theorem dX4_mixed_64 : decode cX4_mixed 64 = .ok (.aload_n 0, 1) := by decide +kernel
theorem dX4_mixed_65 : decode cX4_mixed 65 = .ok (.ldc 108, 2) := by decide +kernel
theorem dX4_mixed_67 : decode cX4_mixed 67 = .ok (.invokevirtual 56, 3) := by decide +kernel
theorem dX4_mixed_70 : decode cX4_mixed 70 = .ok (.goto 4, 3) := by decide +kernel
theorem dX4_mixed_73 : decode cX4_mixed 73 = .ok (.iload_n 3, 1) := by decide +kernel
theorem dX4_mixed_74 : decode cX4_mixed 74 = .ok (.ireturn, 1) := by decide +kernel
theorem dX4_match_0 : decode cX4_match 0 = .ok (.aload_n 0, 1) := by decide +kernel
theorem dX4_match_1 : decode cX4_match 1 = .ok (.iload_n 1, 1) := by decide +kernel
theorem dX4_match_2 : decode cX4_match 2 = .ok (.invokevirtual 67, 3) := by decide +kernel
theorem dX4_match_5 : decode cX4_match 5 = .ok (.ifCond .ne 10, 3) := by decide +kernel
theorem dX4_match_8 : decode cX4_match 8 = .ok (.aload_n 0, 1) := by decide +kernel
theorem dX4_match_9 : decode cX4_match 9 = .ok (.ldc 41, 2) := by decide +kernel
theorem dX4_match_11 : decode cX4_match 11 = .ok (.invokevirtual 56, 3) := by decide +kernel
theorem dX4_match_14 : decode cX4_match 14 = .ok (.ireturn, 1) := by decide +kernel
theorem dX4_match_15 : decode cX4_match 15 = .ok (.iconst 0, 1) := by decide +kernel
theorem dX4_match_16 : decode cX4_match 16 = .ok (.istore_n 2, 1) := by decide +kernel
theorem dX4_match_17 : decode cX4_match 17 = .ok (.iconst 0, 1) := by decide +kernel
theorem dX4_match_18 : decode cX4_match 18 = .ok (.istore_n 3, 1) := by decide +kernel
theorem dX4_match_19 : decode cX4_match 19 = .ok (.iload_n 3, 1) := by decide +kernel
theorem dX4_match_20 : decode cX4_match 20 = .ok (.aload_n 0, 1) := by decide +kernel
theorem dX4_match_21 : decode cX4_match 21 = .ok (.getfield 7, 3) := by decide +kernel
theorem dX4_match_24 : decode cX4_match 24 = .ok (.iconst 0, 1) := by decide +kernel
theorem dX4_match_25 : decode cX4_match 25 = .ok (.iaload, 1) := by decide +kernel
theorem dX4_match_26 : decode cX4_match 26 = .ok (.if_icmp .ge 38, 3) := by decide +kernel
theorem dX4_match_29 : decode cX4_match 29 = .ok (.iload_n 2, 1) := by decide +kernel
theorem dX4_match_30 : decode cX4_match 30 = .ok (.iload_n 3, 1) := by decide +kernel
theorem dX4_match_31 : decode cX4_match 31 = .ok (.iload_n 1, 1) := by decide +kernel
theorem dX4_match_32 : decode cX4_match 32 = .ok (.if_icmp .eq 23, 3) := by decide +kernel
theorem dX4_match_35 : decode cX4_match 35 = .ok (.aload_n 0, 1) := by decide +kernel
theorem dX4_match_36 : decode cX4_match 36 = .ok (.iload_n 3, 1) := by decide +kernel
theorem dX4_match_37 : decode cX4_match 37 = .ok (.invokevirtual 75, 3) := by decide +kernel
theorem dX4_match_40 : decode cX4_match 40 = .ok (.aload_n 0, 1) := by decide +kernel
theorem dX4_match_41 : decode cX4_match 41 = .ok (.iload_n 1, 1) := by decide +kernel
theorem dX4_match_42 : decode cX4_match 42 = .ok (.invokevirtual 75, 3) := by decide +kernel
theorem dX4_match_45 : decode cX4_match 45 = .ok (.iadd, 1) := by decide +kernel
theorem dX4_match_46 : decode cX4_match 46 = .ok (.ifCond .ne 9, 3) := by decide +kernel
theorem dX4_match_49 : decode cX4_match 49 = .ok (.iconst 1, 1) := by decide +kernel
theorem dX4_match_50 : decode cX4_match 50 = .ok (.iload_n 3, 1) := by decide +kernel
theorem dX4_match_51 : decode cX4_match 51 = .ok (.ishl, 1) := by decide +kernel
theorem dX4_match_52 : decode cX4_match 52 = .ok (.goto 4, 3) := by decide +kernel
theorem dX4_match_55 : decode cX4_match 55 = .ok (.iconst 0, 1) := by decide +kernel
theorem dX4_match_56 : decode cX4_match 56 = .ok (.ior, 1) := by decide +kernel
theorem dX4_match_57 : decode cX4_match 57 = .ok (.istore_n 2, 1) := by decide +kernel
theorem dX4_match_58 : decode cX4_match 58 = .ok (.iinc 3 1, 3) := by decide +kernel
theorem dX4_match_61 : decode cX4_match 61 = .ok (.goto (-42), 3) := by decide +kernel
theorem dX4_match_64 : decode cX4_match 64 = .ok (.iload_n 2, 1) := by decide +kernel
theorem dX4_match_65 : decode cX4_match 65 = .ok (.ireturn, 1) := by decide +kernel
theorem dX4_seats_0 : decode cX4_seats 0 = .ok (.aload_n 0, 1) := by decide +kernel
theorem dX4_seats_1 : decode cX4_seats 1 = .ok (.getfield 7, 3) := by decide +kernel
theorem dX4_seats_4 : decode cX4_seats 4 = .ok (.iconst 0, 1) := by decide +kernel
theorem dX4_seats_5 : decode cX4_seats 5 = .ok (.iaload, 1) := by decide +kernel
theorem dX4_seats_6 : decode cX4_seats 6 = .ok (.iconst 2, 1) := by decide +kernel
theorem dX4_seats_7 : decode cX4_seats 7 = .ok (.if_icmp .ge 10, 3) := by decide +kernel
theorem dX4_seats_10 : decode cX4_seats 10 = .ok (.aload_n 0, 1) := by decide +kernel
theorem dX4_seats_11 : decode cX4_seats 11 = .ok (.ldc 145, 2) := by decide +kernel
theorem dX4_seats_13 : decode cX4_seats 13 = .ok (.invokevirtual 56, 3) := by decide +kernel
theorem dX4_seats_16 : decode cX4_seats 16 = .ok (.ireturn, 1) := by decide +kernel
theorem dX4_seats_17 : decode cX4_seats 17 = .ok (.iconst (-1), 1) := by decide +kernel
theorem dX4_seats_18 : decode cX4_seats 18 = .ok (.istore_n 1, 1) := by decide +kernel
theorem dX4_seats_19 : decode cX4_seats 19 = .ok (.iconst 0, 1) := by decide +kernel
theorem dX4_seats_20 : decode cX4_seats 20 = .ok (.istore_n 2, 1) := by decide +kernel
theorem dX4_seats_21 : decode cX4_seats 21 = .ok (.iconst 3, 1) := by decide +kernel
theorem dX4_seats_22 : decode cX4_seats 22 = .ok (.istore_n 3, 1) := by decide +kernel
theorem dX4_seats_23 : decode cX4_seats 23 = .ok (.iload_n 3, 1) := by decide +kernel
theorem dX4_seats_24 : decode cX4_seats 24 = .ok (.iconst 1, 1) := by decide +kernel
theorem dX4_seats_25 : decode cX4_seats 25 = .ok (.aload_n 0, 1) := by decide +kernel
theorem dX4_seats_26 : decode cX4_seats 26 = .ok (.getfield 7, 3) := by decide +kernel
theorem dX4_seats_29 : decode cX4_seats 29 = .ok (.iconst 0, 1) := by decide +kernel
theorem dX4_seats_30 : decode cX4_seats 30 = .ok (.iaload, 1) := by decide +kernel
theorem dX4_seats_31 : decode cX4_seats 31 = .ok (.ishl, 1) := by decide +kernel
theorem dX4_seats_32 : decode cX4_seats 32 = .ok (.if_icmp .ge 135, 3) := by decide +kernel
theorem dX4_seats_35 : decode cX4_seats 35 = .ok (.bipush (-2), 2) := by decide +kernel
theorem dX4_seats_37 : decode cX4_seats 37 = .ok (.aload_n 0, 1) := by decide +kernel
theorem dX4_seats_38 : decode cX4_seats 38 = .ok (.getfield 7, 3) := by decide +kernel
theorem dX4_seats_41 : decode cX4_seats 41 = .ok (.iconst 3, 1) := by decide +kernel
theorem dX4_seats_42 : decode cX4_seats 42 = .ok (.iaload, 1) := by decide +kernel
theorem dX4_seats_43 : decode cX4_seats 43 = .ok (.aload_n 0, 1) := by decide +kernel
theorem dX4_seats_44 : decode cX4_seats 44 = .ok (.getfield 7, 3) := by decide +kernel
theorem dX4_seats_47 : decode cX4_seats 47 = .ok (.iconst 4, 1) := by decide +kernel
theorem dX4_seats_48 : decode cX4_seats 48 = .ok (.iaload, 1) := by decide +kernel
theorem dX4_seats_49 : decode cX4_seats 49 = .ok (.iadd, 1) := by decide +kernel
theorem dX4_seats_50 : decode cX4_seats 50 = .ok (.imul, 1) := by decide +kernel
theorem dX4_seats_51 : decode cX4_seats 51 = .ok (.istore 4, 2) := by decide +kernel
theorem dX4_seats_53 : decode cX4_seats 53 = .ok (.iconst 0, 1) := by decide +kernel
theorem dX4_seats_54 : decode cX4_seats 54 = .ok (.istore 5, 2) := by decide +kernel
theorem dX4_seats_56 : decode cX4_seats 56 = .ok (.iload 5, 2) := by decide +kernel
theorem dX4_seats_58 : decode cX4_seats 58 = .ok (.aload_n 0, 1) := by decide +kernel
theorem dX4_seats_59 : decode cX4_seats 59 = .ok (.getfield 7, 3) := by decide +kernel
theorem dX4_seats_62 : decode cX4_seats 62 = .ok (.iconst 0, 1) := by decide +kernel
theorem dX4_seats_63 : decode cX4_seats 63 = .ok (.iaload, 1) := by decide +kernel
theorem dX4_seats_64 : decode cX4_seats 64 = .ok (.if_icmp .ge 34, 3) := by decide +kernel
theorem dX4_seats_67 : decode cX4_seats 67 = .ok (.iload 4, 2) := by decide +kernel
theorem dX4_seats_69 : decode cX4_seats 69 = .ok (.iload_n 3, 1) := by decide +kernel
theorem dX4_seats_70 : decode cX4_seats 70 = .ok (.iload 5, 2) := by decide +kernel
theorem dX4_seats_72 : decode cX4_seats 72 = .ok (.ishr, 1) := by decide +kernel
theorem dX4_seats_73 : decode cX4_seats 73 = .ok (.iconst 1, 1) := by decide +kernel
theorem dX4_seats_74 : decode cX4_seats 74 = .ok (.iand, 1) := by decide +kernel
theorem dX4_seats_75 : decode cX4_seats 75 = .ok (.iconst 1, 1) := by decide +kernel
theorem dX4_seats_76 : decode cX4_seats 76 = .ok (.if_icmp .ne 12, 3) := by decide +kernel
theorem dX4_seats_79 : decode cX4_seats 79 = .ok (.aload_n 0, 1) := by decide +kernel
theorem dX4_seats_80 : decode cX4_seats 80 = .ok (.iload 5, 2) := by decide +kernel
theorem dX4_seats_82 : decode cX4_seats 82 = .ok (.invokevirtual 75, 3) := by decide +kernel
theorem dX4_seats_85 : decode cX4_seats 85 = .ok (.goto 4, 3) := by decide +kernel
theorem dX4_seats_88 : decode cX4_seats 88 = .ok (.iconst 0, 1) := by decide +kernel
theorem dX4_seats_89 : decode cX4_seats 89 = .ok (.iadd, 1) := by decide +kernel
theorem dX4_seats_90 : decode cX4_seats 90 = .ok (.istore 4, 2) := by decide +kernel
theorem dX4_seats_92 : decode cX4_seats 92 = .ok (.iinc 5 1, 3) := by decide +kernel
theorem dX4_seats_95 : decode cX4_seats 95 = .ok (.goto (-39), 3) := by decide +kernel
theorem dX4_seats_98 : decode cX4_seats 98 = .ok (.iload 4, 2) := by decide +kernel
theorem dX4_seats_100 : decode cX4_seats 100 = .ok (.ifCond .ge 9, 3) := by decide +kernel
theorem dX4_seats_103 : decode cX4_seats 103 = .ok (.iload 4, 2) := by decide +kernel
theorem dX4_seats_105 : decode cX4_seats 105 = .ok (.ineg, 1) := by decide +kernel
theorem dX4_seats_106 : decode cX4_seats 106 = .ok (.goto 5, 3) := by decide +kernel
theorem dX4_seats_109 : decode cX4_seats 109 = .ok (.iload 4, 2) := by decide +kernel
theorem dX4_seats_111 : decode cX4_seats 111 = .ok (.istore 5, 2) := by decide +kernel
theorem dX4_seats_113 : decode cX4_seats 113 = .ok (.iload_n 3, 1) := by decide +kernel
theorem dX4_seats_114 : decode cX4_seats 114 = .ok (.invokestatic 146, 3) := by decide +kernel
theorem dX4_seats_117 : decode cX4_seats 117 = .ok (.iconst 1, 1) := by decide +kernel
theorem dX4_seats_118 : decode cX4_seats 118 = .ok (.if_icmp .le 17, 3) := by decide +kernel
theorem dX4_seats_121 : decode cX4_seats 121 = .ok (.iload_n 1, 1) := by decide +kernel
theorem dX4_seats_122 : decode cX4_seats 122 = .ok (.ifCond .lt 9, 3) := by decide +kernel
theorem dX4_seats_125 : decode cX4_seats 125 = .ok (.iload 5, 2) := by decide +kernel
theorem dX4_seats_127 : decode cX4_seats 127 = .ok (.iload_n 2, 1) := by decide +kernel
theorem dX4_seats_128 : decode cX4_seats 128 = .ok (.if_icmp .ge 7, 3) := by decide +kernel
theorem dX4_seats_131 : decode cX4_seats 131 = .ok (.iconst 1, 1) := by decide +kernel
theorem dX4_seats_132 : decode cX4_seats 132 = .ok (.goto 4, 3) := by decide +kernel
theorem dX4_seats_135 : decode cX4_seats 135 = .ok (.iconst 0, 1) := by decide +kernel
theorem dX4_seats_136 : decode cX4_seats 136 = .ok (.istore 6, 2) := by decide +kernel
theorem dX4_seats_138 : decode cX4_seats 138 = .ok (.iload 6, 2) := by decide +kernel
theorem dX4_seats_140 : decode cX4_seats 140 = .ok (.ifCond .eq 7, 3) := by decide +kernel
theorem dX4_seats_143 : decode cX4_seats 143 = .ok (.iload_n 3, 1) := by decide +kernel
theorem dX4_seats_144 : decode cX4_seats 144 = .ok (.goto 4, 3) := by decide +kernel
theorem dX4_seats_147 : decode cX4_seats 147 = .ok (.iload_n 1, 1) := by decide +kernel
theorem dX4_seats_148 : decode cX4_seats 148 = .ok (.istore_n 1, 1) := by decide +kernel
theorem dX4_seats_149 : decode cX4_seats 149 = .ok (.iload 6, 2) := by decide +kernel
theorem dX4_seats_151 : decode cX4_seats 151 = .ok (.ifCond .eq 8, 3) := by decide +kernel
theorem dX4_seats_154 : decode cX4_seats 154 = .ok (.iload 5, 2) := by decide +kernel
theorem dX4_seats_156 : decode cX4_seats 156 = .ok (.goto 4, 3) := by decide +kernel
theorem dX4_seats_159 : decode cX4_seats 159 = .ok (.iload_n 2, 1) := by decide +kernel
theorem dX4_seats_160 : decode cX4_seats 160 = .ok (.istore_n 2, 1) := by decide +kernel
theorem dX4_seats_161 : decode cX4_seats 161 = .ok (.iinc 3 1, 3) := by decide +kernel
theorem dX4_seats_164 : decode cX4_seats 164 = .ok (.goto (-141), 3) := by decide +kernel
theorem dX4_seats_167 : decode cX4_seats 167 = .ok (.iload_n 1, 1) := by decide +kernel
theorem dX4_seats_168 : decode cX4_seats 168 = .ok (.ireturn, 1) := by decide +kernel
theorem dX4_weights_0 : decode cX4_weights 0 = .ok (.aload_n 0, 1) := by decide +kernel
theorem dX4_weights_1 : decode cX4_weights 1 = .ok (.invokevirtual 115, 3) := by decide +kernel
theorem dX4_weights_4 : decode cX4_weights 4 = .ok (.istore_n 1, 1) := by decide +kernel
theorem dX4_weights_5 : decode cX4_weights 5 = .ok (.aload_n 0, 1) := by decide +kernel
theorem dX4_weights_6 : decode cX4_weights 6 = .ok (.invokevirtual 111, 3) := by decide +kernel
theorem dX4_weights_9 : decode cX4_weights 9 = .ok (.ifCond .eq 29, 3) := by decide +kernel
theorem dX4_weights_12 : decode cX4_weights 12 = .ok (.iload_n 1, 1) := by decide +kernel
theorem dX4_weights_13 : decode cX4_weights 13 = .ok (.ifCond .lt 25, 3) := by decide +kernel
theorem dX4_weights_16 : decode cX4_weights 16 = .ok (.iload_n 1, 1) := by decide +kernel
theorem dX4_weights_17 : decode cX4_weights 17 = .ok (.iconst 2, 1) := by decide +kernel
theorem dX4_weights_18 : decode cX4_weights 18 = .ok (.irem, 1) := by decide +kernel
theorem dX4_weights_19 : decode cX4_weights 19 = .ok (.ifCond .ne 19, 3) := by decide +kernel
theorem dX4_weights_22 : decode cX4_weights 22 = .ok (.iload_n 1, 1) := by decide +kernel
theorem dX4_weights_23 : decode cX4_weights 23 = .ok (.iconst 2, 1) := by decide +kernel
theorem dX4_weights_24 : decode cX4_weights 24 = .ok (.idiv, 1) := by decide +kernel
theorem dX4_weights_25 : decode cX4_weights 25 = .ok (.aload_n 0, 1) := by decide +kernel
theorem dX4_weights_26 : decode cX4_weights 26 = .ok (.getfield 7, 3) := by decide +kernel
theorem dX4_weights_29 : decode cX4_weights 29 = .ok (.iconst 2, 1) := by decide +kernel
theorem dX4_weights_30 : decode cX4_weights 30 = .ok (.iaload, 1) := by decide +kernel
theorem dX4_weights_31 : decode cX4_weights 31 = .ok (.if_icmp .gt 7, 3) := by decide +kernel
theorem dX4_weights_34 : decode cX4_weights 34 = .ok (.iconst 1, 1) := by decide +kernel
theorem dX4_weights_35 : decode cX4_weights 35 = .ok (.goto 4, 3) := by decide +kernel
theorem dX4_weights_38 : decode cX4_weights 38 = .ok (.iconst 0, 1) := by decide +kernel
theorem dX4_weights_39 : decode cX4_weights 39 = .ok (.istore_n 2, 1) := by decide +kernel
theorem dX4_weights_40 : decode cX4_weights 40 = .ok (.iload_n 2, 1) := by decide +kernel
theorem dX4_weights_41 : decode cX4_weights 41 = .ok (.ifCond .eq 9, 3) := by decide +kernel
theorem dX4_weights_44 : decode cX4_weights 44 = .ok (.iload_n 1, 1) := by decide +kernel
theorem dX4_weights_45 : decode cX4_weights 45 = .ok (.iconst 2, 1) := by decide +kernel
theorem dX4_weights_46 : decode cX4_weights 46 = .ok (.idiv, 1) := by decide +kernel
theorem dX4_weights_47 : decode cX4_weights 47 = .ok (.goto 9, 3) := by decide +kernel
theorem dX4_weights_50 : decode cX4_weights 50 = .ok (.aload_n 0, 1) := by decide +kernel
theorem dX4_weights_51 : decode cX4_weights 51 = .ok (.ldc 108, 2) := by decide +kernel
theorem dX4_weights_53 : decode cX4_weights 53 = .ok (.invokevirtual 56, 3) := by decide +kernel
theorem dX4_weights_56 : decode cX4_weights 56 = .ok (.ireturn, 1) := by decide +kernel
theorem dX4_sorrow_0 : decode cX4_sorrow 0 = .ok (.aload_n 0, 1) := by decide +kernel
theorem dX4_sorrow_1 : decode cX4_sorrow 1 = .ok (.iload_n 1, 1) := by decide +kernel
theorem dX4_sorrow_2 : decode cX4_sorrow 2 = .ok (.invokevirtual 67, 3) := by decide +kernel
theorem dX4_sorrow_5 : decode cX4_sorrow 5 = .ok (.ifCond .ne 10, 3) := by decide +kernel
theorem dX4_sorrow_8 : decode cX4_sorrow 8 = .ok (.aload_n 0, 1) := by decide +kernel
theorem dX4_sorrow_9 : decode cX4_sorrow 9 = .ok (.ldc 41, 2) := by decide +kernel
theorem dX4_sorrow_11 : decode cX4_sorrow 11 = .ok (.invokevirtual 56, 3) := by decide +kernel
theorem dX4_sorrow_14 : decode cX4_sorrow 14 = .ok (.ireturn, 1) := by decide +kernel
theorem dX4_sorrow_15 : decode cX4_sorrow 15 = .ok (.iconst (-1), 1) := by decide +kernel
theorem dX4_sorrow_16 : decode cX4_sorrow 16 = .ok (.istore_n 2, 1) := by decide +kernel
theorem dX4_sorrow_17 : decode cX4_sorrow 17 = .ok (.aload_n 0, 1) := by decide +kernel
theorem dX4_sorrow_18 : decode cX4_sorrow 18 = .ok (.invokevirtual 139, 3) := by decide +kernel
theorem dX4_sorrow_21 : decode cX4_sorrow 21 = .ok (.iconst 0, 1) := by decide +kernel
theorem dX4_sorrow_22 : decode cX4_sorrow 22 = .ok (.istore_n 3, 1) := by decide +kernel
theorem dX4_sorrow_23 : decode cX4_sorrow 23 = .ok (.iload_n 3, 1) := by decide +kernel
theorem dX4_sorrow_24 : decode cX4_sorrow 24 = .ok (.bipush 99, 2) := by decide +kernel
theorem dX4_sorrow_26 : decode cX4_sorrow 26 = .ok (.if_icmp .gt 37, 3) := by decide +kernel
theorem dX4_sorrow_29 : decode cX4_sorrow 29 = .ok (.iload_n 2, 1) := by decide +kernel
theorem dX4_sorrow_30 : decode cX4_sorrow 30 = .ok (.ifCond .ge 33, 3) := by decide +kernel
theorem dX4_sorrow_33 : decode cX4_sorrow 33 = .ok (.aload_n 0, 1) := by decide +kernel
theorem dX4_sorrow_34 : decode cX4_sorrow 34 = .ok (.iload_n 1, 1) := by decide +kernel
theorem dX4_sorrow_35 : decode cX4_sorrow 35 = .ok (.iconst 0, 1) := by decide +kernel
theorem dX4_sorrow_36 : decode cX4_sorrow 36 = .ok (.iload_n 3, 1) := by decide +kernel
theorem dX4_sorrow_37 : decode cX4_sorrow 37 = .ok (.invokevirtual 95, 3) := by decide +kernel
theorem dX4_sorrow_40 : decode cX4_sorrow 40 = .ok (.aload_n 0, 1) := by decide +kernel
theorem dX4_sorrow_41 : decode cX4_sorrow 41 = .ok (.aload_n 0, 1) := by decide +kernel
theorem dX4_sorrow_42 : decode cX4_sorrow 42 = .ok (.invokevirtual 115, 3) := by decide +kernel
theorem dX4_sorrow_45 : decode cX4_sorrow 45 = .ok (.ifCond .ne 7, 3) := by decide +kernel
theorem dX4_sorrow_48 : decode cX4_sorrow 48 = .ok (.iload_n 3, 1) := by decide +kernel
theorem dX4_sorrow_49 : decode cX4_sorrow 49 = .ok (.goto 4, 3) := by decide +kernel
theorem dX4_sorrow_52 : decode cX4_sorrow 52 = .ok (.iconst (-1), 1) := by decide +kernel
theorem dX4_sorrow_53 : decode cX4_sorrow 53 = .ok (.invokevirtual 142, 3) := by decide +kernel
theorem dX4_sorrow_56 : decode cX4_sorrow 56 = .ok (.istore_n 2, 1) := by decide +kernel
theorem dX4_sorrow_57 : decode cX4_sorrow 57 = .ok (.iinc 3 1, 3) := by decide +kernel
theorem dX4_sorrow_60 : decode cX4_sorrow 60 = .ok (.goto (-37), 3) := by decide +kernel
theorem dX4_sorrow_63 : decode cX4_sorrow 63 = .ok (.iload_n 2, 1) := by decide +kernel
theorem dX4_sorrow_64 : decode cX4_sorrow 64 = .ok (.ifCond .ge 12, 3) := by decide +kernel
theorem dX4_sorrow_67 : decode cX4_sorrow 67 = .ok (.aload_n 0, 1) := by decide +kernel
theorem dX4_sorrow_68 : decode cX4_sorrow 68 = .ok (.ldc 108, 2) := by decide +kernel
theorem dX4_sorrow_70 : decode cX4_sorrow 70 = .ok (.invokevirtual 56, 3) := by decide +kernel
theorem dX4_sorrow_73 : decode cX4_sorrow 73 = .ok (.goto 4, 3) := by decide +kernel
theorem dX4_sorrow_76 : decode cX4_sorrow 76 = .ok (.iload_n 2, 1) := by decide +kernel
theorem dX4_sorrow_77 : decode cX4_sorrow 77 = .ok (.ireturn, 1) := by decide +kernel
theorem dX4_kind_0 : decode cX4_kind 0 = .ok (.aload_n 0, 1) := by decide +kernel
theorem dX4_kind_1 : decode cX4_kind 1 = .ok (.iload_n 1, 1) := by decide +kernel
theorem dX4_kind_2 : decode cX4_kind 2 = .ok (.invokevirtual 67, 3) := by decide +kernel
theorem dX4_kind_5 : decode cX4_kind 5 = .ok (.ifCond .ne 10, 3) := by decide +kernel
theorem dX4_kind_8 : decode cX4_kind 8 = .ok (.aload_n 0, 1) := by decide +kernel
theorem dX4_kind_9 : decode cX4_kind 9 = .ok (.ldc 41, 2) := by decide +kernel
theorem dX4_kind_11 : decode cX4_kind 11 = .ok (.invokevirtual 56, 3) := by decide +kernel
theorem dX4_kind_14 : decode cX4_kind 14 = .ok (.ireturn, 1) := by decide +kernel
theorem dX4_kind_15 : decode cX4_kind 15 = .ok (.aload_n 0, 1) := by decide +kernel
theorem dX4_kind_16 : decode cX4_kind 16 = .ok (.iload_n 1, 1) := by decide +kernel
theorem dX4_kind_17 : decode cX4_kind 17 = .ok (.iconst 0, 1) := by decide +kernel
theorem dX4_kind_18 : decode cX4_kind 18 = .ok (.invokevirtual 64, 3) := by decide +kernel
theorem dX4_kind_21 : decode cX4_kind 21 = .ok (.istore_n 2, 1) := by decide +kernel
theorem dX4_kind_22 : decode cX4_kind 22 = .ok (.iconst 0, 1) := by decide +kernel
theorem dX4_kind_23 : decode cX4_kind 23 = .ok (.istore_n 3, 1) := by decide +kernel
theorem dX4_kind_24 : decode cX4_kind 24 = .ok (.sipush 10000, 3) := by decide +kernel
theorem dX4_kind_27 : decode cX4_kind 27 = .ok (.istore 4, 2) := by decide +kernel
theorem dX4_kind_29 : decode cX4_kind 29 = .ok (.iconst 0, 1) := by decide +kernel
theorem dX4_kind_30 : decode cX4_kind 30 = .ok (.istore 5, 2) := by decide +kernel
theorem dX4_kind_32 : decode cX4_kind 32 = .ok (.iload 5, 2) := by decide +kernel
theorem dX4_kind_34 : decode cX4_kind 34 = .ok (.iconst 5, 1) := by decide +kernel
theorem dX4_kind_35 : decode cX4_kind 35 = .ok (.if_icmp .gt 57, 3) := by decide +kernel
theorem dX4_kind_38 : decode cX4_kind 38 = .ok (.aload_n 0, 1) := by decide +kernel
theorem dX4_kind_39 : decode cX4_kind 39 = .ok (.getfield 7, 3) := by decide +kernel
theorem dX4_kind_42 : decode cX4_kind 42 = .ok (.iload_n 1, 1) := by decide +kernel
theorem dX4_kind_43 : decode cX4_kind 43 = .ok (.iconst 0, 1) := by decide +kernel
theorem dX4_kind_44 : decode cX4_kind 44 = .ok (.invokestatic 48, 3) := by decide +kernel
theorem dX4_kind_47 : decode cX4_kind 47 = .ok (.iload 5, 2) := by decide +kernel
theorem dX4_kind_49 : decode cX4_kind 49 = .ok (.iastore, 1) := by decide +kernel
theorem dX4_kind_50 : decode cX4_kind 50 = .ok (.aload_n 0, 1) := by decide +kernel
theorem dX4_kind_51 : decode cX4_kind 51 = .ok (.invokevirtual 149, 3) := by decide +kernel
theorem dX4_kind_54 : decode cX4_kind 54 = .ok (.istore 6, 2) := by decide +kernel
theorem dX4_kind_56 : decode cX4_kind 56 = .ok (.iload 6, 2) := by decide +kernel
theorem dX4_kind_58 : decode cX4_kind 58 = .ok (.iload 4, 2) := by decide +kernel
theorem dX4_kind_60 : decode cX4_kind 60 = .ok (.if_icmp .ge 8, 3) := by decide +kernel
theorem dX4_kind_63 : decode cX4_kind 63 = .ok (.iload 5, 2) := by decide +kernel
theorem dX4_kind_65 : decode cX4_kind 65 = .ok (.goto 4, 3) := by decide +kernel
theorem dX4_kind_68 : decode cX4_kind 68 = .ok (.iload_n 3, 1) := by decide +kernel
theorem dX4_kind_69 : decode cX4_kind 69 = .ok (.istore_n 3, 1) := by decide +kernel
theorem dX4_kind_70 : decode cX4_kind 70 = .ok (.iload 6, 2) := by decide +kernel
theorem dX4_kind_72 : decode cX4_kind 72 = .ok (.iload 4, 2) := by decide +kernel
theorem dX4_kind_74 : decode cX4_kind 74 = .ok (.if_icmp .ge 8, 3) := by decide +kernel
theorem dX4_kind_77 : decode cX4_kind 77 = .ok (.iload 6, 2) := by decide +kernel
theorem dX4_kind_79 : decode cX4_kind 79 = .ok (.goto 5, 3) := by decide +kernel
theorem dX4_kind_82 : decode cX4_kind 82 = .ok (.iload 4, 2) := by decide +kernel
theorem dX4_kind_84 : decode cX4_kind 84 = .ok (.istore 4, 2) := by decide +kernel
theorem dX4_kind_86 : decode cX4_kind 86 = .ok (.iinc 5 1, 3) := by decide +kernel
theorem dX4_kind_89 : decode cX4_kind 89 = .ok (.goto (-57), 3) := by decide +kernel
theorem dX4_kind_92 : decode cX4_kind 92 = .ok (.aload_n 0, 1) := by decide +kernel
theorem dX4_kind_93 : decode cX4_kind 93 = .ok (.getfield 7, 3) := by decide +kernel
theorem dX4_kind_96 : decode cX4_kind 96 = .ok (.iload_n 1, 1) := by decide +kernel
theorem dX4_kind_97 : decode cX4_kind 97 = .ok (.iconst 0, 1) := by decide +kernel
theorem dX4_kind_98 : decode cX4_kind 98 = .ok (.invokestatic 48, 3) := by decide +kernel
theorem dX4_kind_101 : decode cX4_kind 101 = .ok (.iload_n 2, 1) := by decide +kernel
theorem dX4_kind_102 : decode cX4_kind 102 = .ok (.iastore, 1) := by decide +kernel
theorem dX4_kind_103 : decode cX4_kind 103 = .ok (.iload_n 3, 1) := by decide +kernel
theorem dX4_kind_104 : decode cX4_kind 104 = .ok (.ireturn, 1) := by decide +kernel
theorem dX4_isSoon_0 : decode cX4_isSoon 0 = .ok (.iload_n 0, 1) := by decide +kernel
theorem dX4_isSoon_1 : decode cX4_isSoon 1 = .ok (.i2l, 1) := by decide +kernel
theorem dX4_isSoon_2 : decode cX4_isSoon 2 = .ok (.iload_n 1, 1) := by decide +kernel
theorem dX4_isSoon_3 : decode cX4_isSoon 3 = .ok (.i2l, 1) := by decide +kernel
theorem dX4_isSoon_4 : decode cX4_isSoon 4 = .ok (.ldc2_w 152, 3) := by decide +kernel
theorem dX4_isSoon_7 : decode cX4_isSoon 7 = .ok (.invokestatic 42, 3) := by decide +kernel
theorem dX4_isSoon_10 : decode cX4_isSoon 10 = .ok (.ireturn, 1) := by decide +kernel
theorem dX4_delay_0 : decode cX4_delay 0 = .ok (.aload_n 0, 1) := by decide +kernel
theorem dX4_delay_1 : decode cX4_delay 1 = .ok (.iload_n 1, 1) := by decide +kernel
theorem dX4_delay_2 : decode cX4_delay 2 = .ok (.invokevirtual 67, 3) := by decide +kernel
theorem dX4_delay_5 : decode cX4_delay 5 = .ok (.ifCond .eq 18, 3) := by decide +kernel
theorem dX4_delay_8 : decode cX4_delay 8 = .ok (.iload_n 2, 1) := by decide +kernel
theorem dX4_delay_9 : decode cX4_delay 9 = .ok (.invokestatic 99, 3) := by decide +kernel
theorem dX4_delay_12 : decode cX4_delay 12 = .ok (.ifCond .eq 11, 3) := by decide +kernel
theorem dX4_delay_15 : decode cX4_delay 15 = .ok (.iload_n 3, 1) := by decide +kernel
theorem dX4_delay_16 : decode cX4_delay 16 = .ok (.iconst 1, 1) := by decide +kernel
theorem dX4_delay_17 : decode cX4_delay 17 = .ok (.invokestatic 154, 3) := by decide +kernel
theorem dX4_delay_20 : decode cX4_delay 20 = .ok (.ifCond .ne 10, 3) := by decide +kernel
theorem dX4_delay_23 : decode cX4_delay 23 = .ok (.aload_n 0, 1) := by decide +kernel
theorem dX4_delay_24 : decode cX4_delay 24 = .ok (.ldc 41, 2) := by decide +kernel
theorem dX4_delay_26 : decode cX4_delay 26 = .ok (.invokevirtual 56, 3) := by decide +kernel
theorem dX4_delay_29 : decode cX4_delay 29 = .ok (.ireturn, 1) := by decide +kernel
theorem dX4_delay_30 : decode cX4_delay 30 = .ok (.aload_n 0, 1) := by decide +kernel
theorem dX4_delay_31 : decode cX4_delay 31 = .ok (.iload_n 1, 1) := by decide +kernel
theorem dX4_delay_32 : decode cX4_delay 32 = .ok (.iconst 3, 1) := by decide +kernel
theorem dX4_delay_33 : decode cX4_delay 33 = .ok (.invokevirtual 64, 3) := by decide +kernel
theorem dX4_delay_36 : decode cX4_delay 36 = .ok (.iconst (-1), 1) := by decide +kernel
theorem dX4_delay_37 : decode cX4_delay 37 = .ok (.if_icmp .eq 10, 3) := by decide +kernel
theorem dX4_delay_40 : decode cX4_delay 40 = .ok (.aload_n 0, 1) := by decide +kernel
theorem dX4_delay_41 : decode cX4_delay 41 = .ok (.ldc 129, 2) := by decide +kernel
theorem dX4_delay_43 : decode cX4_delay 43 = .ok (.invokevirtual 56, 3) := by decide +kernel
theorem dX4_delay_46 : decode cX4_delay 46 = .ok (.ireturn, 1) := by decide +kernel
theorem dX4_delay_47 : decode cX4_delay 47 = .ok (.iconst (-1), 1) := by decide +kernel
theorem dX4_delay_48 : decode cX4_delay 48 = .ok (.istore 4, 2) := by decide +kernel
theorem dX4_delay_50 : decode cX4_delay 50 = .ok (.aload_n 0, 1) := by decide +kernel
theorem dX4_delay_51 : decode cX4_delay 51 = .ok (.invokevirtual 139, 3) := by decide +kernel
theorem dX4_delay_54 : decode cX4_delay 54 = .ok (.iconst 0, 1) := by decide +kernel
theorem dX4_delay_55 : decode cX4_delay 55 = .ok (.istore 5, 2) := by decide +kernel
theorem dX4_delay_57 : decode cX4_delay 57 = .ok (.iload 5, 2) := by decide +kernel
theorem dX4_delay_59 : decode cX4_delay 59 = .ok (.iload_n 3, 1) := by decide +kernel
theorem dX4_delay_60 : decode cX4_delay 60 = .ok (.if_icmp .gt 58, 3) := by decide +kernel
theorem dX4_delay_63 : decode cX4_delay 63 = .ok (.iload 4, 2) := by decide +kernel
theorem dX4_delay_65 : decode cX4_delay 65 = .ok (.ifCond .ge 53, 3) := by decide +kernel
theorem dX4_delay_68 : decode cX4_delay 68 = .ok (.aload_n 0, 1) := by decide +kernel
theorem dX4_delay_69 : decode cX4_delay 69 = .ok (.iload 5, 2) := by decide +kernel
theorem dX4_delay_71 : decode cX4_delay 71 = .ok (.invokevirtual 130, 3) := by decide +kernel
theorem dX4_delay_74 : decode cX4_delay 74 = .ok (.aload_n 0, 1) := by decide +kernel
theorem dX4_delay_75 : decode cX4_delay 75 = .ok (.getfield 7, 3) := by decide +kernel
theorem dX4_delay_78 : decode cX4_delay 78 = .ok (.iload_n 1, 1) := by decide +kernel
theorem dX4_delay_79 : decode cX4_delay 79 = .ok (.iconst 3, 1) := by decide +kernel
theorem dX4_delay_80 : decode cX4_delay 80 = .ok (.invokestatic 48, 3) := by decide +kernel
theorem dX4_delay_83 : decode cX4_delay 83 = .ok (.iload_n 2, 1) := by decide +kernel
theorem dX4_delay_84 : decode cX4_delay 84 = .ok (.iastore, 1) := by decide +kernel
theorem dX4_delay_85 : decode cX4_delay 85 = .ok (.aload_n 0, 1) := by decide +kernel
theorem dX4_delay_86 : decode cX4_delay 86 = .ok (.iload_n 3, 1) := by decide +kernel
theorem dX4_delay_87 : decode cX4_delay 87 = .ok (.iload 5, 2) := by decide +kernel
theorem dX4_delay_89 : decode cX4_delay 89 = .ok (.isub, 1) := by decide +kernel
theorem dX4_delay_90 : decode cX4_delay 90 = .ok (.invokevirtual 130, 3) := by decide +kernel
theorem dX4_delay_93 : decode cX4_delay 93 = .ok (.aload_n 0, 1) := by decide +kernel
theorem dX4_delay_94 : decode cX4_delay 94 = .ok (.aload_n 0, 1) := by decide +kernel
theorem dX4_delay_95 : decode cX4_delay 95 = .ok (.invokevirtual 115, 3) := by decide +kernel
theorem dX4_delay_98 : decode cX4_delay 98 = .ok (.ifCond .ne 8, 3) := by decide +kernel
theorem dX4_delay_101 : decode cX4_delay 101 = .ok (.iload 5, 2) := by decide +kernel
theorem dX4_delay_103 : decode cX4_delay 103 = .ok (.goto 4, 3) := by decide +kernel
theorem dX4_delay_106 : decode cX4_delay 106 = .ok (.iconst (-1), 1) := by decide +kernel
theorem dX4_delay_107 : decode cX4_delay 107 = .ok (.invokevirtual 142, 3) := by decide +kernel
theorem dX4_delay_110 : decode cX4_delay 110 = .ok (.istore 4, 2) := by decide +kernel
theorem dX4_delay_112 : decode cX4_delay 112 = .ok (.iinc 5 1, 3) := by decide +kernel
theorem dX4_delay_115 : decode cX4_delay 115 = .ok (.goto (-58), 3) := by decide +kernel
theorem dX4_delay_118 : decode cX4_delay 118 = .ok (.iload 4, 2) := by decide +kernel
theorem dX4_delay_120 : decode cX4_delay 120 = .ok (.ifCond .ge 12, 3) := by decide +kernel
theorem dX4_delay_123 : decode cX4_delay 123 = .ok (.aload_n 0, 1) := by decide +kernel
theorem dX4_delay_124 : decode cX4_delay 124 = .ok (.ldc 108, 2) := by decide +kernel
theorem dX4_delay_126 : decode cX4_delay 126 = .ok (.invokevirtual 56, 3) := by decide +kernel
theorem dX4_delay_129 : decode cX4_delay 129 = .ok (.goto 5, 3) := by decide +kernel
theorem dX4_delay_132 : decode cX4_delay 132 = .ok (.iload 4, 2) := by decide +kernel
theorem dX4_delay_134 : decode cX4_delay 134 = .ok (.ireturn, 1) := by decide +kernel
theorem dX4_fewest_0 : decode cX4_fewest 0 = .ok (.iload_n 1, 1) := by decide +kernel
theorem dX4_fewest_1 : decode cX4_fewest 1 = .ok (.invokestatic 99, 3) := by decide +kernel
theorem dX4_fewest_4 : decode cX4_fewest 4 = .ok (.ifCond .ne 10, 3) := by decide +kernel
theorem dX4_fewest_7 : decode cX4_fewest 7 = .ok (.aload_n 0, 1) := by decide +kernel
theorem dX4_fewest_8 : decode cX4_fewest 8 = .ok (.ldc 41, 2) := by decide +kernel
theorem dX4_fewest_10 : decode cX4_fewest 10 = .ok (.invokevirtual 56, 3) := by decide +kernel
theorem dX4_fewest_13 : decode cX4_fewest 13 = .ok (.ireturn, 1) := by decide +kernel
theorem dX4_fewest_14 : decode cX4_fewest 14 = .ok (.aload_n 0, 1) := by decide +kernel
theorem dX4_fewest_15 : decode cX4_fewest 15 = .ok (.iload_n 1, 1) := by decide +kernel
theorem dX4_fewest_16 : decode cX4_fewest 16 = .ok (.invokevirtual 105, 3) := by decide +kernel
theorem dX4_fewest_19 : decode cX4_fewest 19 = .ok (.istore_n 2, 1) := by decide +kernel
theorem dX4_fewest_20 : decode cX4_fewest 20 = .ok (.iconst (-1), 1) := by decide +kernel
theorem dX4_fewest_21 : decode cX4_fewest 21 = .ok (.istore_n 3, 1) := by decide +kernel
theorem dX4_fewest_22 : decode cX4_fewest 22 = .ok (.aload_n 0, 1) := by decide +kernel
theorem dX4_fewest_23 : decode cX4_fewest 23 = .ok (.invokevirtual 139, 3) := by decide +kernel
theorem dX4_fewest_26 : decode cX4_fewest 26 = .ok (.iconst 0, 1) := by decide +kernel
theorem dX4_fewest_27 : decode cX4_fewest 27 = .ok (.istore 4, 2) := by decide +kernel
theorem dX4_fewest_29 : decode cX4_fewest 29 = .ok (.iload 4, 2) := by decide +kernel
theorem dX4_fewest_31 : decode cX4_fewest 31 = .ok (.iload_n 2, 1) := by decide +kernel
theorem dX4_fewest_32 : decode cX4_fewest 32 = .ok (.if_icmp .gt 105, 3) := by decide +kernel
theorem dX4_fewest_35 : decode cX4_fewest 35 = .ok (.iload 4, 2) := by decide +kernel
theorem dX4_fewest_37 : decode cX4_fewest 37 = .ok (.iload_n 2, 1) := by decide +kernel
theorem dX4_fewest_38 : decode cX4_fewest 38 = .ok (.iconst (-1), 1) := by decide +kernel
theorem dX4_fewest_39 : decode cX4_fewest 39 = .ok (.ixor, 1) := by decide +kernel
theorem dX4_fewest_40 : decode cX4_fewest 40 = .ok (.iand, 1) := by decide +kernel
theorem dX4_fewest_41 : decode cX4_fewest 41 = .ok (.ifCond .ne 90, 3) := by decide +kernel
theorem dX4_fewest_44 : decode cX4_fewest 44 = .ok (.iload_n 3, 1) := by decide +kernel
theorem dX4_fewest_45 : decode cX4_fewest 45 = .ok (.ifCond .lt 15, 3) := by decide +kernel
theorem dX4_fewest_48 : decode cX4_fewest 48 = .ok (.iload 4, 2) := by decide +kernel
theorem dX4_fewest_50 : decode cX4_fewest 50 = .ok (.invokestatic 146, 3) := by decide +kernel
theorem dX4_fewest_53 : decode cX4_fewest 53 = .ok (.iload_n 3, 1) := by decide +kernel
theorem dX4_fewest_54 : decode cX4_fewest 54 = .ok (.invokestatic 146, 3) := by decide +kernel
theorem dX4_fewest_57 : decode cX4_fewest 57 = .ok (.if_icmp .ge 74, 3) := by decide +kernel
theorem dX4_fewest_60 : decode cX4_fewest 60 = .ok (.iconst 0, 1) := by decide +kernel
theorem dX4_fewest_61 : decode cX4_fewest 61 = .ok (.istore 5, 2) := by decide +kernel
theorem dX4_fewest_63 : decode cX4_fewest 63 = .ok (.iload 5, 2) := by decide +kernel
theorem dX4_fewest_65 : decode cX4_fewest 65 = .ok (.aload_n 0, 1) := by decide +kernel
theorem dX4_fewest_66 : decode cX4_fewest 66 = .ok (.getfield 7, 3) := by decide +kernel
theorem dX4_fewest_69 : decode cX4_fewest 69 = .ok (.iconst 0, 1) := by decide +kernel
theorem dX4_fewest_70 : decode cX4_fewest 70 = .ok (.iaload, 1) := by decide +kernel
theorem dX4_fewest_71 : decode cX4_fewest 71 = .ok (.if_icmp .ge 42, 3) := by decide +kernel
theorem dX4_fewest_74 : decode cX4_fewest 74 = .ok (.aload_n 0, 1) := by decide +kernel
theorem dX4_fewest_75 : decode cX4_fewest 75 = .ok (.getfield 7, 3) := by decide +kernel
theorem dX4_fewest_78 : decode cX4_fewest 78 = .ok (.iload 5, 2) := by decide +kernel
theorem dX4_fewest_80 : decode cX4_fewest 80 = .ok (.iconst 3, 1) := by decide +kernel
theorem dX4_fewest_81 : decode cX4_fewest 81 = .ok (.invokestatic 48, 3) := by decide +kernel
theorem dX4_fewest_84 : decode cX4_fewest 84 = .ok (.iload 4, 2) := by decide +kernel
theorem dX4_fewest_86 : decode cX4_fewest 86 = .ok (.iload 5, 2) := by decide +kernel
theorem dX4_fewest_88 : decode cX4_fewest 88 = .ok (.ishr, 1) := by decide +kernel
theorem dX4_fewest_89 : decode cX4_fewest 89 = .ok (.iconst 1, 1) := by decide +kernel
theorem dX4_fewest_90 : decode cX4_fewest 90 = .ok (.iand, 1) := by decide +kernel
theorem dX4_fewest_91 : decode cX4_fewest 91 = .ok (.iconst 1, 1) := by decide +kernel
theorem dX4_fewest_92 : decode cX4_fewest 92 = .ok (.if_icmp .ne 7, 3) := by decide +kernel
theorem dX4_fewest_95 : decode cX4_fewest 95 = .ok (.iconst (-1), 1) := by decide +kernel
theorem dX4_fewest_96 : decode cX4_fewest 96 = .ok (.goto 10, 3) := by decide +kernel
theorem dX4_fewest_99 : decode cX4_fewest 99 = .ok (.aload_n 0, 1) := by decide +kernel
theorem dX4_fewest_100 : decode cX4_fewest 100 = .ok (.iload 5, 2) := by decide +kernel
theorem dX4_fewest_102 : decode cX4_fewest 102 = .ok (.iconst 3, 1) := by decide +kernel
theorem dX4_fewest_103 : decode cX4_fewest 103 = .ok (.invokevirtual 64, 3) := by decide +kernel
theorem dX4_fewest_106 : decode cX4_fewest 106 = .ok (.iastore, 1) := by decide +kernel
theorem dX4_fewest_107 : decode cX4_fewest 107 = .ok (.iinc 5 1, 3) := by decide +kernel
theorem dX4_fewest_110 : decode cX4_fewest 110 = .ok (.goto (-47), 3) := by decide +kernel
theorem dX4_fewest_113 : decode cX4_fewest 113 = .ok (.aload_n 0, 1) := by decide +kernel
theorem dX4_fewest_114 : decode cX4_fewest 114 = .ok (.aload_n 0, 1) := by decide +kernel
theorem dX4_fewest_115 : decode cX4_fewest 115 = .ok (.invokevirtual 115, 3) := by decide +kernel
theorem dX4_fewest_118 : decode cX4_fewest 118 = .ok (.ifCond .ne 8, 3) := by decide +kernel
theorem dX4_fewest_121 : decode cX4_fewest 121 = .ok (.iload 4, 2) := by decide +kernel
theorem dX4_fewest_123 : decode cX4_fewest 123 = .ok (.goto 4, 3) := by decide +kernel
theorem dX4_fewest_126 : decode cX4_fewest 126 = .ok (.iload_n 3, 1) := by decide +kernel
theorem dX4_fewest_127 : decode cX4_fewest 127 = .ok (.invokevirtual 142, 3) := by decide +kernel
theorem dX4_fewest_130 : decode cX4_fewest 130 = .ok (.istore_n 3, 1) := by decide +kernel
theorem dX4_fewest_131 : decode cX4_fewest 131 = .ok (.iinc 4 1, 3) := by decide +kernel
theorem dX4_fewest_134 : decode cX4_fewest 134 = .ok (.goto (-105), 3) := by decide +kernel
theorem dX4_fewest_137 : decode cX4_fewest 137 = .ok (.iload_n 3, 1) := by decide +kernel
theorem dX4_fewest_138 : decode cX4_fewest 138 = .ok (.ifCond .ge 12, 3) := by decide +kernel
theorem dX4_fewest_141 : decode cX4_fewest 141 = .ok (.aload_n 0, 1) := by decide +kernel
theorem dX4_fewest_142 : decode cX4_fewest 142 = .ok (.ldc 108, 2) := by decide +kernel
theorem dX4_fewest_144 : decode cX4_fewest 144 = .ok (.invokevirtual 56, 3) := by decide +kernel
theorem dX4_fewest_147 : decode cX4_fewest 147 = .ok (.goto 4, 3) := by decide +kernel
theorem dX4_fewest_150 : decode cX4_fewest 150 = .ok (.iload_n 3, 1) := by decide +kernel
theorem dX4_fewest_151 : decode cX4_fewest 151 = .ok (.ireturn, 1) := by decide +kernel
theorem dX4_helps_0 : decode cX4_helps 0 = .ok (.aload_n 0, 1) := by decide +kernel
theorem dX4_helps_1 : decode cX4_helps 1 = .ok (.iload_n 1, 1) := by decide +kernel
theorem dX4_helps_2 : decode cX4_helps 2 = .ok (.invokevirtual 67, 3) := by decide +kernel
theorem dX4_helps_5 : decode cX4_helps 5 = .ok (.ifCond .eq 18, 3) := by decide +kernel
theorem dX4_helps_8 : decode cX4_helps 8 = .ok (.iload_n 2, 1) := by decide +kernel
theorem dX4_helps_9 : decode cX4_helps 9 = .ok (.invokestatic 99, 3) := by decide +kernel
theorem dX4_helps_12 : decode cX4_helps 12 = .ok (.ifCond .eq 11, 3) := by decide +kernel
theorem dX4_helps_15 : decode cX4_helps 15 = .ok (.iload_n 3, 1) := by decide +kernel
theorem dX4_helps_16 : decode cX4_helps 16 = .ok (.iconst 0, 1) := by decide +kernel
theorem dX4_helps_17 : decode cX4_helps 17 = .ok (.invokestatic 154, 3) := by decide +kernel
theorem dX4_helps_20 : decode cX4_helps 20 = .ok (.ifCond .ne 10, 3) := by decide +kernel
theorem dX4_helps_23 : decode cX4_helps 23 = .ok (.aload_n 0, 1) := by decide +kernel
theorem dX4_helps_24 : decode cX4_helps 24 = .ok (.ldc 41, 2) := by decide +kernel
theorem dX4_helps_26 : decode cX4_helps 26 = .ok (.invokevirtual 56, 3) := by decide +kernel
theorem dX4_helps_29 : decode cX4_helps 29 = .ok (.ireturn, 1) := by decide +kernel
theorem dX4_helps_30 : decode cX4_helps 30 = .ok (.aload_n 0, 1) := by decide +kernel
theorem dX4_helps_31 : decode cX4_helps 31 = .ok (.iload_n 1, 1) := by decide +kernel
theorem dX4_helps_32 : decode cX4_helps 32 = .ok (.iconst 3, 1) := by decide +kernel
theorem dX4_helps_33 : decode cX4_helps 33 = .ok (.invokevirtual 64, 3) := by decide +kernel
theorem dX4_helps_36 : decode cX4_helps 36 = .ok (.iconst (-1), 1) := by decide +kernel
theorem dX4_helps_37 : decode cX4_helps 37 = .ok (.if_icmp .eq 10, 3) := by decide +kernel
theorem dX4_helps_40 : decode cX4_helps 40 = .ok (.aload_n 0, 1) := by decide +kernel
theorem dX4_helps_41 : decode cX4_helps 41 = .ok (.ldc 129, 2) := by decide +kernel
theorem dX4_helps_43 : decode cX4_helps 43 = .ok (.invokevirtual 56, 3) := by decide +kernel
theorem dX4_helps_46 : decode cX4_helps 46 = .ok (.ireturn, 1) := by decide +kernel
theorem dX4_helps_47 : decode cX4_helps 47 = .ok (.aload_n 0, 1) := by decide +kernel
theorem dX4_helps_48 : decode cX4_helps 48 = .ok (.invokevirtual 139, 3) := by decide +kernel
theorem dX4_helps_51 : decode cX4_helps 51 = .ok (.aload_n 0, 1) := by decide +kernel
theorem dX4_helps_52 : decode cX4_helps 52 = .ok (.iload_n 3, 1) := by decide +kernel
theorem dX4_helps_53 : decode cX4_helps 53 = .ok (.invokevirtual 130, 3) := by decide +kernel
theorem dX4_helps_56 : decode cX4_helps 56 = .ok (.aload_n 0, 1) := by decide +kernel
theorem dX4_helps_57 : decode cX4_helps 57 = .ok (.aload_n 0, 1) := by decide +kernel
theorem dX4_helps_58 : decode cX4_helps 58 = .ok (.invokevirtual 149, 3) := by decide +kernel
theorem dX4_helps_61 : decode cX4_helps 61 = .ok (.invokevirtual 142, 3) := by decide +kernel
theorem dX4_helps_64 : decode cX4_helps 64 = .ok (.istore 4, 2) := by decide +kernel
theorem dX4_helps_66 : decode cX4_helps 66 = .ok (.aload_n 0, 1) := by decide +kernel
theorem dX4_helps_67 : decode cX4_helps 67 = .ok (.getfield 7, 3) := by decide +kernel
theorem dX4_helps_70 : decode cX4_helps 70 = .ok (.iload_n 1, 1) := by decide +kernel
theorem dX4_helps_71 : decode cX4_helps 71 = .ok (.iconst 3, 1) := by decide +kernel
theorem dX4_helps_72 : decode cX4_helps 72 = .ok (.invokestatic 48, 3) := by decide +kernel
theorem dX4_helps_75 : decode cX4_helps 75 = .ok (.iload_n 2, 1) := by decide +kernel
theorem dX4_helps_76 : decode cX4_helps 76 = .ok (.iastore, 1) := by decide +kernel
theorem dX4_helps_77 : decode cX4_helps 77 = .ok (.aload_n 0, 1) := by decide +kernel
theorem dX4_helps_78 : decode cX4_helps 78 = .ok (.iload_n 3, 1) := by decide +kernel
theorem dX4_helps_79 : decode cX4_helps 79 = .ok (.invokevirtual 130, 3) := by decide +kernel
theorem dX4_helps_82 : decode cX4_helps 82 = .ok (.aload_n 0, 1) := by decide +kernel
theorem dX4_helps_83 : decode cX4_helps 83 = .ok (.aload_n 0, 1) := by decide +kernel
theorem dX4_helps_84 : decode cX4_helps 84 = .ok (.invokevirtual 149, 3) := by decide +kernel
theorem dX4_helps_87 : decode cX4_helps 87 = .ok (.invokevirtual 142, 3) := by decide +kernel
theorem dX4_helps_90 : decode cX4_helps 90 = .ok (.istore 5, 2) := by decide +kernel
theorem dX4_helps_92 : decode cX4_helps 92 = .ok (.iload 5, 2) := by decide +kernel
theorem dX4_helps_94 : decode cX4_helps 94 = .ok (.iload 4, 2) := by decide +kernel
theorem dX4_helps_96 : decode cX4_helps 96 = .ok (.if_icmp .ge 7, 3) := by decide +kernel
theorem dX4_helps_99 : decode cX4_helps 99 = .ok (.iconst 1, 1) := by decide +kernel
theorem dX4_helps_100 : decode cX4_helps 100 = .ok (.goto 4, 3) := by decide +kernel
theorem dX4_helps_103 : decode cX4_helps 103 = .ok (.iconst 0, 1) := by decide +kernel
theorem dX4_helps_104 : decode cX4_helps 104 = .ok (.ireturn, 1) := by decide +kernel
theorem dX4_feed_0 : decode cX4_feed 0 = .ok (.iload_n 2, 1) := by decide +kernel
theorem dX4_feed_1 : decode cX4_feed 1 = .ok (.i2l, 1) := by decide +kernel
theorem dX4_feed_2 : decode cX4_feed 2 = .ok (.lconst 1, 1) := by decide +kernel
theorem dX4_feed_3 : decode cX4_feed 3 = .ok (.ldc2_w 70, 3) := by decide +kernel
theorem dX4_feed_6 : decode cX4_feed 6 = .ok (.invokestatic 42, 3) := by decide +kernel
theorem dX4_feed_9 : decode cX4_feed 9 = .ok (.ifCond .ne 10, 3) := by decide +kernel
theorem dX4_feed_12 : decode cX4_feed 12 = .ok (.aload_n 0, 1) := by decide +kernel
theorem dX4_feed_13 : decode cX4_feed 13 = .ok (.ldc 41, 2) := by decide +kernel
theorem dX4_feed_15 : decode cX4_feed 15 = .ok (.invokevirtual 56, 3) := by decide +kernel
theorem dX4_feed_18 : decode cX4_feed 18 = .ok (.ireturn, 1) := by decide +kernel
theorem dX4_feed_19 : decode cX4_feed 19 = .ok (.aload_n 0, 1) := by decide +kernel
theorem dX4_feed_20 : decode cX4_feed 20 = .ok (.getfield 157, 3) := by decide +kernel
theorem dX4_feed_23 : decode cX4_feed 23 = .ok (.iload_n 2, 1) := by decide +kernel
theorem dX4_feed_24 : decode cX4_feed 24 = .ok (.iadd, 1) := by decide +kernel
theorem dX4_feed_25 : decode cX4_feed 25 = .ok (.bipush 120, 2) := by decide +kernel
theorem dX4_feed_27 : decode cX4_feed 27 = .ok (.if_icmp .le 10, 3) := by decide +kernel
theorem dX4_feed_30 : decode cX4_feed 30 = .ok (.aload_n 0, 1) := by decide +kernel
theorem dX4_feed_31 : decode cX4_feed 31 = .ok (.ldc 60, 2) := by decide +kernel
theorem dX4_feed_33 : decode cX4_feed 33 = .ok (.invokevirtual 56, 3) := by decide +kernel
theorem dX4_feed_36 : decode cX4_feed 36 = .ok (.ireturn, 1) := by decide +kernel
theorem dX4_feed_37 : decode cX4_feed 37 = .ok (.iload_n 2, 1) := by decide +kernel
theorem dX4_feed_38 : decode cX4_feed 38 = .ok (.iconst 1, 1) := by decide +kernel
theorem dX4_feed_39 : decode cX4_feed 39 = .ok (.isub, 1) := by decide +kernel
theorem dX4_feed_40 : decode cX4_feed 40 = .ok (.istore_n 3, 1) := by decide +kernel
theorem dX4_feed_41 : decode cX4_feed 41 = .ok (.iload_n 3, 1) := by decide +kernel
theorem dX4_feed_42 : decode cX4_feed 42 = .ok (.ifCond .lt 38, 3) := by decide +kernel
theorem dX4_feed_45 : decode cX4_feed 45 = .ok (.aload_n 0, 1) := by decide +kernel
theorem dX4_feed_46 : decode cX4_feed 46 = .ok (.getfield 25, 3) := by decide +kernel
theorem dX4_feed_49 : decode cX4_feed 49 = .ok (.aload_n 0, 1) := by decide +kernel
theorem dX4_feed_50 : decode cX4_feed 50 = .ok (.getfield 157, 3) := by decide +kernel
theorem dX4_feed_53 : decode cX4_feed 53 = .ok (.iload_n 1, 1) := by decide +kernel
theorem dX4_feed_54 : decode cX4_feed 54 = .ok (.bipush 8, 2) := by decide +kernel
theorem dX4_feed_56 : decode cX4_feed 56 = .ok (.iload_n 3, 1) := by decide +kernel
theorem dX4_feed_57 : decode cX4_feed 57 = .ok (.imul, 1) := by decide +kernel
theorem dX4_feed_58 : decode cX4_feed 58 = .ok (.ishr, 1) := by decide +kernel
theorem dX4_feed_59 : decode cX4_feed 59 = .ok (.sipush 255, 3) := by decide +kernel
theorem dX4_feed_62 : decode cX4_feed 62 = .ok (.iand, 1) := by decide +kernel
theorem dX4_feed_63 : decode cX4_feed 63 = .ok (.iastore, 1) := by decide +kernel
theorem dX4_feed_64 : decode cX4_feed 64 = .ok (.aload_n 0, 1) := by decide +kernel
theorem dX4_feed_65 : decode cX4_feed 65 = .ok (.dup, 1) := by decide +kernel
theorem dX4_feed_66 : decode cX4_feed 66 = .ok (.getfield 157, 3) := by decide +kernel
theorem dX4_feed_69 : decode cX4_feed 69 = .ok (.iconst 1, 1) := by decide +kernel
theorem dX4_feed_70 : decode cX4_feed 70 = .ok (.iadd, 1) := by decide +kernel
theorem dX4_feed_71 : decode cX4_feed 71 = .ok (.putfield 157, 3) := by decide +kernel
theorem dX4_feed_74 : decode cX4_feed 74 = .ok (.iinc 3 (-1), 3) := by decide +kernel
theorem dX4_feed_77 : decode cX4_feed 77 = .ok (.goto (-36), 3) := by decide +kernel
theorem dX4_feed_80 : decode cX4_feed 80 = .ok (.aload_n 0, 1) := by decide +kernel
theorem dX4_feed_81 : decode cX4_feed 81 = .ok (.getfield 157, 3) := by decide +kernel
theorem dX4_feed_84 : decode cX4_feed 84 = .ok (.ireturn, 1) := by decide +kernel
theorem dX4_wipe_0 : decode cX4_wipe 0 = .ok (.aload_n 0, 1) := by decide +kernel
theorem dX4_wipe_1 : decode cX4_wipe 1 = .ok (.getfield 157, 3) := by decide +kernel
theorem dX4_wipe_4 : decode cX4_wipe 4 = .ok (.istore_n 1, 1) := by decide +kernel
theorem dX4_wipe_5 : decode cX4_wipe 5 = .ok (.aload_n 0, 1) := by decide +kernel
theorem dX4_wipe_6 : decode cX4_wipe 6 = .ok (.iconst 0, 1) := by decide +kernel
theorem dX4_wipe_7 : decode cX4_wipe 7 = .ok (.putfield 157, 3) := by decide +kernel
theorem dX4_wipe_10 : decode cX4_wipe 10 = .ok (.iload_n 1, 1) := by decide +kernel
theorem dX4_wipe_11 : decode cX4_wipe 11 = .ok (.ireturn, 1) := by decide +kernel
theorem dX4_byteAt_0 : decode cX4_byteAt 0 = .ok (.iload_n 1, 1) := by decide +kernel
theorem dX4_byteAt_1 : decode cX4_byteAt 1 = .ok (.aload_n 0, 1) := by decide +kernel
theorem dX4_byteAt_2 : decode cX4_byteAt 2 = .ok (.getfield 157, 3) := by decide +kernel
theorem dX4_byteAt_5 : decode cX4_byteAt 5 = .ok (.if_icmp .ge 12, 3) := by decide +kernel
theorem dX4_byteAt_8 : decode cX4_byteAt 8 = .ok (.aload_n 0, 1) := by decide +kernel
theorem dX4_byteAt_9 : decode cX4_byteAt 9 = .ok (.getfield 25, 3) := by decide +kernel
theorem dX4_byteAt_12 : decode cX4_byteAt 12 = .ok (.iload_n 1, 1) := by decide +kernel
theorem dX4_byteAt_13 : decode cX4_byteAt 13 = .ok (.iaload, 1) := by decide +kernel
theorem dX4_byteAt_14 : decode cX4_byteAt 14 = .ok (.goto 4, 3) := by decide +kernel
theorem dX4_byteAt_17 : decode cX4_byteAt 17 = .ok (.iconst (-1), 1) := by decide +kernel
theorem dX4_byteAt_18 : decode cX4_byteAt 18 = .ok (.ireturn, 1) := by decide +kernel
theorem dX4_isLetter_0 : decode cX4_isLetter 0 = .ok (.iload_n 0, 1) := by decide +kernel
theorem dX4_isLetter_1 : decode cX4_isLetter 1 = .ok (.i2l, 1) := by decide +kernel
theorem dX4_isLetter_2 : decode cX4_isLetter 2 = .ok (.ldc2_w 161, 3) := by decide +kernel
theorem dX4_isLetter_5 : decode cX4_isLetter 5 = .ok (.ldc2_w 163, 3) := by decide +kernel
theorem dX4_isLetter_8 : decode cX4_isLetter 8 = .ok (.invokestatic 42, 3) := by decide +kernel
theorem dX4_isLetter_11 : decode cX4_isLetter 11 = .ok (.ireturn, 1) := by decide +kernel
theorem dX4_isDigit_0 : decode cX4_isDigit 0 = .ok (.iload_n 0, 1) := by decide +kernel
theorem dX4_isDigit_1 : decode cX4_isDigit 1 = .ok (.i2l, 1) := by decide +kernel
theorem dX4_isDigit_2 : decode cX4_isDigit 2 = .ok (.ldc2_w 165, 3) := by decide +kernel
theorem dX4_isDigit_5 : decode cX4_isDigit 5 = .ok (.ldc2_w 167, 3) := by decide +kernel
theorem dX4_isDigit_8 : decode cX4_isDigit 8 = .ok (.invokestatic 42, 3) := by decide +kernel
theorem dX4_isDigit_11 : decode cX4_isDigit 11 = .ok (.ireturn, 1) := by decide +kernel
theorem dX4_token_0 : decode cX4_token 0 = .ok (.aload_n 0, 1) := by decide +kernel
theorem dX4_token_1 : decode cX4_token 1 = .ok (.aload_n 0, 1) := by decide +kernel
theorem dX4_token_2 : decode cX4_token 2 = .ok (.getfield 169, 3) := by decide +kernel
theorem dX4_token_5 : decode cX4_token 5 = .ok (.putfield 172, 3) := by decide +kernel
theorem dX4_token_8 : decode cX4_token 8 = .ok (.aload_n 0, 1) := by decide +kernel
theorem dX4_token_9 : decode cX4_token 9 = .ok (.aload_n 0, 1) := by decide +kernel
theorem dX4_token_10 : decode cX4_token 10 = .ok (.getfield 172, 3) := by decide +kernel
theorem dX4_token_13 : decode cX4_token 13 = .ok (.invokevirtual 175, 3) := by decide +kernel
theorem dX4_token_16 : decode cX4_token 16 = .ok (.bipush 32, 2) := by decide +kernel
theorem dX4_token_18 : decode cX4_token 18 = .ok (.if_icmp .ne 16, 3) := by decide +kernel
theorem dX4_token_21 : decode cX4_token 21 = .ok (.aload_n 0, 1) := by decide +kernel
theorem dX4_token_22 : decode cX4_token 22 = .ok (.dup, 1) := by decide +kernel
theorem dX4_token_23 : decode cX4_token 23 = .ok (.getfield 172, 3) := by decide +kernel
theorem dX4_token_26 : decode cX4_token 26 = .ok (.iconst 1, 1) := by decide +kernel
theorem dX4_token_27 : decode cX4_token 27 = .ok (.iadd, 1) := by decide +kernel
theorem dX4_token_28 : decode cX4_token 28 = .ok (.putfield 172, 3) := by decide +kernel
theorem dX4_token_31 : decode cX4_token 31 = .ok (.goto (-23), 3) := by decide +kernel
theorem dX4_token_34 : decode cX4_token 34 = .ok (.aload_n 0, 1) := by decide +kernel
theorem dX4_token_35 : decode cX4_token 35 = .ok (.aload_n 0, 1) := by decide +kernel
theorem dX4_token_36 : decode cX4_token 36 = .ok (.getfield 172, 3) := by decide +kernel
theorem dX4_token_39 : decode cX4_token 39 = .ok (.invokevirtual 175, 3) := by decide +kernel
theorem dX4_token_42 : decode cX4_token 42 = .ok (.invokestatic 178, 3) := by decide +kernel
theorem dX4_token_45 : decode cX4_token 45 = .ok (.istore_n 1, 1) := by decide +kernel
theorem dX4_token_46 : decode cX4_token 46 = .ok (.aload_n 0, 1) := by decide +kernel
theorem dX4_token_47 : decode cX4_token 47 = .ok (.aload_n 0, 1) := by decide +kernel
theorem dX4_token_48 : decode cX4_token 48 = .ok (.getfield 172, 3) := by decide +kernel
theorem dX4_token_51 : decode cX4_token 51 = .ok (.invokevirtual 175, 3) := by decide +kernel
theorem dX4_token_54 : decode cX4_token 54 = .ok (.invokestatic 181, 3) := by decide +kernel
theorem dX4_token_57 : decode cX4_token 57 = .ok (.istore_n 2, 1) := by decide +kernel
theorem dX4_token_58 : decode cX4_token 58 = .ok (.aload_n 0, 1) := by decide +kernel
theorem dX4_token_59 : decode cX4_token 59 = .ok (.aload_n 0, 1) := by decide +kernel
theorem dX4_token_60 : decode cX4_token 60 = .ok (.getfield 172, 3) := by decide +kernel
theorem dX4_token_63 : decode cX4_token 63 = .ok (.aload_n 0, 1) := by decide +kernel
theorem dX4_token_64 : decode cX4_token 64 = .ok (.getfield 157, 3) := by decide +kernel
theorem dX4_token_67 : decode cX4_token 67 = .ok (.if_icmp .ge 12, 3) := by decide +kernel
theorem dX4_token_70 : decode cX4_token 70 = .ok (.aload_n 0, 1) := by decide +kernel
theorem dX4_token_71 : decode cX4_token 71 = .ok (.getfield 172, 3) := by decide +kernel
theorem dX4_token_74 : decode cX4_token 74 = .ok (.iconst 1, 1) := by decide +kernel
theorem dX4_token_75 : decode cX4_token 75 = .ok (.iadd, 1) := by decide +kernel
theorem dX4_token_76 : decode cX4_token 76 = .ok (.goto 7, 3) := by decide +kernel
theorem dX4_token_79 : decode cX4_token 79 = .ok (.aload_n 0, 1) := by decide +kernel
theorem dX4_token_80 : decode cX4_token 80 = .ok (.getfield 172, 3) := by decide +kernel
theorem dX4_token_83 : decode cX4_token 83 = .ok (.putfield 169, 3) := by decide +kernel
theorem dX4_token_86 : decode cX4_token 86 = .ok (.iload_n 1, 1) := by decide +kernel
theorem dX4_token_87 : decode cX4_token 87 = .ok (.ifCond .eq 17, 3) := by decide +kernel
theorem dX4_token_90 : decode cX4_token 90 = .ok (.aload_n 0, 1) := by decide +kernel
theorem dX4_token_91 : decode cX4_token 91 = .ok (.aload_n 0, 1) := by decide +kernel
theorem dX4_token_92 : decode cX4_token 92 = .ok (.getfield 169, 3) := by decide +kernel
theorem dX4_token_95 : decode cX4_token 95 = .ok (.invokevirtual 175, 3) := by decide +kernel
theorem dX4_token_98 : decode cX4_token 98 = .ok (.invokestatic 178, 3) := by decide +kernel
theorem dX4_token_101 : decode cX4_token 101 = .ok (.ifCond .ne 21, 3) := by decide +kernel
theorem dX4_token_104 : decode cX4_token 104 = .ok (.iload_n 2, 1) := by decide +kernel
theorem dX4_token_105 : decode cX4_token 105 = .ok (.ifCond .eq 30, 3) := by decide +kernel
theorem dX4_token_108 : decode cX4_token 108 = .ok (.aload_n 0, 1) := by decide +kernel
theorem dX4_token_109 : decode cX4_token 109 = .ok (.aload_n 0, 1) := by decide +kernel
theorem dX4_token_110 : decode cX4_token 110 = .ok (.getfield 169, 3) := by decide +kernel
theorem dX4_token_113 : decode cX4_token 113 = .ok (.invokevirtual 175, 3) := by decide +kernel
theorem dX4_token_116 : decode cX4_token 116 = .ok (.invokestatic 181, 3) := by decide +kernel
theorem dX4_token_119 : decode cX4_token 119 = .ok (.ifCond .eq 16, 3) := by decide +kernel
theorem dX4_token_122 : decode cX4_token 122 = .ok (.aload_n 0, 1) := by decide +kernel
theorem dX4_token_123 : decode cX4_token 123 = .ok (.dup, 1) := by decide +kernel
theorem dX4_token_124 : decode cX4_token 124 = .ok (.getfield 169, 3) := by decide +kernel
theorem dX4_token_127 : decode cX4_token 127 = .ok (.iconst 1, 1) := by decide +kernel
theorem dX4_token_128 : decode cX4_token 128 = .ok (.iadd, 1) := by decide +kernel
theorem dX4_token_129 : decode cX4_token 129 = .ok (.putfield 169, 3) := by decide +kernel
theorem dX4_token_132 : decode cX4_token 132 = .ok (.goto (-46), 3) := by decide +kernel
theorem dX4_token_135 : decode cX4_token 135 = .ok (.return_, 1) := by decide +kernel
theorem dX4_must_0 : decode cX4_must 0 = .ok (.aload_n 0, 1) := by decide +kernel
theorem dX4_must_1 : decode cX4_must 1 = .ok (.aload_n 0, 1) := by decide +kernel
theorem dX4_must_2 : decode cX4_must 2 = .ok (.getfield 184, 3) := by decide +kernel
theorem dX4_must_5 : decode cX4_must 5 = .ok (.ifCond .ne 7, 3) := by decide +kernel
theorem dX4_must_8 : decode cX4_must 8 = .ok (.iload_n 1, 1) := by decide +kernel
theorem dX4_must_9 : decode cX4_must 9 = .ok (.ifCond .ne 7, 3) := by decide +kernel
theorem dX4_must_12 : decode cX4_must 12 = .ok (.iconst 1, 1) := by decide +kernel
theorem dX4_must_13 : decode cX4_must 13 = .ok (.goto 4, 3) := by decide +kernel
theorem dX4_must_16 : decode cX4_must 16 = .ok (.iconst 0, 1) := by decide +kernel
theorem dX4_must_17 : decode cX4_must 17 = .ok (.putfield 184, 3) := by decide +kernel
theorem dX4_must_20 : decode cX4_must 20 = .ok (.aload_n 0, 1) := by decide +kernel
theorem dX4_must_21 : decode cX4_must 21 = .ok (.getfield 184, 3) := by decide +kernel
theorem dX4_must_24 : decode cX4_must 24 = .ok (.ifCond .ne 7, 3) := by decide +kernel
theorem dX4_must_27 : decode cX4_must 27 = .ok (.aload_n 0, 1) := by decide +kernel
theorem dX4_must_28 : decode cX4_must 28 = .ok (.invokevirtual 188, 3) := by decide +kernel
theorem dX4_must_31 : decode cX4_must 31 = .ok (.return_, 1) := by decide +kernel
theorem dX4_word_0 : decode cX4_word 0 = .ok (.lconst 0, 1) := by decide +kernel
theorem dX4_word_1 : decode cX4_word 1 = .ok (.lstore_n 1, 1) := by decide +kernel
theorem dX4_word_2 : decode cX4_word 2 = .ok (.aload_n 0, 1) := by decide +kernel
theorem dX4_word_3 : decode cX4_word 3 = .ok (.getfield 172, 3) := by decide +kernel
theorem dX4_word_6 : decode cX4_word 6 = .ok (.istore_n 3, 1) := by decide +kernel
theorem dX4_word_7 : decode cX4_word 7 = .ok (.iload_n 3, 1) := by decide +kernel
theorem dX4_word_8 : decode cX4_word 8 = .ok (.aload_n 0, 1) := by decide +kernel
theorem dX4_word_9 : decode cX4_word 9 = .ok (.getfield 169, 3) := by decide +kernel
theorem dX4_word_12 : decode cX4_word 12 = .ok (.if_icmp .ge 38, 3) := by decide +kernel
theorem dX4_word_15 : decode cX4_word 15 = .ok (.lload_n 1, 1) := by decide +kernel
theorem dX4_word_16 : decode cX4_word 16 = .ok (.ldc2_w 191, 3) := by decide +kernel
theorem dX4_word_19 : decode cX4_word 19 = .ok (.lcmp, 1) := by decide +kernel
theorem dX4_word_20 : decode cX4_word 20 = .ok (.ifCond .le 7, 3) := by decide +kernel
theorem dX4_word_23 : decode cX4_word 23 = .ok (.lload_n 1, 1) := by decide +kernel
theorem dX4_word_24 : decode cX4_word 24 = .ok (.goto 19, 3) := by decide +kernel
theorem dX4_word_27 : decode cX4_word 27 = .ok (.ldc2_w 193, 3) := by decide +kernel
theorem dX4_word_30 : decode cX4_word 30 = .ok (.lload_n 1, 1) := by decide +kernel
theorem dX4_word_31 : decode cX4_word 31 = .ok (.lmul, 1) := by decide +kernel
theorem dX4_word_32 : decode cX4_word 32 = .ok (.aload_n 0, 1) := by decide +kernel
theorem dX4_word_33 : decode cX4_word 33 = .ok (.getfield 25, 3) := by decide +kernel
theorem dX4_word_36 : decode cX4_word 36 = .ok (.iload_n 3, 1) := by decide +kernel
theorem dX4_word_37 : decode cX4_word 37 = .ok (.iaload, 1) := by decide +kernel
theorem dX4_word_38 : decode cX4_word 38 = .ok (.bipush 96, 2) := by decide +kernel
theorem dX4_word_40 : decode cX4_word 40 = .ok (.isub, 1) := by decide +kernel
theorem dX4_word_41 : decode cX4_word 41 = .ok (.i2l, 1) := by decide +kernel
theorem dX4_word_42 : decode cX4_word 42 = .ok (.ladd, 1) := by decide +kernel
theorem dX4_word_43 : decode cX4_word 43 = .ok (.lstore_n 1, 1) := by decide +kernel
theorem dX4_word_44 : decode cX4_word 44 = .ok (.iinc 3 1, 3) := by decide +kernel
theorem dX4_word_47 : decode cX4_word 47 = .ok (.goto (-40), 3) := by decide +kernel
theorem dX4_word_50 : decode cX4_word 50 = .ok (.aload_n 0, 1) := by decide +kernel
theorem dX4_word_51 : decode cX4_word 51 = .ok (.getfield 184, 3) := by decide +kernel
theorem dX4_word_54 : decode cX4_word 54 = .ok (.ifCond .ne 17, 3) := by decide +kernel
theorem dX4_word_57 : decode cX4_word 57 = .ok (.aload_n 0, 1) := by decide +kernel
theorem dX4_word_58 : decode cX4_word 58 = .ok (.aload_n 0, 1) := by decide +kernel
theorem dX4_word_59 : decode cX4_word 59 = .ok (.getfield 172, 3) := by decide +kernel
theorem dX4_word_62 : decode cX4_word 62 = .ok (.invokevirtual 175, 3) := by decide +kernel
theorem dX4_word_65 : decode cX4_word 65 = .ok (.invokestatic 178, 3) := by decide +kernel
theorem dX4_word_68 : decode cX4_word 68 = .ok (.ifCond .ne 7, 3) := by decide +kernel
theorem dX4_word_71 : decode cX4_word 71 = .ok (.lconst 0, 1) := by decide +kernel
theorem dX4_word_72 : decode cX4_word 72 = .ok (.goto 4, 3) := by decide +kernel
theorem dX4_word_75 : decode cX4_word 75 = .ok (.lload_n 1, 1) := by decide +kernel
theorem dX4_word_76 : decode cX4_word 76 = .ok (.lreturn, 1) := by decide +kernel
theorem dX4_number_0 : decode cX4_number 0 = .ok (.aload_n 0, 1) := by decide +kernel
theorem dX4_number_1 : decode cX4_number 1 = .ok (.getfield 184, 3) := by decide +kernel
theorem dX4_number_4 : decode cX4_number 4 = .ok (.ifCond .eq 4, 3) := by decide +kernel
theorem dX4_number_7 : decode cX4_number 7 = .ok (.return_, 1) := by decide +kernel
theorem dX4_number_8 : decode cX4_number 8 = .ok (.aload_n 0, 1) := by decide +kernel
theorem dX4_number_9 : decode cX4_number 9 = .ok (.aload_n 0, 1) := by decide +kernel
theorem dX4_number_10 : decode cX4_number 10 = .ok (.getfield 172, 3) := by decide +kernel
theorem dX4_number_13 : decode cX4_number 13 = .ok (.invokevirtual 175, 3) := by decide +kernel
theorem dX4_number_16 : decode cX4_number 16 = .ok (.invokestatic 181, 3) := by decide +kernel
theorem dX4_number_19 : decode cX4_number 19 = .ok (.istore_n 3, 1) := by decide +kernel
theorem dX4_number_20 : decode cX4_number 20 = .ok (.iconst 0, 1) := by decide +kernel
theorem dX4_number_21 : decode cX4_number 21 = .ok (.istore 4, 2) := by decide +kernel
theorem dX4_number_23 : decode cX4_number 23 = .ok (.aload_n 0, 1) := by decide +kernel
theorem dX4_number_24 : decode cX4_number 24 = .ok (.getfield 172, 3) := by decide +kernel
theorem dX4_number_27 : decode cX4_number 27 = .ok (.istore 5, 2) := by decide +kernel
theorem dX4_number_29 : decode cX4_number 29 = .ok (.iload 5, 2) := by decide +kernel
theorem dX4_number_31 : decode cX4_number 31 = .ok (.aload_n 0, 1) := by decide +kernel
theorem dX4_number_32 : decode cX4_number 32 = .ok (.getfield 169, 3) := by decide +kernel
theorem dX4_number_35 : decode cX4_number 35 = .ok (.if_icmp .ge 44, 3) := by decide +kernel
theorem dX4_number_38 : decode cX4_number 38 = .ok (.iload_n 3, 1) := by decide +kernel
theorem dX4_number_39 : decode cX4_number 39 = .ok (.ifCond .eq 40, 3) := by decide +kernel
theorem dX4_number_42 : decode cX4_number 42 = .ok (.iload 4, 2) := by decide +kernel
theorem dX4_number_44 : decode cX4_number 44 = .ok (.sipush 999, 3) := by decide +kernel
theorem dX4_number_47 : decode cX4_number 47 = .ok (.if_icmp .le 8, 3) := by decide +kernel
theorem dX4_number_50 : decode cX4_number 50 = .ok (.iload 4, 2) := by decide +kernel
theorem dX4_number_52 : decode cX4_number 52 = .ok (.goto 19, 3) := by decide +kernel
theorem dX4_number_55 : decode cX4_number 55 = .ok (.bipush 10, 2) := by decide +kernel
theorem dX4_number_57 : decode cX4_number 57 = .ok (.iload 4, 2) := by decide +kernel
theorem dX4_number_59 : decode cX4_number 59 = .ok (.imul, 1) := by decide +kernel
theorem dX4_number_60 : decode cX4_number 60 = .ok (.aload_n 0, 1) := by decide +kernel
theorem dX4_number_61 : decode cX4_number 61 = .ok (.getfield 25, 3) := by decide +kernel
theorem dX4_number_64 : decode cX4_number 64 = .ok (.iload 5, 2) := by decide +kernel
theorem dX4_number_66 : decode cX4_number 66 = .ok (.iaload, 1) := by decide +kernel
theorem dX4_number_67 : decode cX4_number 67 = .ok (.iadd, 1) := by decide +kernel
theorem dX4_number_68 : decode cX4_number 68 = .ok (.bipush 48, 2) := by decide +kernel
theorem dX4_number_70 : decode cX4_number 70 = .ok (.isub, 1) := by decide +kernel
theorem dX4_number_71 : decode cX4_number 71 = .ok (.istore 4, 2) := by decide +kernel
theorem dX4_number_73 : decode cX4_number 73 = .ok (.iinc 5 1, 3) := by decide +kernel
theorem dX4_number_76 : decode cX4_number 76 = .ok (.goto (-47), 3) := by decide +kernel
theorem dX4_number_79 : decode cX4_number 79 = .ok (.aload_n 0, 1) := by decide +kernel
theorem dX4_number_80 : decode cX4_number 80 = .ok (.iload 4, 2) := by decide +kernel
theorem dX4_number_82 : decode cX4_number 82 = .ok (.putfield 195, 3) := by decide +kernel
theorem dX4_number_85 : decode cX4_number 85 = .ok (.aload_n 0, 1) := by decide +kernel
theorem dX4_number_86 : decode cX4_number 86 = .ok (.iload_n 3, 1) := by decide +kernel
theorem dX4_number_87 : decode cX4_number 87 = .ok (.ifCond .eq 20, 3) := by decide +kernel
theorem dX4_number_90 : decode cX4_number 90 = .ok (.iload 4, 2) := by decide +kernel
theorem dX4_number_92 : decode cX4_number 92 = .ok (.i2l, 1) := by decide +kernel
theorem dX4_number_93 : decode cX4_number 93 = .ok (.iload_n 1, 1) := by decide +kernel
theorem dX4_number_94 : decode cX4_number 94 = .ok (.i2l, 1) := by decide +kernel
theorem dX4_number_95 : decode cX4_number 95 = .ok (.iload_n 2, 1) := by decide +kernel
theorem dX4_number_96 : decode cX4_number 96 = .ok (.i2l, 1) := by decide +kernel
theorem dX4_number_97 : decode cX4_number 97 = .ok (.invokestatic 42, 3) := by decide +kernel
theorem dX4_number_100 : decode cX4_number 100 = .ok (.ifCond .eq 7, 3) := by decide +kernel
theorem dX4_number_103 : decode cX4_number 103 = .ok (.iconst 1, 1) := by decide +kernel
theorem dX4_number_104 : decode cX4_number 104 = .ok (.goto 4, 3) := by decide +kernel
theorem dX4_number_107 : decode cX4_number 107 = .ok (.iconst 0, 1) := by decide +kernel
theorem dX4_number_108 : decode cX4_number 108 = .ok (.invokevirtual 198, 3) := by decide +kernel
theorem dX4_number_111 : decode cX4_number 111 = .ok (.return_, 1) := by decide +kernel
theorem dX4_kindHere_0 : decode cX4_kindHere 0 = .ok (.aload_n 0, 1) := by decide +kernel
theorem dX4_kindHere_1 : decode cX4_kindHere 1 = .ok (.invokevirtual 202, 3) := by decide +kernel
theorem dX4_kindHere_4 : decode cX4_kindHere 4 = .ok (.lstore_n 1, 1) := by decide +kernel
theorem dX4_kindHere_5 : decode cX4_kindHere 5 = .ok (.lload_n 1, 1) := by decide +kernel
theorem dX4_kindHere_6 : decode cX4_kindHere 6 = .ok (.ldc2_w 206, 3) := by decide +kernel
theorem dX4_kindHere_9 : decode cX4_kindHere 9 = .ok (.lcmp, 1) := by decide +kernel
theorem dX4_kindHere_10 : decode cX4_kindHere 10 = .ok (.ifCond .ne 7, 3) := by decide +kernel
theorem dX4_kindHere_13 : decode cX4_kindHere 13 = .ok (.iconst 0, 1) := by decide +kernel
theorem dX4_kindHere_14 : decode cX4_kindHere 14 = .ok (.goto 64, 3) := by decide +kernel
theorem dX4_kindHere_17 : decode cX4_kindHere 17 = .ok (.lload_n 1, 1) := by decide +kernel
theorem dX4_kindHere_18 : decode cX4_kindHere 18 = .ok (.ldc2_w 208, 3) := by decide +kernel
theorem dX4_kindHere_21 : decode cX4_kindHere 21 = .ok (.lcmp, 1) := by decide +kernel
theorem dX4_kindHere_22 : decode cX4_kindHere 22 = .ok (.ifCond .ne 7, 3) := by decide +kernel
theorem dX4_kindHere_25 : decode cX4_kindHere 25 = .ok (.iconst 1, 1) := by decide +kernel
theorem dX4_kindHere_26 : decode cX4_kindHere 26 = .ok (.goto 52, 3) := by decide +kernel
theorem dX4_kindHere_29 : decode cX4_kindHere 29 = .ok (.lload_n 1, 1) := by decide +kernel
theorem dX4_kindHere_30 : decode cX4_kindHere 30 = .ok (.ldc2_w 210, 3) := by decide +kernel
theorem dX4_kindHere_33 : decode cX4_kindHere 33 = .ok (.lcmp, 1) := by decide +kernel
theorem dX4_kindHere_34 : decode cX4_kindHere 34 = .ok (.ifCond .ne 7, 3) := by decide +kernel
theorem dX4_kindHere_37 : decode cX4_kindHere 37 = .ok (.iconst 2, 1) := by decide +kernel
theorem dX4_kindHere_38 : decode cX4_kindHere 38 = .ok (.goto 40, 3) := by decide +kernel
theorem dX4_kindHere_41 : decode cX4_kindHere 41 = .ok (.lload_n 1, 1) := by decide +kernel
theorem dX4_kindHere_42 : decode cX4_kindHere 42 = .ok (.ldc2_w 212, 3) := by decide +kernel
theorem dX4_kindHere_45 : decode cX4_kindHere 45 = .ok (.lcmp, 1) := by decide +kernel
theorem dX4_kindHere_46 : decode cX4_kindHere 46 = .ok (.ifCond .ne 7, 3) := by decide +kernel
theorem dX4_kindHere_49 : decode cX4_kindHere 49 = .ok (.iconst 3, 1) := by decide +kernel
theorem dX4_kindHere_50 : decode cX4_kindHere 50 = .ok (.goto 28, 3) := by decide +kernel
theorem dX4_kindHere_53 : decode cX4_kindHere 53 = .ok (.lload_n 1, 1) := by decide +kernel
theorem dX4_kindHere_54 : decode cX4_kindHere 54 = .ok (.ldc2_w 214, 3) := by decide +kernel
theorem dX4_kindHere_57 : decode cX4_kindHere 57 = .ok (.lcmp, 1) := by decide +kernel
theorem dX4_kindHere_58 : decode cX4_kindHere 58 = .ok (.ifCond .ne 7, 3) := by decide +kernel
theorem dX4_kindHere_61 : decode cX4_kindHere 61 = .ok (.iconst 4, 1) := by decide +kernel
theorem dX4_kindHere_62 : decode cX4_kindHere 62 = .ok (.goto 16, 3) := by decide +kernel
theorem dX4_kindHere_65 : decode cX4_kindHere 65 = .ok (.lload_n 1, 1) := by decide +kernel
theorem dX4_kindHere_66 : decode cX4_kindHere 66 = .ok (.ldc2_w 216, 3) := by decide +kernel
theorem dX4_kindHere_69 : decode cX4_kindHere 69 = .ok (.lcmp, 1) := by decide +kernel
theorem dX4_kindHere_70 : decode cX4_kindHere 70 = .ok (.ifCond .ne 7, 3) := by decide +kernel
theorem dX4_kindHere_73 : decode cX4_kindHere 73 = .ok (.iconst 5, 1) := by decide +kernel
theorem dX4_kindHere_74 : decode cX4_kindHere 74 = .ok (.goto 4, 3) := by decide +kernel
theorem dX4_kindHere_77 : decode cX4_kindHere 77 = .ok (.iconst (-1), 1) := by decide +kernel
theorem dX4_kindHere_78 : decode cX4_kindHere 78 = .ok (.ireturn, 1) := by decide +kernel
theorem dX4_partItem_0 : decode cX4_partItem 0 = .ok (.aload_n 0, 1) := by decide +kernel
theorem dX4_partItem_1 : decode cX4_partItem 1 = .ok (.invokevirtual 202, 3) := by decide +kernel
theorem dX4_partItem_4 : decode cX4_partItem 4 = .ok (.lload_n 1, 1) := by decide +kernel
theorem dX4_partItem_5 : decode cX4_partItem 5 = .ok (.lcmp, 1) := by decide +kernel
theorem dX4_partItem_6 : decode cX4_partItem 6 = .ok (.ifCond .ne 41, 3) := by decide +kernel
theorem dX4_partItem_9 : decode cX4_partItem 9 = .ok (.aload_n 0, 1) := by decide +kernel
theorem dX4_partItem_10 : decode cX4_partItem 10 = .ok (.iconst 1, 1) := by decide +kernel
theorem dX4_partItem_11 : decode cX4_partItem 11 = .ok (.invokevirtual 198, 3) := by decide +kernel
theorem dX4_partItem_14 : decode cX4_partItem 14 = .ok (.aload_n 0, 1) := by decide +kernel
theorem dX4_partItem_15 : decode cX4_partItem 15 = .ok (.iconst 0, 1) := by decide +kernel
theorem dX4_partItem_16 : decode cX4_partItem 16 = .ok (.iload 4, 2) := by decide +kernel
theorem dX4_partItem_18 : decode cX4_partItem 18 = .ok (.invokevirtual 218, 3) := by decide +kernel
theorem dX4_partItem_21 : decode cX4_partItem 21 = .ok (.aload_n 0, 1) := by decide +kernel
theorem dX4_partItem_22 : decode cX4_partItem 22 = .ok (.getfield 7, 3) := by decide +kernel
theorem dX4_partItem_25 : decode cX4_partItem 25 = .ok (.iload_n 3, 1) := by decide +kernel
theorem dX4_partItem_26 : decode cX4_partItem 26 = .ok (.aload_n 0, 1) := by decide +kernel
theorem dX4_partItem_27 : decode cX4_partItem 27 = .ok (.getfield 184, 3) := by decide +kernel
theorem dX4_partItem_30 : decode cX4_partItem 30 = .ok (.ifCond .eq 12, 3) := by decide +kernel
theorem dX4_partItem_33 : decode cX4_partItem 33 = .ok (.aload_n 0, 1) := by decide +kernel
theorem dX4_partItem_34 : decode cX4_partItem 34 = .ok (.getfield 7, 3) := by decide +kernel
theorem dX4_partItem_37 : decode cX4_partItem 37 = .ok (.iload_n 3, 1) := by decide +kernel
theorem dX4_partItem_38 : decode cX4_partItem 38 = .ok (.iaload, 1) := by decide +kernel
theorem dX4_partItem_39 : decode cX4_partItem 39 = .ok (.goto 7, 3) := by decide +kernel
theorem dX4_partItem_42 : decode cX4_partItem 42 = .ok (.aload_n 0, 1) := by decide +kernel
theorem dX4_partItem_43 : decode cX4_partItem 43 = .ok (.getfield 195, 3) := by decide +kernel
theorem dX4_partItem_46 : decode cX4_partItem 46 = .ok (.iastore, 1) := by decide +kernel
theorem dX4_partItem_47 : decode cX4_partItem 47 = .ok (.return_, 1) := by decide +kernel
theorem dX4_personItem_0 : decode cX4_personItem 0 = .ok (.aload_n 0, 1) := by decide +kernel
theorem dX4_personItem_1 : decode cX4_personItem 1 = .ok (.aload_n 0, 1) := by decide +kernel
theorem dX4_personItem_2 : decode cX4_personItem 2 = .ok (.getfield 7, 3) := by decide +kernel
theorem dX4_personItem_5 : decode cX4_personItem 5 = .ok (.iconst 0, 1) := by decide +kernel
theorem dX4_personItem_6 : decode cX4_personItem 6 = .ok (.iaload, 1) := by decide +kernel
theorem dX4_personItem_7 : decode cX4_personItem 7 = .ok (.bipush 8, 2) := by decide +kernel
theorem dX4_personItem_9 : decode cX4_personItem 9 = .ok (.if_icmp .ge 7, 3) := by decide +kernel
theorem dX4_personItem_12 : decode cX4_personItem 12 = .ok (.iconst 1, 1) := by decide +kernel
theorem dX4_personItem_13 : decode cX4_personItem 13 = .ok (.goto 4, 3) := by decide +kernel
theorem dX4_personItem_16 : decode cX4_personItem 16 = .ok (.iconst 0, 1) := by decide +kernel
theorem dX4_personItem_17 : decode cX4_personItem 17 = .ok (.invokevirtual 198, 3) := by decide +kernel
theorem dX4_personItem_20 : decode cX4_personItem 20 = .ok (.aload_n 0, 1) := by decide +kernel
theorem dX4_personItem_21 : decode cX4_personItem 21 = .ok (.getfield 184, 3) := by decide +kernel
theorem dX4_personItem_24 : decode cX4_personItem 24 = .ok (.ifCond .eq 4, 3) := by decide +kernel
theorem dX4_personItem_27 : decode cX4_personItem 27 = .ok (.return_, 1) := by decide +kernel
theorem dX4_personItem_28 : decode cX4_personItem 28 = .ok (.aload_n 0, 1) := by decide +kernel
theorem dX4_personItem_29 : decode cX4_personItem 29 = .ok (.iload_n 1, 1) := by decide +kernel
theorem dX4_personItem_30 : decode cX4_personItem 30 = .ok (.invokevirtual 61, 3) := by decide +kernel
theorem dX4_personItem_33 : decode cX4_personItem 33 = .ok (.istore_n 2, 1) := by decide +kernel
theorem dX4_personItem_34 : decode cX4_personItem 34 = .ok (.aload_n 0, 1) := by decide +kernel
theorem dX4_personItem_35 : decode cX4_personItem 35 = .ok (.ldc2_w 222, 3) := by decide +kernel
theorem dX4_personItem_38 : decode cX4_personItem 38 = .ok (.iload_n 2, 1) := by decide +kernel
theorem dX4_personItem_39 : decode cX4_personItem 39 = .ok (.iconst 1, 1) := by decide +kernel
theorem dX4_personItem_40 : decode cX4_personItem 40 = .ok (.invokestatic 48, 3) := by decide +kernel
theorem dX4_personItem_43 : decode cX4_personItem 43 = .ok (.bipush 99, 2) := by decide +kernel
theorem dX4_personItem_45 : decode cX4_personItem 45 = .ok (.invokevirtual 224, 3) := by decide +kernel
theorem dX4_personItem_48 : decode cX4_personItem 48 = .ok (.aload_n 0, 1) := by decide +kernel
theorem dX4_personItem_49 : decode cX4_personItem 49 = .ok (.ldc2_w 228, 3) := by decide +kernel
theorem dX4_personItem_52 : decode cX4_personItem 52 = .ok (.iload_n 2, 1) := by decide +kernel
theorem dX4_personItem_53 : decode cX4_personItem 53 = .ok (.iconst 2, 1) := by decide +kernel
theorem dX4_personItem_54 : decode cX4_personItem 54 = .ok (.invokestatic 48, 3) := by decide +kernel
theorem dX4_personItem_57 : decode cX4_personItem 57 = .ok (.bipush 99, 2) := by decide +kernel
theorem dX4_personItem_59 : decode cX4_personItem 59 = .ok (.invokevirtual 224, 3) := by decide +kernel
theorem dX4_personItem_62 : decode cX4_personItem 62 = .ok (.aload_n 0, 1) := by decide +kernel
theorem dX4_personItem_63 : decode cX4_personItem 63 = .ok (.ldc2_w 230, 3) := by decide +kernel
theorem dX4_personItem_66 : decode cX4_personItem 66 = .ok (.iload_n 2, 1) := by decide +kernel
theorem dX4_personItem_67 : decode cX4_personItem 67 = .ok (.iconst 3, 1) := by decide +kernel
theorem dX4_personItem_68 : decode cX4_personItem 68 = .ok (.invokestatic 48, 3) := by decide +kernel
theorem dX4_personItem_71 : decode cX4_personItem 71 = .ok (.iconst 1, 1) := by decide +kernel
theorem dX4_personItem_72 : decode cX4_personItem 72 = .ok (.invokevirtual 224, 3) := by decide +kernel
theorem dX4_personItem_75 : decode cX4_personItem 75 = .ok (.return_, 1) := by decide +kernel
theorem dX4_newsItem_0 : decode cX4_newsItem 0 = .ok (.aload_n 0, 1) := by decide +kernel
theorem dX4_newsItem_1 : decode cX4_newsItem 1 = .ok (.iconst 1, 1) := by decide +kernel
theorem dX4_newsItem_2 : decode cX4_newsItem 2 = .ok (.invokevirtual 198, 3) := by decide +kernel
theorem dX4_newsItem_5 : decode cX4_newsItem 5 = .ok (.aload_n 0, 1) := by decide +kernel
theorem dX4_newsItem_6 : decode cX4_newsItem 6 = .ok (.iconst 0, 1) := by decide +kernel
theorem dX4_newsItem_7 : decode cX4_newsItem 7 = .ok (.aload_n 0, 1) := by decide +kernel
theorem dX4_newsItem_8 : decode cX4_newsItem 8 = .ok (.getfield 7, 3) := by decide +kernel
theorem dX4_newsItem_11 : decode cX4_newsItem 11 = .ok (.iconst 0, 1) := by decide +kernel
theorem dX4_newsItem_12 : decode cX4_newsItem 12 = .ok (.iaload, 1) := by decide +kernel
theorem dX4_newsItem_13 : decode cX4_newsItem 13 = .ok (.iconst 1, 1) := by decide +kernel
theorem dX4_newsItem_14 : decode cX4_newsItem 14 = .ok (.isub, 1) := by decide +kernel
theorem dX4_newsItem_15 : decode cX4_newsItem 15 = .ok (.invokevirtual 218, 3) := by decide +kernel
theorem dX4_newsItem_18 : decode cX4_newsItem 18 = .ok (.aload_n 0, 1) := by decide +kernel
theorem dX4_newsItem_19 : decode cX4_newsItem 19 = .ok (.getfield 195, 3) := by decide +kernel
theorem dX4_newsItem_22 : decode cX4_newsItem 22 = .ok (.istore_n 1, 1) := by decide +kernel
theorem dX4_newsItem_23 : decode cX4_newsItem 23 = .ok (.aload_n 0, 1) := by decide +kernel
theorem dX4_newsItem_24 : decode cX4_newsItem 24 = .ok (.iconst 0, 1) := by decide +kernel
theorem dX4_newsItem_25 : decode cX4_newsItem 25 = .ok (.bipush 99, 2) := by decide +kernel
theorem dX4_newsItem_27 : decode cX4_newsItem 27 = .ok (.invokevirtual 218, 3) := by decide +kernel
theorem dX4_newsItem_30 : decode cX4_newsItem 30 = .ok (.aload_n 0, 1) := by decide +kernel
theorem dX4_newsItem_31 : decode cX4_newsItem 31 = .ok (.getfield 195, 3) := by decide +kernel
theorem dX4_newsItem_34 : decode cX4_newsItem 34 = .ok (.istore_n 2, 1) := by decide +kernel
theorem dX4_newsItem_35 : decode cX4_newsItem 35 = .ok (.aload_n 0, 1) := by decide +kernel
theorem dX4_newsItem_36 : decode cX4_newsItem 36 = .ok (.iconst 0, 1) := by decide +kernel
theorem dX4_newsItem_37 : decode cX4_newsItem 37 = .ok (.bipush 99, 2) := by decide +kernel
theorem dX4_newsItem_39 : decode cX4_newsItem 39 = .ok (.invokevirtual 218, 3) := by decide +kernel
theorem dX4_newsItem_42 : decode cX4_newsItem 42 = .ok (.aload_n 0, 1) := by decide +kernel
theorem dX4_newsItem_43 : decode cX4_newsItem 43 = .ok (.getfield 184, 3) := by decide +kernel
theorem dX4_newsItem_46 : decode cX4_newsItem 46 = .ok (.ifCond .ne 13, 3) := by decide +kernel
theorem dX4_newsItem_49 : decode cX4_newsItem 49 = .ok (.aload_n 0, 1) := by decide +kernel
theorem dX4_newsItem_50 : decode cX4_newsItem 50 = .ok (.iload_n 1, 1) := by decide +kernel
theorem dX4_newsItem_51 : decode cX4_newsItem 51 = .ok (.iload_n 2, 1) := by decide +kernel
theorem dX4_newsItem_52 : decode cX4_newsItem 52 = .ok (.aload_n 0, 1) := by decide +kernel
theorem dX4_newsItem_53 : decode cX4_newsItem 53 = .ok (.getfield 195, 3) := by decide +kernel
theorem dX4_newsItem_56 : decode cX4_newsItem 56 = .ok (.invokevirtual 95, 3) := by decide +kernel
theorem dX4_newsItem_59 : decode cX4_newsItem 59 = .ok (.return_, 1) := by decide +kernel
theorem dX4_item_0 : decode cX4_item 0 = .ok (.aload_n 0, 1) := by decide +kernel
theorem dX4_item_1 : decode cX4_item 1 = .ok (.invokevirtual 232, 3) := by decide +kernel
theorem dX4_item_4 : decode cX4_item 4 = .ok (.istore_n 1, 1) := by decide +kernel
theorem dX4_item_5 : decode cX4_item 5 = .ok (.aload_n 0, 1) := by decide +kernel
theorem dX4_item_6 : decode cX4_item 6 = .ok (.invokevirtual 202, 3) := by decide +kernel
theorem dX4_item_9 : decode cX4_item 9 = .ok (.lstore_n 2, 1) := by decide +kernel
theorem dX4_item_10 : decode cX4_item 10 = .ok (.iload_n 1, 1) := by decide +kernel
theorem dX4_item_11 : decode cX4_item 11 = .ok (.ifCond .lt 11, 3) := by decide +kernel
theorem dX4_item_14 : decode cX4_item 14 = .ok (.aload_n 0, 1) := by decide +kernel
theorem dX4_item_15 : decode cX4_item 15 = .ok (.iload_n 1, 1) := by decide +kernel
theorem dX4_item_16 : decode cX4_item 16 = .ok (.invokevirtual 235, 3) := by decide +kernel
theorem dX4_item_19 : decode cX4_item 19 = .ok (.goto 68, 3) := by decide +kernel
theorem dX4_item_22 : decode cX4_item 22 = .ok (.lload_n 2, 1) := by decide +kernel
theorem dX4_item_23 : decode cX4_item 23 = .ok (.ldc2_w 238, 3) := by decide +kernel
theorem dX4_item_26 : decode cX4_item 26 = .ok (.lcmp, 1) := by decide +kernel
theorem dX4_item_27 : decode cX4_item 27 = .ok (.ifCond .ne 10, 3) := by decide +kernel
theorem dX4_item_30 : decode cX4_item 30 = .ok (.aload_n 0, 1) := by decide +kernel
theorem dX4_item_31 : decode cX4_item 31 = .ok (.invokevirtual 240, 3) := by decide +kernel
theorem dX4_item_34 : decode cX4_item 34 = .ok (.goto 53, 3) := by decide +kernel
theorem dX4_item_37 : decode cX4_item 37 = .ok (.aload_n 0, 1) := by decide +kernel
theorem dX4_item_38 : decode cX4_item 38 = .ok (.lload_n 2, 1) := by decide +kernel
theorem dX4_item_39 : decode cX4_item 39 = .ok (.ldc2_w 243, 3) := by decide +kernel
theorem dX4_item_42 : decode cX4_item 42 = .ok (.lcmp, 1) := by decide +kernel
theorem dX4_item_43 : decode cX4_item 43 = .ok (.ifCond .ne 7, 3) := by decide +kernel
theorem dX4_item_46 : decode cX4_item 46 = .ok (.iconst 1, 1) := by decide +kernel
theorem dX4_item_47 : decode cX4_item 47 = .ok (.goto 4, 3) := by decide +kernel
theorem dX4_item_50 : decode cX4_item 50 = .ok (.iconst 0, 1) := by decide +kernel
theorem dX4_item_51 : decode cX4_item 51 = .ok (.invokevirtual 198, 3) := by decide +kernel
theorem dX4_item_54 : decode cX4_item 54 = .ok (.aload_n 0, 1) := by decide +kernel
theorem dX4_item_55 : decode cX4_item 55 = .ok (.iconst 0, 1) := by decide +kernel
theorem dX4_item_56 : decode cX4_item 56 = .ok (.bipush 20, 2) := by decide +kernel
theorem dX4_item_58 : decode cX4_item 58 = .ok (.invokevirtual 218, 3) := by decide +kernel
theorem dX4_item_61 : decode cX4_item 61 = .ok (.aload_n 0, 1) := by decide +kernel
theorem dX4_item_62 : decode cX4_item 62 = .ok (.getfield 7, 3) := by decide +kernel
theorem dX4_item_65 : decode cX4_item 65 = .ok (.iconst 2, 1) := by decide +kernel
theorem dX4_item_66 : decode cX4_item 66 = .ok (.aload_n 0, 1) := by decide +kernel
theorem dX4_item_67 : decode cX4_item 67 = .ok (.getfield 184, 3) := by decide +kernel
theorem dX4_item_70 : decode cX4_item 70 = .ok (.ifCond .eq 12, 3) := by decide +kernel
theorem dX4_item_73 : decode cX4_item 73 = .ok (.aload_n 0, 1) := by decide +kernel
theorem dX4_item_74 : decode cX4_item 74 = .ok (.getfield 7, 3) := by decide +kernel
theorem dX4_item_77 : decode cX4_item 77 = .ok (.iconst 2, 1) := by decide +kernel
theorem dX4_item_78 : decode cX4_item 78 = .ok (.iaload, 1) := by decide +kernel
theorem dX4_item_79 : decode cX4_item 79 = .ok (.goto 7, 3) := by decide +kernel
theorem dX4_item_82 : decode cX4_item 82 = .ok (.aload_n 0, 1) := by decide +kernel
theorem dX4_item_83 : decode cX4_item 83 = .ok (.getfield 195, 3) := by decide +kernel
theorem dX4_item_86 : decode cX4_item 86 = .ok (.iastore, 1) := by decide +kernel
theorem dX4_item_87 : decode cX4_item 87 = .ok (.return_, 1) := by decide +kernel
theorem dX4_park_0 : decode cX4_park 0 = .ok (.aload_n 0, 1) := by decide +kernel
theorem dX4_park_1 : decode cX4_park 1 = .ok (.invokevirtual 245, 3) := by decide +kernel
theorem dX4_park_4 : decode cX4_park 4 = .ok (.aload_n 0, 1) := by decide +kernel
theorem dX4_park_5 : decode cX4_park 5 = .ok (.iconst 0, 1) := by decide +kernel
theorem dX4_park_6 : decode cX4_park 6 = .ok (.putfield 184, 3) := by decide +kernel
theorem dX4_park_9 : decode cX4_park 9 = .ok (.aload_n 0, 1) := by decide +kernel
theorem dX4_park_10 : decode cX4_park 10 = .ok (.iconst 0, 1) := by decide +kernel
theorem dX4_park_11 : decode cX4_park 11 = .ok (.putfield 169, 3) := by decide +kernel
theorem dX4_park_14 : decode cX4_park 14 = .ok (.aload_n 0, 1) := by decide +kernel
theorem dX4_park_15 : decode cX4_park 15 = .ok (.invokevirtual 188, 3) := by decide +kernel
theorem dX4_park_18 : decode cX4_park 18 = .ok (.iconst 1, 1) := by decide +kernel
theorem dX4_park_19 : decode cX4_park 19 = .ok (.istore_n 1, 1) := by decide +kernel
theorem dX4_park_20 : decode cX4_park 20 = .ok (.aload_n 0, 1) := by decide +kernel
theorem dX4_park_21 : decode cX4_park 21 = .ok (.invokevirtual 248, 3) := by decide +kernel
theorem dX4_park_24 : decode cX4_park 24 = .ok (.aload_n 0, 1) := by decide +kernel
theorem dX4_park_25 : decode cX4_park 25 = .ok (.getfield 184, 3) := by decide +kernel
theorem dX4_park_28 : decode cX4_park 28 = .ok (.ifCond .ne 31, 3) := by decide +kernel
theorem dX4_park_31 : decode cX4_park 31 = .ok (.aload_n 0, 1) := by decide +kernel
theorem dX4_park_32 : decode cX4_park 32 = .ok (.aload_n 0, 1) := by decide +kernel
theorem dX4_park_33 : decode cX4_park 33 = .ok (.getfield 172, 3) := by decide +kernel
theorem dX4_park_36 : decode cX4_park 36 = .ok (.invokevirtual 175, 3) := by decide +kernel
theorem dX4_park_39 : decode cX4_park 39 = .ok (.bipush 59, 2) := by decide +kernel
theorem dX4_park_41 : decode cX4_park 41 = .ok (.if_icmp .ne 18, 3) := by decide +kernel
theorem dX4_park_44 : decode cX4_park 44 = .ok (.aload_n 0, 1) := by decide +kernel
theorem dX4_park_45 : decode cX4_park 45 = .ok (.iconst 1, 1) := by decide +kernel
theorem dX4_park_46 : decode cX4_park 46 = .ok (.invokevirtual 198, 3) := by decide +kernel
theorem dX4_park_49 : decode cX4_park 49 = .ok (.aload_n 0, 1) := by decide +kernel
theorem dX4_park_50 : decode cX4_park 50 = .ok (.invokevirtual 248, 3) := by decide +kernel
theorem dX4_park_53 : decode cX4_park 53 = .ok (.iinc 1 1, 3) := by decide +kernel
theorem dX4_park_56 : decode cX4_park 56 = .ok (.goto (-32), 3) := by decide +kernel
theorem dX4_park_59 : decode cX4_park 59 = .ok (.aload_n 0, 1) := by decide +kernel
theorem dX4_park_60 : decode cX4_park 60 = .ok (.aload_n 0, 1) := by decide +kernel
theorem dX4_park_61 : decode cX4_park 61 = .ok (.getfield 184, 3) := by decide +kernel
theorem dX4_park_64 : decode cX4_park 64 = .ok (.ifCond .ne 14, 3) := by decide +kernel
theorem dX4_park_67 : decode cX4_park 67 = .ok (.aload_n 0, 1) := by decide +kernel
theorem dX4_park_68 : decode cX4_park 68 = .ok (.getfield 172, 3) := by decide +kernel
theorem dX4_park_71 : decode cX4_park 71 = .ok (.aload_n 0, 1) := by decide +kernel
theorem dX4_park_72 : decode cX4_park 72 = .ok (.getfield 157, 3) := by decide +kernel
theorem dX4_park_75 : decode cX4_park 75 = .ok (.if_icmp .ge 7, 3) := by decide +kernel
theorem dX4_park_78 : decode cX4_park 78 = .ok (.iconst 1, 1) := by decide +kernel
theorem dX4_park_79 : decode cX4_park 79 = .ok (.goto 4, 3) := by decide +kernel
theorem dX4_park_82 : decode cX4_park 82 = .ok (.iconst 0, 1) := by decide +kernel
theorem dX4_park_83 : decode cX4_park 83 = .ok (.putfield 184, 3) := by decide +kernel
theorem dX4_park_86 : decode cX4_park 86 = .ok (.aload_n 0, 1) := by decide +kernel
theorem dX4_park_87 : decode cX4_park 87 = .ok (.getfield 184, 3) := by decide +kernel
theorem dX4_park_90 : decode cX4_park 90 = .ok (.ifCond .eq 7, 3) := by decide +kernel
theorem dX4_park_93 : decode cX4_park 93 = .ok (.aload_n 0, 1) := by decide +kernel
theorem dX4_park_94 : decode cX4_park 94 = .ok (.invokevirtual 251, 3) := by decide +kernel
theorem dX4_park_97 : decode cX4_park 97 = .ok (.aload_n 0, 1) := by decide +kernel
theorem dX4_park_98 : decode cX4_park 98 = .ok (.iconst 0, 1) := by decide +kernel
theorem dX4_park_99 : decode cX4_park 99 = .ok (.putfield 157, 3) := by decide +kernel
theorem dX4_park_102 : decode cX4_park 102 = .ok (.aload_n 0, 1) := by decide +kernel
theorem dX4_park_103 : decode cX4_park 103 = .ok (.getfield 184, 3) := by decide +kernel
theorem dX4_park_106 : decode cX4_park 106 = .ok (.ifCond .eq 12, 3) := by decide +kernel
theorem dX4_park_109 : decode cX4_park 109 = .ok (.iconst (-1), 1) := by decide +kernel
theorem dX4_park_110 : decode cX4_park 110 = .ok (.aload_n 0, 1) := by decide +kernel
theorem dX4_park_111 : decode cX4_park 111 = .ok (.getfield 172, 3) := by decide +kernel
theorem dX4_park_114 : decode cX4_park 114 = .ok (.isub, 1) := by decide +kernel
theorem dX4_park_115 : decode cX4_park 115 = .ok (.goto 4, 3) := by decide +kernel
theorem dX4_park_118 : decode cX4_park 118 = .ok (.iload_n 1, 1) := by decide +kernel
theorem dX4_park_119 : decode cX4_park 119 = .ok (.ireturn, 1) := by decide +kernel
theorem dX4_isOne_0 : decode cX4_isOne 0 = .ok (.iload_n 0, 1) := by decide +kernel
theorem dX4_isOne_1 : decode cX4_isOne 1 = .ok (.i2l, 1) := by decide +kernel
theorem dX4_isOne_2 : decode cX4_isOne 2 = .ok (.lconst 0, 1) := by decide +kernel
theorem dX4_isOne_3 : decode cX4_isOne 3 = .ok (.ldc2_w 254, 3) := by decide +kernel
theorem dX4_isOne_6 : decode cX4_isOne 6 = .ok (.invokestatic 42, 3) := by decide +kernel
theorem dX4_isOne_9 : decode cX4_isOne 9 = .ok (.ireturn, 1) := by decide +kernel
theorem dX4_sheet_0 : decode cX4_sheet 0 = .ok (.iload_n 1, 1) := by decide +kernel
theorem dX4_sheet_1 : decode cX4_sheet 1 = .ok (.invokestatic 256, 3) := by decide +kernel
theorem dX4_sheet_4 : decode cX4_sheet 4 = .ok (.ifCond .eq 25, 3) := by decide +kernel
theorem dX4_sheet_7 : decode cX4_sheet 7 = .ok (.iload_n 2, 1) := by decide +kernel
theorem dX4_sheet_8 : decode cX4_sheet 8 = .ok (.ifCond .eq 28, 3) := by decide +kernel
theorem dX4_sheet_11 : decode cX4_sheet 11 = .ok (.iload_n 2, 1) := by decide +kernel
theorem dX4_sheet_12 : decode cX4_sheet 12 = .ok (.bipush 8, 2) := by decide +kernel
theorem dX4_sheet_14 : decode cX4_sheet 14 = .ok (.if_icmp .eq 22, 3) := by decide +kernel
theorem dX4_sheet_17 : decode cX4_sheet 17 = .ok (.iload_n 2, 1) := by decide +kernel
theorem dX4_sheet_18 : decode cX4_sheet 18 = .ok (.bipush 16, 2) := by decide +kernel
theorem dX4_sheet_20 : decode cX4_sheet 20 = .ok (.if_icmp .eq 16, 3) := by decide +kernel
theorem dX4_sheet_23 : decode cX4_sheet 23 = .ok (.iload_n 2, 1) := by decide +kernel
theorem dX4_sheet_24 : decode cX4_sheet 24 = .ok (.bipush 64, 2) := by decide +kernel
theorem dX4_sheet_26 : decode cX4_sheet 26 = .ok (.if_icmp .eq 10, 3) := by decide +kernel
theorem dX4_sheet_29 : decode cX4_sheet 29 = .ok (.aload_n 0, 1) := by decide +kernel
theorem dX4_sheet_30 : decode cX4_sheet 30 = .ok (.ldc 41, 2) := by decide +kernel
theorem dX4_sheet_32 : decode cX4_sheet 32 = .ok (.invokevirtual 56, 3) := by decide +kernel
theorem dX4_sheet_35 : decode cX4_sheet 35 = .ok (.ireturn, 1) := by decide +kernel
theorem dX4_sheet_36 : decode cX4_sheet 36 = .ok (.iload_n 3, 1) := by decide +kernel
theorem dX4_sheet_37 : decode cX4_sheet 37 = .ok (.ifCond .ge 10, 3) := by decide +kernel
theorem dX4_sheet_40 : decode cX4_sheet 40 = .ok (.aload_n 0, 1) := by decide +kernel
theorem dX4_sheet_41 : decode cX4_sheet 41 = .ok (.ldc 145, 2) := by decide +kernel
theorem dX4_sheet_43 : decode cX4_sheet 43 = .ok (.invokevirtual 56, 3) := by decide +kernel
theorem dX4_sheet_46 : decode cX4_sheet 46 = .ok (.ireturn, 1) := by decide +kernel
theorem dX4_sheet_47 : decode cX4_sheet 47 = .ok (.iload_n 3, 1) := by decide +kernel
theorem dX4_sheet_48 : decode cX4_sheet 48 = .ok (.bipush 40, 2) := by decide +kernel
theorem dX4_sheet_50 : decode cX4_sheet 50 = .ok (.if_icmp .le 10, 3) := by decide +kernel
theorem dX4_sheet_53 : decode cX4_sheet 53 = .ok (.aload_n 0, 1) := by decide +kernel
theorem dX4_sheet_54 : decode cX4_sheet 54 = .ok (.ldc 41, 2) := by decide +kernel
theorem dX4_sheet_56 : decode cX4_sheet 56 = .ok (.invokevirtual 56, 3) := by decide +kernel
theorem dX4_sheet_59 : decode cX4_sheet 59 = .ok (.ireturn, 1) := by decide +kernel
theorem dX4_sheet_60 : decode cX4_sheet 60 = .ok (.aload_n 0, 1) := by decide +kernel
theorem dX4_sheet_61 : decode cX4_sheet 61 = .ok (.getfield 28, 3) := by decide +kernel
theorem dX4_sheet_64 : decode cX4_sheet 64 = .ok (.iload_n 1, 1) := by decide +kernel
theorem dX4_sheet_65 : decode cX4_sheet 65 = .ok (.iload_n 2, 1) := by decide +kernel
theorem dX4_sheet_66 : decode cX4_sheet 66 = .ok (.iastore, 1) := by decide +kernel
theorem dX4_sheet_67 : decode cX4_sheet 67 = .ok (.aload_n 0, 1) := by decide +kernel
theorem dX4_sheet_68 : decode cX4_sheet 68 = .ok (.getfield 31, 3) := by decide +kernel
theorem dX4_sheet_71 : decode cX4_sheet 71 = .ok (.iload_n 1, 1) := by decide +kernel
theorem dX4_sheet_72 : decode cX4_sheet 72 = .ok (.iload_n 2, 1) := by decide +kernel
theorem dX4_sheet_73 : decode cX4_sheet 73 = .ok (.ifCond .ne 7, 3) := by decide +kernel
theorem dX4_sheet_76 : decode cX4_sheet 76 = .ok (.iconst 0, 1) := by decide +kernel
theorem dX4_sheet_77 : decode cX4_sheet 77 = .ok (.goto 4, 3) := by decide +kernel
theorem dX4_sheet_80 : decode cX4_sheet 80 = .ok (.iload_n 3, 1) := by decide +kernel
theorem dX4_sheet_81 : decode cX4_sheet 81 = .ok (.iastore, 1) := by decide +kernel
theorem dX4_sheet_82 : decode cX4_sheet 82 = .ok (.iconst 0, 1) := by decide +kernel
theorem dX4_sheet_83 : decode cX4_sheet 83 = .ok (.istore 4, 2) := by decide +kernel
theorem dX4_sheet_85 : decode cX4_sheet 85 = .ok (.iload 4, 2) := by decide +kernel
theorem dX4_sheet_87 : decode cX4_sheet 87 = .ok (.bipush 40, 2) := by decide +kernel
theorem dX4_sheet_89 : decode cX4_sheet 89 = .ok (.if_icmp .ge 22, 3) := by decide +kernel
theorem dX4_sheet_92 : decode cX4_sheet 92 = .ok (.aload_n 0, 1) := by decide +kernel
theorem dX4_sheet_93 : decode cX4_sheet 93 = .ok (.getfield 34, 3) := by decide +kernel
theorem dX4_sheet_96 : decode cX4_sheet 96 = .ok (.bipush 40, 2) := by decide +kernel
theorem dX4_sheet_98 : decode cX4_sheet 98 = .ok (.iload_n 1, 1) := by decide +kernel
theorem dX4_sheet_99 : decode cX4_sheet 99 = .ok (.imul, 1) := by decide +kernel
theorem dX4_sheet_100 : decode cX4_sheet 100 = .ok (.iload 4, 2) := by decide +kernel
theorem dX4_sheet_102 : decode cX4_sheet 102 = .ok (.iadd, 1) := by decide +kernel
theorem dX4_sheet_103 : decode cX4_sheet 103 = .ok (.lconst 0, 1) := by decide +kernel
theorem dX4_sheet_104 : decode cX4_sheet 104 = .ok (.lastore, 1) := by decide +kernel
theorem dX4_sheet_105 : decode cX4_sheet 105 = .ok (.iinc 4 1, 3) := by decide +kernel
theorem dX4_sheet_108 : decode cX4_sheet 108 = .ok (.goto (-23), 3) := by decide +kernel
theorem dX4_sheet_111 : decode cX4_sheet 111 = .ok (.aload_n 0, 1) := by decide +kernel
theorem dX4_sheet_112 : decode cX4_sheet 112 = .ok (.getfield 31, 3) := by decide +kernel
theorem dX4_sheet_115 : decode cX4_sheet 115 = .ok (.iload_n 1, 1) := by decide +kernel
theorem dX4_sheet_116 : decode cX4_sheet 116 = .ok (.iaload, 1) := by decide +kernel
theorem dX4_sheet_117 : decode cX4_sheet 117 = .ok (.ireturn, 1) := by decide +kernel
theorem dX4_narrowed_0 : decode cX4_narrowed 0 = .ok (.iload_n 0, 1) := by decide +kernel
theorem dX4_narrowed_1 : decode cX4_narrowed 1 = .ok (.bipush 8, 2) := by decide +kernel
theorem dX4_narrowed_3 : decode cX4_narrowed 3 = .ok (.if_icmp .ne 10, 3) := by decide +kernel
theorem dX4_narrowed_6 : decode cX4_narrowed 6 = .ok (.lload_n 1, 1) := by decide +kernel
theorem dX4_narrowed_7 : decode cX4_narrowed 7 = .ok (.l2i, 1) := by decide +kernel
theorem dX4_narrowed_8 : decode cX4_narrowed 8 = .ok (.i2b, 1) := by decide +kernel
theorem dX4_narrowed_9 : decode cX4_narrowed 9 = .ok (.i2l, 1) := by decide +kernel
theorem dX4_narrowed_10 : decode cX4_narrowed 10 = .ok (.goto 17, 3) := by decide +kernel
theorem dX4_narrowed_13 : decode cX4_narrowed 13 = .ok (.iload_n 0, 1) := by decide +kernel
theorem dX4_narrowed_14 : decode cX4_narrowed 14 = .ok (.bipush 16, 2) := by decide +kernel
theorem dX4_narrowed_16 : decode cX4_narrowed 16 = .ok (.if_icmp .ne 10, 3) := by decide +kernel
theorem dX4_narrowed_19 : decode cX4_narrowed 19 = .ok (.lload_n 1, 1) := by decide +kernel
theorem dX4_narrowed_20 : decode cX4_narrowed 20 = .ok (.l2i, 1) := by decide +kernel
theorem dX4_narrowed_21 : decode cX4_narrowed 21 = .ok (.i2s, 1) := by decide +kernel
theorem dX4_narrowed_22 : decode cX4_narrowed 22 = .ok (.i2l, 1) := by decide +kernel
theorem dX4_narrowed_23 : decode cX4_narrowed 23 = .ok (.goto 4, 3) := by decide +kernel
theorem dX4_narrowed_26 : decode cX4_narrowed 26 = .ok (.lload_n 1, 1) := by decide +kernel
theorem dX4_narrowed_27 : decode cX4_narrowed 27 = .ok (.lreturn, 1) := by decide +kernel
theorem dX4_wrongSheet_0 : decode cX4_wrongSheet 0 = .ok (.iload_n 1, 1) := by decide +kernel
theorem dX4_wrongSheet_1 : decode cX4_wrongSheet 1 = .ok (.invokestatic 256, 3) := by decide +kernel
theorem dX4_wrongSheet_4 : decode cX4_wrongSheet 4 = .ok (.ifCond .ne 8, 3) := by decide +kernel
theorem dX4_wrongSheet_7 : decode cX4_wrongSheet 7 = .ok (.ldc 41, 2) := by decide +kernel
theorem dX4_wrongSheet_9 : decode cX4_wrongSheet 9 = .ok (.goto 19, 3) := by decide +kernel
theorem dX4_wrongSheet_12 : decode cX4_wrongSheet 12 = .ok (.aload_n 0, 1) := by decide +kernel
theorem dX4_wrongSheet_13 : decode cX4_wrongSheet 13 = .ok (.getfield 28, 3) := by decide +kernel
theorem dX4_wrongSheet_16 : decode cX4_wrongSheet 16 = .ok (.iload_n 1, 1) := by decide +kernel
theorem dX4_wrongSheet_17 : decode cX4_wrongSheet 17 = .ok (.iaload, 1) := by decide +kernel
theorem dX4_wrongSheet_18 : decode cX4_wrongSheet 18 = .ok (.ifCond .ne 9, 3) := by decide +kernel
theorem dX4_wrongSheet_21 : decode cX4_wrongSheet 21 = .ok (.ldc_w 259, 3) := by decide +kernel
theorem dX4_wrongSheet_24 : decode cX4_wrongSheet 24 = .ok (.goto 4, 3) := by decide +kernel
theorem dX4_wrongSheet_27 : decode cX4_wrongSheet 27 = .ok (.iconst 0, 1) := by decide +kernel
theorem dX4_wrongSheet_28 : decode cX4_wrongSheet 28 = .ok (.ireturn, 1) := by decide +kernel
theorem dX4_write_0 : decode cX4_write 0 = .ok (.aload_n 0, 1) := by decide +kernel
theorem dX4_write_1 : decode cX4_write 1 = .ok (.iload_n 1, 1) := by decide +kernel
theorem dX4_write_2 : decode cX4_write 2 = .ok (.invokevirtual 260, 3) := by decide +kernel
theorem dX4_write_5 : decode cX4_write 5 = .ok (.istore 5, 2) := by decide +kernel
theorem dX4_write_7 : decode cX4_write 7 = .ok (.iload 5, 2) := by decide +kernel
theorem dX4_write_9 : decode cX4_write 9 = .ok (.ifCond .eq 11, 3) := by decide +kernel
theorem dX4_write_12 : decode cX4_write 12 = .ok (.aload_n 0, 1) := by decide +kernel
theorem dX4_write_13 : decode cX4_write 13 = .ok (.iload 5, 2) := by decide +kernel
theorem dX4_write_15 : decode cX4_write 15 = .ok (.invokevirtual 56, 3) := by decide +kernel
theorem dX4_write_18 : decode cX4_write 18 = .ok (.i2l, 1) := by decide +kernel
theorem dX4_write_19 : decode cX4_write 19 = .ok (.lreturn, 1) := by decide +kernel
theorem dX4_write_20 : decode cX4_write 20 = .ok (.iload_n 2, 1) := by decide +kernel
theorem dX4_write_21 : decode cX4_write 21 = .ok (.i2l, 1) := by decide +kernel
theorem dX4_write_22 : decode cX4_write 22 = .ok (.lconst 0, 1) := by decide +kernel
theorem dX4_write_23 : decode cX4_write 23 = .ok (.aload_n 0, 1) := by decide +kernel
theorem dX4_write_24 : decode cX4_write 24 = .ok (.getfield 31, 3) := by decide +kernel
theorem dX4_write_27 : decode cX4_write 27 = .ok (.iload_n 1, 1) := by decide +kernel
theorem dX4_write_28 : decode cX4_write 28 = .ok (.iaload, 1) := by decide +kernel
theorem dX4_write_29 : decode cX4_write 29 = .ok (.iconst 1, 1) := by decide +kernel
theorem dX4_write_30 : decode cX4_write 30 = .ok (.isub, 1) := by decide +kernel
theorem dX4_write_31 : decode cX4_write 31 = .ok (.i2l, 1) := by decide +kernel
theorem dX4_write_32 : decode cX4_write 32 = .ok (.invokestatic 42, 3) := by decide +kernel
theorem dX4_write_35 : decode cX4_write 35 = .ok (.ifCond .ne 11, 3) := by decide +kernel
theorem dX4_write_38 : decode cX4_write 38 = .ok (.aload_n 0, 1) := by decide +kernel
theorem dX4_write_39 : decode cX4_write 39 = .ok (.ldc 41, 2) := by decide +kernel
theorem dX4_write_41 : decode cX4_write 41 = .ok (.invokevirtual 56, 3) := by decide +kernel
theorem dX4_write_44 : decode cX4_write 44 = .ok (.i2l, 1) := by decide +kernel
theorem dX4_write_45 : decode cX4_write 45 = .ok (.lreturn, 1) := by decide +kernel
theorem dX4_write_46 : decode cX4_write 46 = .ok (.aload_n 0, 1) := by decide +kernel
theorem dX4_write_47 : decode cX4_write 47 = .ok (.getfield 34, 3) := by decide +kernel
theorem dX4_write_50 : decode cX4_write 50 = .ok (.bipush 40, 2) := by decide +kernel
theorem dX4_write_52 : decode cX4_write 52 = .ok (.iload_n 1, 1) := by decide +kernel
theorem dX4_write_53 : decode cX4_write 53 = .ok (.imul, 1) := by decide +kernel
theorem dX4_write_54 : decode cX4_write 54 = .ok (.iload_n 2, 1) := by decide +kernel
theorem dX4_write_55 : decode cX4_write 55 = .ok (.iadd, 1) := by decide +kernel
theorem dX4_write_56 : decode cX4_write 56 = .ok (.laload, 1) := by decide +kernel
theorem dX4_write_57 : decode cX4_write 57 = .ok (.lstore 6, 2) := by decide +kernel
theorem dX4_write_59 : decode cX4_write 59 = .ok (.aload_n 0, 1) := by decide +kernel
theorem dX4_write_60 : decode cX4_write 60 = .ok (.getfield 34, 3) := by decide +kernel
theorem dX4_write_63 : decode cX4_write 63 = .ok (.bipush 40, 2) := by decide +kernel
theorem dX4_write_65 : decode cX4_write 65 = .ok (.iload_n 1, 1) := by decide +kernel
theorem dX4_write_66 : decode cX4_write 66 = .ok (.imul, 1) := by decide +kernel
theorem dX4_write_67 : decode cX4_write 67 = .ok (.iload_n 2, 1) := by decide +kernel
theorem dX4_write_68 : decode cX4_write 68 = .ok (.iadd, 1) := by decide +kernel
theorem dX4_write_69 : decode cX4_write 69 = .ok (.aload_n 0, 1) := by decide +kernel
theorem dX4_write_70 : decode cX4_write 70 = .ok (.getfield 28, 3) := by decide +kernel
theorem dX4_write_73 : decode cX4_write 73 = .ok (.iload_n 1, 1) := by decide +kernel
theorem dX4_write_74 : decode cX4_write 74 = .ok (.iaload, 1) := by decide +kernel
theorem dX4_write_75 : decode cX4_write 75 = .ok (.lload_n 3, 1) := by decide +kernel
theorem dX4_write_76 : decode cX4_write 76 = .ok (.invokestatic 263, 3) := by decide +kernel
theorem dX4_write_79 : decode cX4_write 79 = .ok (.lastore, 1) := by decide +kernel
theorem dX4_write_80 : decode cX4_write 80 = .ok (.lload 6, 2) := by decide +kernel
theorem dX4_write_82 : decode cX4_write 82 = .ok (.lreturn, 1) := by decide +kernel
theorem dX4_copy_0 : decode cX4_copy 0 = .ok (.iload_n 1, 1) := by decide +kernel
theorem dX4_copy_1 : decode cX4_copy 1 = .ok (.invokestatic 256, 3) := by decide +kernel
theorem dX4_copy_4 : decode cX4_copy 4 = .ok (.ifCond .eq 10, 3) := by decide +kernel
theorem dX4_copy_7 : decode cX4_copy 7 = .ok (.iload_n 3, 1) := by decide +kernel
theorem dX4_copy_8 : decode cX4_copy 8 = .ok (.invokestatic 256, 3) := by decide +kernel
theorem dX4_copy_11 : decode cX4_copy 11 = .ok (.ifCond .ne 10, 3) := by decide +kernel
theorem dX4_copy_14 : decode cX4_copy 14 = .ok (.aload_n 0, 1) := by decide +kernel
theorem dX4_copy_15 : decode cX4_copy 15 = .ok (.ldc 41, 2) := by decide +kernel
theorem dX4_copy_17 : decode cX4_copy 17 = .ok (.invokevirtual 56, 3) := by decide +kernel
theorem dX4_copy_20 : decode cX4_copy 20 = .ok (.ireturn, 1) := by decide +kernel
theorem dX4_copy_21 : decode cX4_copy 21 = .ok (.aload_n 0, 1) := by decide +kernel
theorem dX4_copy_22 : decode cX4_copy 22 = .ok (.getfield 28, 3) := by decide +kernel
theorem dX4_copy_25 : decode cX4_copy 25 = .ok (.iload_n 1, 1) := by decide +kernel
theorem dX4_copy_26 : decode cX4_copy 26 = .ok (.iaload, 1) := by decide +kernel
theorem dX4_copy_27 : decode cX4_copy 27 = .ok (.ifCond .eq 12, 3) := by decide +kernel
theorem dX4_copy_30 : decode cX4_copy 30 = .ok (.aload_n 0, 1) := by decide +kernel
theorem dX4_copy_31 : decode cX4_copy 31 = .ok (.getfield 28, 3) := by decide +kernel
theorem dX4_copy_34 : decode cX4_copy 34 = .ok (.iload_n 3, 1) := by decide +kernel
theorem dX4_copy_35 : decode cX4_copy 35 = .ok (.iaload, 1) := by decide +kernel
theorem dX4_copy_36 : decode cX4_copy 36 = .ok (.ifCond .ne 11, 3) := by decide +kernel
theorem dX4_copy_39 : decode cX4_copy 39 = .ok (.aload_n 0, 1) := by decide +kernel
theorem dX4_copy_40 : decode cX4_copy 40 = .ok (.ldc_w 259, 3) := by decide +kernel
theorem dX4_copy_43 : decode cX4_copy 43 = .ok (.invokevirtual 56, 3) := by decide +kernel
theorem dX4_copy_46 : decode cX4_copy 46 = .ok (.ireturn, 1) := by decide +kernel
theorem dX4_copy_47 : decode cX4_copy 47 = .ok (.aload_n 0, 1) := by decide +kernel
theorem dX4_copy_48 : decode cX4_copy 48 = .ok (.getfield 28, 3) := by decide +kernel
theorem dX4_copy_51 : decode cX4_copy 51 = .ok (.iload_n 1, 1) := by decide +kernel
theorem dX4_copy_52 : decode cX4_copy 52 = .ok (.iaload, 1) := by decide +kernel
theorem dX4_copy_53 : decode cX4_copy 53 = .ok (.aload_n 0, 1) := by decide +kernel
theorem dX4_copy_54 : decode cX4_copy 54 = .ok (.getfield 28, 3) := by decide +kernel
theorem dX4_copy_57 : decode cX4_copy 57 = .ok (.iload_n 3, 1) := by decide +kernel
theorem dX4_copy_58 : decode cX4_copy 58 = .ok (.iaload, 1) := by decide +kernel
theorem dX4_copy_59 : decode cX4_copy 59 = .ok (.if_icmp .eq 10, 3) := by decide +kernel
theorem dX4_copy_62 : decode cX4_copy 62 = .ok (.aload_n 0, 1) := by decide +kernel
theorem dX4_copy_63 : decode cX4_copy 63 = .ok (.ldc 91, 2) := by decide +kernel
theorem dX4_copy_65 : decode cX4_copy 65 = .ok (.invokevirtual 56, 3) := by decide +kernel
theorem dX4_copy_68 : decode cX4_copy 68 = .ok (.ireturn, 1) := by decide +kernel
theorem dX4_copy_69 : decode cX4_copy 69 = .ok (.iload_n 2, 1) := by decide +kernel
theorem dX4_copy_70 : decode cX4_copy 70 = .ok (.ifCond .lt 40, 3) := by decide +kernel
theorem dX4_copy_73 : decode cX4_copy 73 = .ok (.iload 4, 2) := by decide +kernel
theorem dX4_copy_75 : decode cX4_copy 75 = .ok (.ifCond .lt 35, 3) := by decide +kernel
theorem dX4_copy_78 : decode cX4_copy 78 = .ok (.iload 5, 2) := by decide +kernel
theorem dX4_copy_80 : decode cX4_copy 80 = .ok (.ifCond .lt 30, 3) := by decide +kernel
theorem dX4_copy_83 : decode cX4_copy 83 = .ok (.iload 5, 2) := by decide +kernel
theorem dX4_copy_85 : decode cX4_copy 85 = .ok (.aload_n 0, 1) := by decide +kernel
theorem dX4_copy_86 : decode cX4_copy 86 = .ok (.getfield 31, 3) := by decide +kernel
theorem dX4_copy_89 : decode cX4_copy 89 = .ok (.iload_n 1, 1) := by decide +kernel
theorem dX4_copy_90 : decode cX4_copy 90 = .ok (.iaload, 1) := by decide +kernel
theorem dX4_copy_91 : decode cX4_copy 91 = .ok (.iload_n 2, 1) := by decide +kernel
theorem dX4_copy_92 : decode cX4_copy 92 = .ok (.isub, 1) := by decide +kernel
theorem dX4_copy_93 : decode cX4_copy 93 = .ok (.if_icmp .gt 17, 3) := by decide +kernel
theorem dX4_copy_96 : decode cX4_copy 96 = .ok (.iload 5, 2) := by decide +kernel
theorem dX4_copy_98 : decode cX4_copy 98 = .ok (.aload_n 0, 1) := by decide +kernel
theorem dX4_copy_99 : decode cX4_copy 99 = .ok (.getfield 31, 3) := by decide +kernel
theorem dX4_copy_102 : decode cX4_copy 102 = .ok (.iload_n 3, 1) := by decide +kernel
theorem dX4_copy_103 : decode cX4_copy 103 = .ok (.iaload, 1) := by decide +kernel
theorem dX4_copy_104 : decode cX4_copy 104 = .ok (.iload 4, 2) := by decide +kernel
theorem dX4_copy_106 : decode cX4_copy 106 = .ok (.isub, 1) := by decide +kernel
theorem dX4_copy_107 : decode cX4_copy 107 = .ok (.if_icmp .le 10, 3) := by decide +kernel
theorem dX4_copy_110 : decode cX4_copy 110 = .ok (.aload_n 0, 1) := by decide +kernel
theorem dX4_copy_111 : decode cX4_copy 111 = .ok (.ldc 41, 2) := by decide +kernel
theorem dX4_copy_113 : decode cX4_copy 113 = .ok (.invokevirtual 56, 3) := by decide +kernel
theorem dX4_copy_116 : decode cX4_copy 116 = .ok (.ireturn, 1) := by decide +kernel
theorem dX4_copy_117 : decode cX4_copy 117 = .ok (.iconst 0, 1) := by decide +kernel
theorem dX4_copy_118 : decode cX4_copy 118 = .ok (.istore 6, 2) := by decide +kernel
theorem dX4_copy_120 : decode cX4_copy 120 = .ok (.iload 6, 2) := by decide +kernel
theorem dX4_copy_122 : decode cX4_copy 122 = .ok (.iload 5, 2) := by decide +kernel
theorem dX4_copy_124 : decode cX4_copy 124 = .ok (.if_icmp .ge 30, 3) := by decide +kernel
theorem dX4_copy_127 : decode cX4_copy 127 = .ok (.aload_n 0, 1) := by decide +kernel
theorem dX4_copy_128 : decode cX4_copy 128 = .ok (.getfield 38, 3) := by decide +kernel
theorem dX4_copy_131 : decode cX4_copy 131 = .ok (.iload 6, 2) := by decide +kernel
theorem dX4_copy_133 : decode cX4_copy 133 = .ok (.aload_n 0, 1) := by decide +kernel
theorem dX4_copy_134 : decode cX4_copy 134 = .ok (.getfield 34, 3) := by decide +kernel
theorem dX4_copy_137 : decode cX4_copy 137 = .ok (.bipush 40, 2) := by decide +kernel
theorem dX4_copy_139 : decode cX4_copy 139 = .ok (.iload_n 1, 1) := by decide +kernel
theorem dX4_copy_140 : decode cX4_copy 140 = .ok (.imul, 1) := by decide +kernel
theorem dX4_copy_141 : decode cX4_copy 141 = .ok (.iload_n 2, 1) := by decide +kernel
theorem dX4_copy_142 : decode cX4_copy 142 = .ok (.iadd, 1) := by decide +kernel
theorem dX4_copy_143 : decode cX4_copy 143 = .ok (.iload 6, 2) := by decide +kernel
theorem dX4_copy_145 : decode cX4_copy 145 = .ok (.iadd, 1) := by decide +kernel
theorem dX4_copy_146 : decode cX4_copy 146 = .ok (.laload, 1) := by decide +kernel
theorem dX4_copy_147 : decode cX4_copy 147 = .ok (.lastore, 1) := by decide +kernel
theorem dX4_copy_148 : decode cX4_copy 148 = .ok (.iinc 6 1, 3) := by decide +kernel
theorem dX4_copy_151 : decode cX4_copy 151 = .ok (.goto (-31), 3) := by decide +kernel
theorem dX4_copy_154 : decode cX4_copy 154 = .ok (.iconst 0, 1) := by decide +kernel
theorem dX4_copy_155 : decode cX4_copy 155 = .ok (.istore 6, 2) := by decide +kernel
theorem dX4_copy_157 : decode cX4_copy 157 = .ok (.iload 6, 2) := by decide +kernel
theorem dX4_copy_159 : decode cX4_copy 159 = .ok (.iload 5, 2) := by decide +kernel
theorem dX4_copy_161 : decode cX4_copy 161 = .ok (.if_icmp .ge 31, 3) := by decide +kernel
theorem dX4_copy_164 : decode cX4_copy 164 = .ok (.aload_n 0, 1) := by decide +kernel
theorem dX4_copy_165 : decode cX4_copy 165 = .ok (.getfield 34, 3) := by decide +kernel
theorem dX4_copy_168 : decode cX4_copy 168 = .ok (.bipush 40, 2) := by decide +kernel
theorem dX4_copy_170 : decode cX4_copy 170 = .ok (.iload_n 3, 1) := by decide +kernel
theorem dX4_copy_171 : decode cX4_copy 171 = .ok (.imul, 1) := by decide +kernel
theorem dX4_copy_172 : decode cX4_copy 172 = .ok (.iload 4, 2) := by decide +kernel
theorem dX4_copy_174 : decode cX4_copy 174 = .ok (.iadd, 1) := by decide +kernel
theorem dX4_copy_175 : decode cX4_copy 175 = .ok (.iload 6, 2) := by decide +kernel
theorem dX4_copy_177 : decode cX4_copy 177 = .ok (.iadd, 1) := by decide +kernel
theorem dX4_copy_178 : decode cX4_copy 178 = .ok (.aload_n 0, 1) := by decide +kernel
theorem dX4_copy_179 : decode cX4_copy 179 = .ok (.getfield 38, 3) := by decide +kernel
theorem dX4_copy_182 : decode cX4_copy 182 = .ok (.iload 6, 2) := by decide +kernel
theorem dX4_copy_184 : decode cX4_copy 184 = .ok (.laload, 1) := by decide +kernel
theorem dX4_copy_185 : decode cX4_copy 185 = .ok (.lastore, 1) := by decide +kernel
theorem dX4_copy_186 : decode cX4_copy 186 = .ok (.iinc 6 1, 3) := by decide +kernel
theorem dX4_copy_189 : decode cX4_copy 189 = .ok (.goto (-32), 3) := by decide +kernel
theorem dX4_copy_192 : decode cX4_copy 192 = .ok (.iload 5, 2) := by decide +kernel
theorem dX4_copy_194 : decode cX4_copy 194 = .ok (.ireturn, 1) := by decide +kernel
theorem dX4_lays_0 : decode cX4_lays 0 = .ok (.aload_n 0, 1) := by decide +kernel
theorem dX4_lays_1 : decode cX4_lays 1 = .ok (.iload_n 1, 1) := by decide +kernel
theorem dX4_lays_2 : decode cX4_lays 2 = .ok (.invokevirtual 260, 3) := by decide +kernel
theorem dX4_lays_5 : decode cX4_lays 5 = .ok (.istore_n 2, 1) := by decide +kernel
theorem dX4_lays_6 : decode cX4_lays 6 = .ok (.iload_n 2, 1) := by decide +kernel
theorem dX4_lays_7 : decode cX4_lays 7 = .ok (.ifCond .eq 9, 3) := by decide +kernel
theorem dX4_lays_10 : decode cX4_lays 10 = .ok (.aload_n 0, 1) := by decide +kernel
theorem dX4_lays_11 : decode cX4_lays 11 = .ok (.iload_n 2, 1) := by decide +kernel
theorem dX4_lays_12 : decode cX4_lays 12 = .ok (.invokevirtual 56, 3) := by decide +kernel
theorem dX4_lays_15 : decode cX4_lays 15 = .ok (.ireturn, 1) := by decide +kernel
theorem dX4_lays_16 : decode cX4_lays 16 = .ok (.iconst 0, 1) := by decide +kernel
theorem dX4_lays_17 : decode cX4_lays 17 = .ok (.istore_n 3, 1) := by decide +kernel
theorem dX4_lays_18 : decode cX4_lays 18 = .ok (.iconst 0, 1) := by decide +kernel
theorem dX4_lays_19 : decode cX4_lays 19 = .ok (.istore 4, 2) := by decide +kernel
theorem dX4_lays_21 : decode cX4_lays 21 = .ok (.iload 4, 2) := by decide +kernel
theorem dX4_lays_23 : decode cX4_lays 23 = .ok (.aload_n 0, 1) := by decide +kernel
theorem dX4_lays_24 : decode cX4_lays 24 = .ok (.getfield 31, 3) := by decide +kernel
theorem dX4_lays_27 : decode cX4_lays 27 = .ok (.iload_n 1, 1) := by decide +kernel
theorem dX4_lays_28 : decode cX4_lays 28 = .ok (.iaload, 1) := by decide +kernel
theorem dX4_lays_29 : decode cX4_lays 29 = .ok (.if_icmp .ge 93, 3) := by decide +kernel
theorem dX4_lays_32 : decode cX4_lays 32 = .ok (.iload 4, 2) := by decide +kernel
theorem dX4_lays_34 : decode cX4_lays 34 = .ok (.aload_n 0, 1) := by decide +kernel
theorem dX4_lays_35 : decode cX4_lays 35 = .ok (.getfield 7, 3) := by decide +kernel
theorem dX4_lays_38 : decode cX4_lays 38 = .ok (.iconst 0, 1) := by decide +kernel
theorem dX4_lays_39 : decode cX4_lays 39 = .ok (.iaload, 1) := by decide +kernel
theorem dX4_lays_40 : decode cX4_lays 40 = .ok (.if_icmp .ge 82, 3) := by decide +kernel
theorem dX4_lays_43 : decode cX4_lays 43 = .ok (.aload_n 0, 1) := by decide +kernel
theorem dX4_lays_44 : decode cX4_lays 44 = .ok (.getfield 34, 3) := by decide +kernel
theorem dX4_lays_47 : decode cX4_lays 47 = .ok (.bipush 40, 2) := by decide +kernel
theorem dX4_lays_49 : decode cX4_lays 49 = .ok (.iload_n 1, 1) := by decide +kernel
theorem dX4_lays_50 : decode cX4_lays 50 = .ok (.imul, 1) := by decide +kernel
theorem dX4_lays_51 : decode cX4_lays 51 = .ok (.iload 4, 2) := by decide +kernel
theorem dX4_lays_53 : decode cX4_lays 53 = .ok (.iadd, 1) := by decide +kernel
theorem dX4_lays_54 : decode cX4_lays 54 = .ok (.laload, 1) := by decide +kernel
theorem dX4_lays_55 : decode cX4_lays 55 = .ok (.lconst 0, 1) := by decide +kernel
theorem dX4_lays_56 : decode cX4_lays 56 = .ok (.ldc2_w 82, 3) := by decide +kernel
theorem dX4_lays_59 : decode cX4_lays 59 = .ok (.invokestatic 42, 3) := by decide +kernel
theorem dX4_lays_62 : decode cX4_lays 62 = .ok (.istore 5, 2) := by decide +kernel
theorem dX4_lays_64 : decode cX4_lays 64 = .ok (.aload_n 0, 1) := by decide +kernel
theorem dX4_lays_65 : decode cX4_lays 65 = .ok (.getfield 7, 3) := by decide +kernel
theorem dX4_lays_68 : decode cX4_lays 68 = .ok (.iload 4, 2) := by decide +kernel
theorem dX4_lays_70 : decode cX4_lays 70 = .ok (.iconst 1, 1) := by decide +kernel
theorem dX4_lays_71 : decode cX4_lays 71 = .ok (.invokestatic 48, 3) := by decide +kernel
theorem dX4_lays_74 : decode cX4_lays 74 = .ok (.iload 5, 2) := by decide +kernel
theorem dX4_lays_76 : decode cX4_lays 76 = .ok (.ifCond .eq 19, 3) := by decide +kernel
theorem dX4_lays_79 : decode cX4_lays 79 = .ok (.aload_n 0, 1) := by decide +kernel
theorem dX4_lays_80 : decode cX4_lays 80 = .ok (.getfield 34, 3) := by decide +kernel
theorem dX4_lays_83 : decode cX4_lays 83 = .ok (.bipush 40, 2) := by decide +kernel
theorem dX4_lays_85 : decode cX4_lays 85 = .ok (.iload_n 1, 1) := by decide +kernel
theorem dX4_lays_86 : decode cX4_lays 86 = .ok (.imul, 1) := by decide +kernel
theorem dX4_lays_87 : decode cX4_lays 87 = .ok (.iload 4, 2) := by decide +kernel
theorem dX4_lays_89 : decode cX4_lays 89 = .ok (.iadd, 1) := by decide +kernel
theorem dX4_lays_90 : decode cX4_lays 90 = .ok (.laload, 1) := by decide +kernel
theorem dX4_lays_91 : decode cX4_lays 91 = .ok (.l2i, 1) := by decide +kernel
theorem dX4_lays_92 : decode cX4_lays 92 = .ok (.goto 10, 3) := by decide +kernel
theorem dX4_lays_95 : decode cX4_lays 95 = .ok (.aload_n 0, 1) := by decide +kernel
theorem dX4_lays_96 : decode cX4_lays 96 = .ok (.iload 4, 2) := by decide +kernel
theorem dX4_lays_98 : decode cX4_lays 98 = .ok (.iconst 1, 1) := by decide +kernel
theorem dX4_lays_99 : decode cX4_lays 99 = .ok (.invokevirtual 64, 3) := by decide +kernel
theorem dX4_lays_102 : decode cX4_lays 102 = .ok (.iastore, 1) := by decide +kernel
theorem dX4_lays_103 : decode cX4_lays 103 = .ok (.iload_n 3, 1) := by decide +kernel
theorem dX4_lays_104 : decode cX4_lays 104 = .ok (.iload 5, 2) := by decide +kernel
theorem dX4_lays_106 : decode cX4_lays 106 = .ok (.ifCond .eq 7, 3) := by decide +kernel
theorem dX4_lays_109 : decode cX4_lays 109 = .ok (.iconst 1, 1) := by decide +kernel
theorem dX4_lays_110 : decode cX4_lays 110 = .ok (.goto 4, 3) := by decide +kernel
theorem dX4_lays_113 : decode cX4_lays 113 = .ok (.iconst 0, 1) := by decide +kernel
theorem dX4_lays_114 : decode cX4_lays 114 = .ok (.iadd, 1) := by decide +kernel
theorem dX4_lays_115 : decode cX4_lays 115 = .ok (.istore_n 3, 1) := by decide +kernel
theorem dX4_lays_116 : decode cX4_lays 116 = .ok (.iinc 4 1, 3) := by decide +kernel
theorem dX4_lays_119 : decode cX4_lays 119 = .ok (.goto (-98), 3) := by decide +kernel
theorem dX4_lays_122 : decode cX4_lays 122 = .ok (.iload_n 3, 1) := by decide +kernel
theorem dX4_lays_123 : decode cX4_lays 123 = .ok (.ireturn, 1) := by decide +kernel
theorem dX4_book_0 : decode cX4_book 0 = .ok (.aload_n 0, 1) := by decide +kernel
theorem dX4_book_1 : decode cX4_book 1 = .ok (.iload_n 1, 1) := by decide +kernel
theorem dX4_book_2 : decode cX4_book 2 = .ok (.invokevirtual 260, 3) := by decide +kernel
theorem dX4_book_5 : decode cX4_book 5 = .ok (.istore_n 2, 1) := by decide +kernel
theorem dX4_book_6 : decode cX4_book 6 = .ok (.iload_n 2, 1) := by decide +kernel
theorem dX4_book_7 : decode cX4_book 7 = .ok (.ifCond .eq 9, 3) := by decide +kernel
theorem dX4_book_10 : decode cX4_book 10 = .ok (.aload_n 0, 1) := by decide +kernel
theorem dX4_book_11 : decode cX4_book 11 = .ok (.iload_n 2, 1) := by decide +kernel
theorem dX4_book_12 : decode cX4_book 12 = .ok (.invokevirtual 56, 3) := by decide +kernel
theorem dX4_book_15 : decode cX4_book 15 = .ok (.ireturn, 1) := by decide +kernel
theorem dX4_book_16 : decode cX4_book 16 = .ok (.aload_n 0, 1) := by decide +kernel
theorem dX4_book_17 : decode cX4_book 17 = .ok (.invokevirtual 139, 3) := by decide +kernel
theorem dX4_book_20 : decode cX4_book 20 = .ok (.iconst 0, 1) := by decide +kernel
theorem dX4_book_21 : decode cX4_book 21 = .ok (.istore_n 3, 1) := by decide +kernel
theorem dX4_book_22 : decode cX4_book 22 = .ok (.iload_n 3, 1) := by decide +kernel
theorem dX4_book_23 : decode cX4_book 23 = .ok (.aload_n 0, 1) := by decide +kernel
theorem dX4_book_24 : decode cX4_book 24 = .ok (.getfield 31, 3) := by decide +kernel
theorem dX4_book_27 : decode cX4_book 27 = .ok (.iload_n 1, 1) := by decide +kernel
theorem dX4_book_28 : decode cX4_book 28 = .ok (.iaload, 1) := by decide +kernel
theorem dX4_book_29 : decode cX4_book 29 = .ok (.if_icmp .ge 38, 3) := by decide +kernel
theorem dX4_book_32 : decode cX4_book 32 = .ok (.aload_n 0, 1) := by decide +kernel
theorem dX4_book_33 : decode cX4_book 33 = .ok (.getfield 34, 3) := by decide +kernel
theorem dX4_book_36 : decode cX4_book 36 = .ok (.bipush 40, 2) := by decide +kernel
theorem dX4_book_38 : decode cX4_book 38 = .ok (.iload_n 1, 1) := by decide +kernel
theorem dX4_book_39 : decode cX4_book 39 = .ok (.imul, 1) := by decide +kernel
theorem dX4_book_40 : decode cX4_book 40 = .ok (.iload_n 3, 1) := by decide +kernel
theorem dX4_book_41 : decode cX4_book 41 = .ok (.iadd, 1) := by decide +kernel
theorem dX4_book_42 : decode cX4_book 42 = .ok (.aload_n 0, 1) := by decide +kernel
theorem dX4_book_43 : decode cX4_book 43 = .ok (.getfield 28, 3) := by decide +kernel
theorem dX4_book_46 : decode cX4_book 46 = .ok (.iload_n 1, 1) := by decide +kernel
theorem dX4_book_47 : decode cX4_book 47 = .ok (.iaload, 1) := by decide +kernel
theorem dX4_book_48 : decode cX4_book 48 = .ok (.aload_n 0, 1) := by decide +kernel
theorem dX4_book_49 : decode cX4_book 49 = .ok (.invokevirtual 115, 3) := by decide +kernel
theorem dX4_book_52 : decode cX4_book 52 = .ok (.i2l, 1) := by decide +kernel
theorem dX4_book_53 : decode cX4_book 53 = .ok (.invokestatic 263, 3) := by decide +kernel
theorem dX4_book_56 : decode cX4_book 56 = .ok (.lastore, 1) := by decide +kernel
theorem dX4_book_57 : decode cX4_book 57 = .ok (.aload_n 0, 1) := by decide +kernel
theorem dX4_book_58 : decode cX4_book 58 = .ok (.invokevirtual 123, 3) := by decide +kernel
theorem dX4_book_61 : decode cX4_book 61 = .ok (.iinc 3 1, 3) := by decide +kernel
theorem dX4_book_64 : decode cX4_book 64 = .ok (.goto (-42), 3) := by decide +kernel
theorem dX4_book_67 : decode cX4_book 67 = .ok (.aload_n 0, 1) := by decide +kernel
theorem dX4_book_68 : decode cX4_book 68 = .ok (.aload_n 0, 1) := by decide +kernel
theorem dX4_book_69 : decode cX4_book 69 = .ok (.getfield 31, 3) := by decide +kernel
theorem dX4_book_72 : decode cX4_book 72 = .ok (.iload_n 1, 1) := by decide +kernel
theorem dX4_book_73 : decode cX4_book 73 = .ok (.iaload, 1) := by decide +kernel
theorem dX4_book_74 : decode cX4_book 74 = .ok (.invokevirtual 142, 3) := by decide +kernel
theorem dX4_book_77 : decode cX4_book 77 = .ok (.ireturn, 1) := by decide +kernel
theorem dX4_isBook_0 : decode cX4_isBook 0 = .ok (.iconst 0, 1) := by decide +kernel
theorem dX4_isBook_1 : decode cX4_isBook 1 = .ok (.istore_n 2, 1) := by decide +kernel
theorem dX4_isBook_2 : decode cX4_isBook 2 = .ok (.iload_n 2, 1) := by decide +kernel
theorem dX4_isBook_3 : decode cX4_isBook 3 = .ok (.aload_n 0, 1) := by decide +kernel
theorem dX4_isBook_4 : decode cX4_isBook 4 = .ok (.getfield 31, 3) := by decide +kernel
theorem dX4_isBook_7 : decode cX4_isBook 7 = .ok (.iload_n 1, 1) := by decide +kernel
theorem dX4_isBook_8 : decode cX4_isBook 8 = .ok (.iaload, 1) := by decide +kernel
theorem dX4_isBook_9 : decode cX4_isBook 9 = .ok (.if_icmp .ge 35, 3) := by decide +kernel
theorem dX4_isBook_12 : decode cX4_isBook 12 = .ok (.aload_n 0, 1) := by decide +kernel
theorem dX4_isBook_13 : decode cX4_isBook 13 = .ok (.getfield 34, 3) := by decide +kernel
theorem dX4_isBook_16 : decode cX4_isBook 16 = .ok (.bipush 40, 2) := by decide +kernel
theorem dX4_isBook_18 : decode cX4_isBook 18 = .ok (.iload_n 1, 1) := by decide +kernel
theorem dX4_isBook_19 : decode cX4_isBook 19 = .ok (.imul, 1) := by decide +kernel
theorem dX4_isBook_20 : decode cX4_isBook 20 = .ok (.iload_n 2, 1) := by decide +kernel
theorem dX4_isBook_21 : decode cX4_isBook 21 = .ok (.iadd, 1) := by decide +kernel
theorem dX4_isBook_22 : decode cX4_isBook 22 = .ok (.laload, 1) := by decide +kernel
theorem dX4_isBook_23 : decode cX4_isBook 23 = .ok (.aload_n 0, 1) := by decide +kernel
theorem dX4_isBook_24 : decode cX4_isBook 24 = .ok (.invokevirtual 115, 3) := by decide +kernel
theorem dX4_isBook_27 : decode cX4_isBook 27 = .ok (.i2l, 1) := by decide +kernel
theorem dX4_isBook_28 : decode cX4_isBook 28 = .ok (.lcmp, 1) := by decide +kernel
theorem dX4_isBook_29 : decode cX4_isBook 29 = .ok (.ifCond .eq 5, 3) := by decide +kernel
theorem dX4_isBook_32 : decode cX4_isBook 32 = .ok (.iconst 0, 1) := by decide +kernel
theorem dX4_isBook_33 : decode cX4_isBook 33 = .ok (.ireturn, 1) := by decide +kernel
theorem dX4_isBook_34 : decode cX4_isBook 34 = .ok (.aload_n 0, 1) := by decide +kernel
theorem dX4_isBook_35 : decode cX4_isBook 35 = .ok (.invokevirtual 123, 3) := by decide +kernel
theorem dX4_isBook_38 : decode cX4_isBook 38 = .ok (.iinc 2 1, 3) := by decide +kernel
theorem dX4_isBook_41 : decode cX4_isBook 41 = .ok (.goto (-39), 3) := by decide +kernel
theorem dX4_isBook_44 : decode cX4_isBook 44 = .ok (.iconst 1, 1) := by decide +kernel
theorem dX4_isBook_45 : decode cX4_isBook 45 = .ok (.ireturn, 1) := by decide +kernel
theorem dX4_read_0 : decode cX4_read 0 = .ok (.aload_n 0, 1) := by decide +kernel
theorem dX4_read_1 : decode cX4_read 1 = .ok (.iload_n 1, 1) := by decide +kernel
theorem dX4_read_2 : decode cX4_read 2 = .ok (.invokevirtual 260, 3) := by decide +kernel
theorem dX4_read_5 : decode cX4_read 5 = .ok (.istore_n 3, 1) := by decide +kernel
theorem dX4_read_6 : decode cX4_read 6 = .ok (.iload_n 3, 1) := by decide +kernel
theorem dX4_read_7 : decode cX4_read 7 = .ok (.ifCond .eq 9, 3) := by decide +kernel
theorem dX4_read_10 : decode cX4_read 10 = .ok (.aload_n 0, 1) := by decide +kernel
theorem dX4_read_11 : decode cX4_read 11 = .ok (.iload_n 3, 1) := by decide +kernel
theorem dX4_read_12 : decode cX4_read 12 = .ok (.invokevirtual 56, 3) := by decide +kernel
theorem dX4_read_15 : decode cX4_read 15 = .ok (.ireturn, 1) := by decide +kernel
theorem dX4_read_16 : decode cX4_read 16 = .ok (.aload_n 0, 1) := by decide +kernel
theorem dX4_read_17 : decode cX4_read 17 = .ok (.iload_n 2, 1) := by decide +kernel
theorem dX4_read_18 : decode cX4_read 18 = .ok (.invokevirtual 67, 3) := by decide +kernel
theorem dX4_read_21 : decode cX4_read 21 = .ok (.ifCond .ne 10, 3) := by decide +kernel
theorem dX4_read_24 : decode cX4_read 24 = .ok (.aload_n 0, 1) := by decide +kernel
theorem dX4_read_25 : decode cX4_read 25 = .ok (.ldc 41, 2) := by decide +kernel
theorem dX4_read_27 : decode cX4_read 27 = .ok (.invokevirtual 56, 3) := by decide +kernel
theorem dX4_read_30 : decode cX4_read 30 = .ok (.ireturn, 1) := by decide +kernel
theorem dX4_read_31 : decode cX4_read 31 = .ok (.aload_n 0, 1) := by decide +kernel
theorem dX4_read_32 : decode cX4_read 32 = .ok (.invokevirtual 139, 3) := by decide +kernel
theorem dX4_read_35 : decode cX4_read 35 = .ok (.iconst 0, 1) := by decide +kernel
theorem dX4_read_36 : decode cX4_read 36 = .ok (.istore 4, 2) := by decide +kernel
theorem dX4_read_38 : decode cX4_read 38 = .ok (.iconst 0, 1) := by decide +kernel
theorem dX4_read_39 : decode cX4_read 39 = .ok (.istore 5, 2) := by decide +kernel
theorem dX4_read_41 : decode cX4_read 41 = .ok (.iload 5, 2) := by decide +kernel
theorem dX4_read_43 : decode cX4_read 43 = .ok (.sipush 600, 3) := by decide +kernel
theorem dX4_read_46 : decode cX4_read 46 = .ok (.if_icmp .ge 61, 3) := by decide +kernel
theorem dX4_read_49 : decode cX4_read 49 = .ok (.aload_n 0, 1) := by decide +kernel
theorem dX4_read_50 : decode cX4_read 50 = .ok (.getfield 7, 3) := by decide +kernel
theorem dX4_read_53 : decode cX4_read 53 = .ok (.iload_n 2, 1) := by decide +kernel
theorem dX4_read_54 : decode cX4_read 54 = .ok (.iconst 0, 1) := by decide +kernel
theorem dX4_read_55 : decode cX4_read 55 = .ok (.invokestatic 48, 3) := by decide +kernel
theorem dX4_read_58 : decode cX4_read 58 = .ok (.iload 5, 2) := by decide +kernel
theorem dX4_read_60 : decode cX4_read 60 = .ok (.bipush 100, 2) := by decide +kernel
theorem dX4_read_62 : decode cX4_read 62 = .ok (.idiv, 1) := by decide +kernel
theorem dX4_read_63 : decode cX4_read 63 = .ok (.iastore, 1) := by decide +kernel
theorem dX4_read_64 : decode cX4_read 64 = .ok (.aload_n 0, 1) := by decide +kernel
theorem dX4_read_65 : decode cX4_read 65 = .ok (.getfield 7, 3) := by decide +kernel
theorem dX4_read_68 : decode cX4_read 68 = .ok (.iload_n 2, 1) := by decide +kernel
theorem dX4_read_69 : decode cX4_read 69 = .ok (.iconst 2, 1) := by decide +kernel
theorem dX4_read_70 : decode cX4_read 70 = .ok (.invokestatic 48, 3) := by decide +kernel
theorem dX4_read_73 : decode cX4_read 73 = .ok (.iload 5, 2) := by decide +kernel
theorem dX4_read_75 : decode cX4_read 75 = .ok (.bipush 100, 2) := by decide +kernel
theorem dX4_read_77 : decode cX4_read 77 = .ok (.irem, 1) := by decide +kernel
theorem dX4_read_78 : decode cX4_read 78 = .ok (.iastore, 1) := by decide +kernel
theorem dX4_read_79 : decode cX4_read 79 = .ok (.aload_n 0, 1) := by decide +kernel
theorem dX4_read_80 : decode cX4_read 80 = .ok (.iload 4, 2) := by decide +kernel
theorem dX4_read_82 : decode cX4_read 82 = .ok (.aload_n 0, 1) := by decide +kernel
theorem dX4_read_83 : decode cX4_read 83 = .ok (.iload_n 1, 1) := by decide +kernel
theorem dX4_read_84 : decode cX4_read 84 = .ok (.invokevirtual 267, 3) := by decide +kernel
theorem dX4_read_87 : decode cX4_read 87 = .ok (.ifCond .eq 7, 3) := by decide +kernel
theorem dX4_read_90 : decode cX4_read 90 = .ok (.iconst 1, 1) := by decide +kernel
theorem dX4_read_91 : decode cX4_read 91 = .ok (.goto 4, 3) := by decide +kernel
theorem dX4_read_94 : decode cX4_read 94 = .ok (.iconst 0, 1) := by decide +kernel
theorem dX4_read_95 : decode cX4_read 95 = .ok (.iadd, 1) := by decide +kernel
theorem dX4_read_96 : decode cX4_read 96 = .ok (.invokevirtual 142, 3) := by decide +kernel
theorem dX4_read_99 : decode cX4_read 99 = .ok (.istore 4, 2) := by decide +kernel
theorem dX4_read_101 : decode cX4_read 101 = .ok (.iinc 5 1, 3) := by decide +kernel
theorem dX4_read_104 : decode cX4_read 104 = .ok (.goto (-63), 3) := by decide +kernel
theorem dX4_read_107 : decode cX4_read 107 = .ok (.iload 4, 2) := by decide +kernel
theorem dX4_read_109 : decode cX4_read 109 = .ok (.ireturn, 1) := by decide +kernel
theorem dX4_image_0 : decode cX4_image 0 = .ok (.iconst 0, 1) := by decide +kernel
theorem dX4_image_1 : decode cX4_image 1 = .ok (.istore_n 1, 1) := by decide +kernel
theorem dX4_image_2 : decode cX4_image 2 = .ok (.iload_n 1, 1) := by decide +kernel
theorem dX4_image_3 : decode cX4_image 3 = .ok (.bipush 37, 2) := by decide +kernel
theorem dX4_image_5 : decode cX4_image 5 = .ok (.if_icmp .ge 21, 3) := by decide +kernel
theorem dX4_image_8 : decode cX4_image 8 = .ok (.aload_n 0, 1) := by decide +kernel
theorem dX4_image_9 : decode cX4_image 9 = .ok (.getfield 13, 3) := by decide +kernel
theorem dX4_image_12 : decode cX4_image 12 = .ok (.iload_n 1, 1) := by decide +kernel
theorem dX4_image_13 : decode cX4_image 13 = .ok (.aload_n 0, 1) := by decide +kernel
theorem dX4_image_14 : decode cX4_image 14 = .ok (.getfield 7, 3) := by decide +kernel
theorem dX4_image_17 : decode cX4_image 17 = .ok (.iload_n 1, 1) := by decide +kernel
theorem dX4_image_18 : decode cX4_image 18 = .ok (.iaload, 1) := by decide +kernel
theorem dX4_image_19 : decode cX4_image 19 = .ok (.iastore, 1) := by decide +kernel
theorem dX4_image_20 : decode cX4_image 20 = .ok (.iinc 1 1, 3) := by decide +kernel
theorem dX4_image_23 : decode cX4_image 23 = .ok (.goto (-21), 3) := by decide +kernel
theorem dX4_image_26 : decode cX4_image 26 = .ok (.aload_n 0, 1) := by decide +kernel
theorem dX4_image_27 : decode cX4_image 27 = .ok (.iconst 1, 1) := by decide +kernel
theorem dX4_image_28 : decode cX4_image 28 = .ok (.putfield 270, 3) := by decide +kernel
theorem dX4_image_31 : decode cX4_image 31 = .ok (.iconst 1, 1) := by decide +kernel
theorem dX4_image_32 : decode cX4_image 32 = .ok (.ireturn, 1) := by decide +kernel
theorem dX4_undo_0 : decode cX4_undo 0 = .ok (.aload_n 0, 1) := by decide +kernel
theorem dX4_undo_1 : decode cX4_undo 1 = .ok (.getfield 270, 3) := by decide +kernel
theorem dX4_undo_4 : decode cX4_undo 4 = .ok (.ifCond .ne 10, 3) := by decide +kernel
theorem dX4_undo_7 : decode cX4_undo 7 = .ok (.aload_n 0, 1) := by decide +kernel
theorem dX4_undo_8 : decode cX4_undo 8 = .ok (.ldc 108, 2) := by decide +kernel
theorem dX4_undo_10 : decode cX4_undo 10 = .ok (.invokevirtual 56, 3) := by decide +kernel
theorem dX4_undo_13 : decode cX4_undo 13 = .ok (.ireturn, 1) := by decide +kernel
theorem dX4_undo_14 : decode cX4_undo 14 = .ok (.iconst 0, 1) := by decide +kernel
theorem dX4_undo_15 : decode cX4_undo 15 = .ok (.istore_n 1, 1) := by decide +kernel
theorem dX4_undo_16 : decode cX4_undo 16 = .ok (.iload_n 1, 1) := by decide +kernel
theorem dX4_undo_17 : decode cX4_undo 17 = .ok (.bipush 37, 2) := by decide +kernel
theorem dX4_undo_19 : decode cX4_undo 19 = .ok (.if_icmp .ge 21, 3) := by decide +kernel
theorem dX4_undo_22 : decode cX4_undo 22 = .ok (.aload_n 0, 1) := by decide +kernel
theorem dX4_undo_23 : decode cX4_undo 23 = .ok (.getfield 7, 3) := by decide +kernel
theorem dX4_undo_26 : decode cX4_undo 26 = .ok (.iload_n 1, 1) := by decide +kernel
theorem dX4_undo_27 : decode cX4_undo 27 = .ok (.aload_n 0, 1) := by decide +kernel
theorem dX4_undo_28 : decode cX4_undo 28 = .ok (.getfield 13, 3) := by decide +kernel
theorem dX4_undo_31 : decode cX4_undo 31 = .ok (.iload_n 1, 1) := by decide +kernel
theorem dX4_undo_32 : decode cX4_undo 32 = .ok (.iaload, 1) := by decide +kernel
theorem dX4_undo_33 : decode cX4_undo 33 = .ok (.iastore, 1) := by decide +kernel
theorem dX4_undo_34 : decode cX4_undo 34 = .ok (.iinc 1 1, 3) := by decide +kernel
theorem dX4_undo_37 : decode cX4_undo 37 = .ok (.goto (-21), 3) := by decide +kernel
theorem dX4_undo_40 : decode cX4_undo 40 = .ok (.aload_n 0, 1) := by decide +kernel
theorem dX4_undo_41 : decode cX4_undo 41 = .ok (.getfield 7, 3) := by decide +kernel
theorem dX4_undo_44 : decode cX4_undo 44 = .ok (.iconst 0, 1) := by decide +kernel
theorem dX4_undo_45 : decode cX4_undo 45 = .ok (.iaload, 1) := by decide +kernel
theorem dX4_undo_46 : decode cX4_undo 46 = .ok (.ireturn, 1) := by decide +kernel
theorem dX4_tear_0 : decode cX4_tear 0 = .ok (.aload_n 0, 1) := by decide +kernel
theorem dX4_tear_1 : decode cX4_tear 1 = .ok (.getfield 270, 3) := by decide +kernel
theorem dX4_tear_4 : decode cX4_tear 4 = .ok (.ifCond .eq 7, 3) := by decide +kernel
theorem dX4_tear_7 : decode cX4_tear 7 = .ok (.iconst 1, 1) := by decide +kernel
theorem dX4_tear_8 : decode cX4_tear 8 = .ok (.goto 4, 3) := by decide +kernel
theorem dX4_tear_11 : decode cX4_tear 11 = .ok (.iconst 0, 1) := by decide +kernel
theorem dX4_tear_12 : decode cX4_tear 12 = .ok (.istore_n 1, 1) := by decide +kernel
theorem dX4_tear_13 : decode cX4_tear 13 = .ok (.aload_n 0, 1) := by decide +kernel
theorem dX4_tear_14 : decode cX4_tear 14 = .ok (.iconst 0, 1) := by decide +kernel
theorem dX4_tear_15 : decode cX4_tear 15 = .ok (.putfield 270, 3) := by decide +kernel
theorem dX4_tear_18 : decode cX4_tear 18 = .ok (.iload_n 1, 1) := by decide +kernel
theorem dX4_tear_19 : decode cX4_tear 19 = .ok (.ireturn, 1) := by decide +kernel
theorem dX4_count_0 : decode cX4_count 0 = .ok (.iload_n 1, 1) := by decide +kernel
theorem dX4_count_1 : decode cX4_count 1 = .ok (.tableswitch 65 0 3 #[31, 38, 43, 51], 31) := by decide +kernel
theorem dX4_count_32 : decode cX4_count 32 = .ok (.aload_n 0, 1) := by decide +kernel
theorem dX4_count_33 : decode cX4_count 33 = .ok (.getfield 7, 3) := by decide +kernel
theorem dX4_count_36 : decode cX4_count 36 = .ok (.iconst 0, 1) := by decide +kernel
theorem dX4_count_37 : decode cX4_count 37 = .ok (.iaload, 1) := by decide +kernel
theorem dX4_count_38 : decode cX4_count 38 = .ok (.ireturn, 1) := by decide +kernel
theorem dX4_count_39 : decode cX4_count 39 = .ok (.aload_n 0, 1) := by decide +kernel
theorem dX4_count_40 : decode cX4_count 40 = .ok (.getfield 157, 3) := by decide +kernel
theorem dX4_count_43 : decode cX4_count 43 = .ok (.ireturn, 1) := by decide +kernel
theorem dX4_count_44 : decode cX4_count 44 = .ok (.aload_n 0, 1) := by decide +kernel
theorem dX4_count_45 : decode cX4_count 45 = .ok (.invokevirtual 133, 3) := by decide +kernel
theorem dX4_count_48 : decode cX4_count 48 = .ok (.invokestatic 146, 3) := by decide +kernel
theorem dX4_count_51 : decode cX4_count 51 = .ok (.ireturn, 1) := by decide +kernel
theorem dX4_count_52 : decode cX4_count 52 = .ok (.aload_n 0, 1) := by decide +kernel
theorem dX4_count_53 : decode cX4_count 53 = .ok (.getfield 7, 3) := by decide +kernel
theorem dX4_count_56 : decode cX4_count 56 = .ok (.iconst 3, 1) := by decide +kernel
theorem dX4_count_57 : decode cX4_count 57 = .ok (.iaload, 1) := by decide +kernel
theorem dX4_count_58 : decode cX4_count 58 = .ok (.aload_n 0, 1) := by decide +kernel
theorem dX4_count_59 : decode cX4_count 59 = .ok (.getfield 7, 3) := by decide +kernel
theorem dX4_count_62 : decode cX4_count 62 = .ok (.iconst 4, 1) := by decide +kernel
theorem dX4_count_63 : decode cX4_count 63 = .ok (.iaload, 1) := by decide +kernel
theorem dX4_count_64 : decode cX4_count 64 = .ok (.iadd, 1) := by decide +kernel
theorem dX4_count_65 : decode cX4_count 65 = .ok (.ireturn, 1) := by decide +kernel
theorem dX4_count_66 : decode cX4_count 66 = .ok (.aload_n 0, 1) := by decide +kernel
theorem dX4_count_67 : decode cX4_count 67 = .ok (.ldc 41, 2) := by decide +kernel
theorem dX4_count_69 : decode cX4_count 69 = .ok (.invokevirtual 56, 3) := by decide +kernel
theorem dX4_count_72 : decode cX4_count 72 = .ok (.ireturn, 1) := by decide +kernel
theorem dX4_status_0 : decode cX4_status 0 = .ok (.iload_n 1, 1) := by decide +kernel
theorem dX4_status_1 : decode cX4_status 1 = .ok (.i2l, 1) := by decide +kernel
theorem dX4_status_2 : decode cX4_status 2 = .ok (.ldc2_w 78, 3) := by decide +kernel
theorem dX4_status_5 : decode cX4_status 5 = .ok (.ldc2_w 273, 3) := by decide +kernel
theorem dX4_status_8 : decode cX4_status 8 = .ok (.invokestatic 42, 3) := by decide +kernel
theorem dX4_status_11 : decode cX4_status 11 = .ok (.ifCond .ne 10, 3) := by decide +kernel
theorem dX4_status_14 : decode cX4_status 14 = .ok (.aload_n 0, 1) := by decide +kernel
theorem dX4_status_15 : decode cX4_status 15 = .ok (.ldc 41, 2) := by decide +kernel
theorem dX4_status_17 : decode cX4_status 17 = .ok (.invokevirtual 56, 3) := by decide +kernel
theorem dX4_status_20 : decode cX4_status 20 = .ok (.ireturn, 1) := by decide +kernel
theorem dX4_status_21 : decode cX4_status 21 = .ok (.iconst 0, 1) := by decide +kernel
theorem dX4_status_22 : decode cX4_status 22 = .ok (.istore_n 2, 1) := by decide +kernel
theorem dX4_status_23 : decode cX4_status 23 = .ok (.iconst 0, 1) := by decide +kernel
theorem dX4_status_24 : decode cX4_status 24 = .ok (.istore_n 3, 1) := by decide +kernel
theorem dX4_status_25 : decode cX4_status 25 = .ok (.iload_n 3, 1) := by decide +kernel
theorem dX4_status_26 : decode cX4_status 26 = .ok (.bipush 7, 2) := by decide +kernel
theorem dX4_status_28 : decode cX4_status 28 = .ok (.if_icmp .ge 31, 3) := by decide +kernel
theorem dX4_status_31 : decode cX4_status 31 = .ok (.iload_n 2, 1) := by decide +kernel
theorem dX4_status_32 : decode cX4_status 32 = .ok (.iload_n 1, 1) := by decide +kernel
theorem dX4_status_33 : decode cX4_status 33 = .ok (.ifCond .lt 8, 3) := by decide +kernel
theorem dX4_status_36 : decode cX4_status 36 = .ok (.iload_n 3, 1) := by decide +kernel
theorem dX4_status_37 : decode cX4_status 37 = .ok (.iload_n 1, 1) := by decide +kernel
theorem dX4_status_38 : decode cX4_status 38 = .ok (.if_icmp .ne 12, 3) := by decide +kernel
theorem dX4_status_41 : decode cX4_status 41 = .ok (.aload_n 0, 1) := by decide +kernel
theorem dX4_status_42 : decode cX4_status 42 = .ok (.getfield 22, 3) := by decide +kernel
theorem dX4_status_45 : decode cX4_status 45 = .ok (.iload_n 3, 1) := by decide +kernel
theorem dX4_status_46 : decode cX4_status 46 = .ok (.iaload, 1) := by decide +kernel
theorem dX4_status_47 : decode cX4_status 47 = .ok (.goto 4, 3) := by decide +kernel
theorem dX4_status_50 : decode cX4_status 50 = .ok (.iconst 0, 1) := by decide +kernel
theorem dX4_status_51 : decode cX4_status 51 = .ok (.iadd, 1) := by decide +kernel
theorem dX4_status_52 : decode cX4_status 52 = .ok (.istore_n 2, 1) := by decide +kernel
theorem dX4_status_53 : decode cX4_status 53 = .ok (.iinc 3 1, 3) := by decide +kernel
theorem dX4_status_56 : decode cX4_status 56 = .ok (.goto (-31), 3) := by decide +kernel
theorem dX4_status_59 : decode cX4_status 59 = .ok (.iload_n 2, 1) := by decide +kernel
theorem dX4_status_60 : decode cX4_status 60 = .ok (.ireturn, 1) := by decide +kernel
