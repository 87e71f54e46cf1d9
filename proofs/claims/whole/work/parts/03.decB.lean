theorem dX12_init_0 : decode cX12_init 0 = .ok (.aload_n 0, 1) := by decide +kernel
theorem dX12_init_1 : decode cX12_init 1 = .ok (.invokespecial 1, 3) := by decide +kernel
theorem dX12_init_4 : decode cX12_init 4 = .ok (.aload_n 0, 1) := by decide +kernel
theorem dX12_init_5 : decode cX12_init 5 = .ok (.bipush 73, 2) := by decide +kernel
theorem dX12_init_7 : decode cX12_init 7 = .ok (.newarray .int, 2) := by decide +kernel
theorem dX12_init_9 : decode cX12_init 9 = .ok (.putfield 7, 3) := by decide +kernel
theorem dX12_init_12 : decode cX12_init 12 = .ok (.aload_n 0, 1) := by decide +kernel
theorem dX12_init_13 : decode cX12_init 13 = .ok (.bipush 73, 2) := by decide +kernel
theorem dX12_init_15 : decode cX12_init 15 = .ok (.newarray .int, 2) := by decide +kernel
theorem dX12_init_17 : decode cX12_init 17 = .ok (.putfield 13, 3) := by decide +kernel
theorem dX12_init_20 : decode cX12_init 20 = .ok (.aload_n 0, 1) := by decide +kernel
theorem dX12_init_21 : decode cX12_init 21 = .ok (.bipush 73, 2) := by decide +kernel
theorem dX12_init_23 : decode cX12_init 23 = .ok (.newarray .int, 2) := by decide +kernel
theorem dX12_init_25 : decode cX12_init 25 = .ok (.putfield 16, 3) := by decide +kernel
theorem dX12_init_28 : decode cX12_init 28 = .ok (.aload_n 0, 1) := by decide +kernel
theorem dX12_init_29 : decode cX12_init 29 = .ok (.bipush 73, 2) := by decide +kernel
theorem dX12_init_31 : decode cX12_init 31 = .ok (.newarray .int, 2) := by decide +kernel
theorem dX12_init_33 : decode cX12_init 33 = .ok (.putfield 19, 3) := by decide +kernel
theorem dX12_init_36 : decode cX12_init 36 = .ok (.aload_n 0, 1) := by decide +kernel
theorem dX12_init_37 : decode cX12_init 37 = .ok (.bipush 7, 2) := by decide +kernel
theorem dX12_init_39 : decode cX12_init 39 = .ok (.newarray .int, 2) := by decide +kernel
theorem dX12_init_41 : decode cX12_init 41 = .ok (.putfield 22, 3) := by decide +kernel
theorem dX12_init_44 : decode cX12_init 44 = .ok (.aload_n 0, 1) := by decide +kernel
theorem dX12_init_45 : decode cX12_init 45 = .ok (.bipush 120, 2) := by decide +kernel
theorem dX12_init_47 : decode cX12_init 47 = .ok (.newarray .int, 2) := by decide +kernel
theorem dX12_init_49 : decode cX12_init 49 = .ok (.putfield 25, 3) := by decide +kernel
theorem dX12_init_52 : decode cX12_init 52 = .ok (.aload_n 0, 1) := by decide +kernel
theorem dX12_init_53 : decode cX12_init 53 = .ok (.iconst 4, 1) := by decide +kernel
theorem dX12_init_54 : decode cX12_init 54 = .ok (.newarray .int, 2) := by decide +kernel
theorem dX12_init_56 : decode cX12_init 56 = .ok (.putfield 28, 3) := by decide +kernel
theorem dX12_init_59 : decode cX12_init 59 = .ok (.aload_n 0, 1) := by decide +kernel
theorem dX12_init_60 : decode cX12_init 60 = .ok (.iconst 4, 1) := by decide +kernel
theorem dX12_init_61 : decode cX12_init 61 = .ok (.newarray .int, 2) := by decide +kernel
theorem dX12_init_63 : decode cX12_init 63 = .ok (.putfield 31, 3) := by decide +kernel
theorem dX12_init_66 : decode cX12_init 66 = .ok (.aload_n 0, 1) := by decide +kernel
theorem dX12_init_67 : decode cX12_init 67 = .ok (.sipush 160, 3) := by decide +kernel
theorem dX12_init_70 : decode cX12_init 70 = .ok (.newarray .long, 2) := by decide +kernel
theorem dX12_init_72 : decode cX12_init 72 = .ok (.putfield 34, 3) := by decide +kernel
theorem dX12_init_75 : decode cX12_init 75 = .ok (.aload_n 0, 1) := by decide +kernel
theorem dX12_init_76 : decode cX12_init 76 = .ok (.bipush 40, 2) := by decide +kernel
theorem dX12_init_78 : decode cX12_init 78 = .ok (.newarray .long, 2) := by decide +kernel
theorem dX12_init_80 : decode cX12_init 80 = .ok (.putfield 38, 3) := by decide +kernel
theorem dX12_init_83 : decode cX12_init 83 = .ok (.aload_n 0, 1) := by decide +kernel
theorem dX12_init_84 : decode cX12_init 84 = .ok (.getfield 7, 3) := by decide +kernel
theorem dX12_init_87 : decode cX12_init 87 = .ok (.iconst 3, 1) := by decide +kernel
theorem dX12_init_88 : decode cX12_init 88 = .ok (.bipush 40, 2) := by decide +kernel
theorem dX12_init_90 : decode cX12_init 90 = .ok (.iastore, 1) := by decide +kernel
theorem dX12_init_91 : decode cX12_init 91 = .ok (.return_, 1) := by decide +kernel
theorem dX12_in_0 : decode cX12_in 0 = .ok (.lload_n 0, 1) := by decide +kernel
theorem dX12_in_1 : decode cX12_in 1 = .ok (.lload_n 2, 1) := by decide +kernel
theorem dX12_in_2 : decode cX12_in 2 = .ok (.lcmp, 1) := by decide +kernel
theorem dX12_in_3 : decode cX12_in 3 = .ok (.ifCond .lt 14, 3) := by decide +kernel
theorem dX12_in_6 : decode cX12_in 6 = .ok (.lload_n 0, 1) := by decide +kernel
theorem dX12_in_7 : decode cX12_in 7 = .ok (.lload 4, 2) := by decide +kernel
theorem dX12_in_9 : decode cX12_in 9 = .ok (.lcmp, 1) := by decide +kernel
theorem dX12_in_10 : decode cX12_in 10 = .ok (.ifCond .gt 7, 3) := by decide +kernel
theorem dX12_in_13 : decode cX12_in 13 = .ok (.iconst 1, 1) := by decide +kernel
theorem dX12_in_14 : decode cX12_in 14 = .ok (.goto 4, 3) := by decide +kernel
theorem dX12_in_17 : decode cX12_in 17 = .ok (.iconst 0, 1) := by decide +kernel
theorem dX12_in_18 : decode cX12_in 18 = .ok (.ireturn, 1) := by decide +kernel
theorem dX12_finds_0 : decode cX12_finds 0 = .ok (.aload_n 0, 1) := by decide +kernel
theorem dX12_finds_1 : decode cX12_finds 1 = .ok (.getfield 22, 3) := by decide +kernel
theorem dX12_finds_4 : decode cX12_finds 4 = .ok (.ldc 41, 2) := by decide +kernel
theorem dX12_finds_6 : decode cX12_finds 6 = .ok (.iload_n 1, 1) := by decide +kernel
theorem dX12_finds_7 : decode cX12_finds 7 = .ok (.isub, 1) := by decide +kernel
theorem dX12_finds_8 : decode cX12_finds 8 = .ok (.dup2, 1) := by decide +kernel
theorem dX12_finds_9 : decode cX12_finds 9 = .ok (.iaload, 1) := by decide +kernel
theorem dX12_finds_10 : decode cX12_finds 10 = .ok (.iconst 1, 1) := by decide +kernel
theorem dX12_finds_11 : decode cX12_finds 11 = .ok (.iadd, 1) := by decide +kernel
theorem dX12_finds_12 : decode cX12_finds 12 = .ok (.iastore, 1) := by decide +kernel
theorem dX12_finds_13 : decode cX12_finds 13 = .ok (.iload_n 1, 1) := by decide +kernel
theorem dX12_finds_14 : decode cX12_finds 14 = .ok (.ireturn, 1) := by decide +kernel
theorem dX12_saves_0 : decode cX12_saves 0 = .ok (.iconst 0, 1) := by decide +kernel
theorem dX12_saves_1 : decode cX12_saves 1 = .ok (.istore_n 1, 1) := by decide +kernel
theorem dX12_saves_2 : decode cX12_saves 2 = .ok (.iload_n 1, 1) := by decide +kernel
theorem dX12_saves_3 : decode cX12_saves 3 = .ok (.bipush 73, 2) := by decide +kernel
theorem dX12_saves_5 : decode cX12_saves 5 = .ok (.if_icmp .ge 21, 3) := by decide +kernel
theorem dX12_saves_8 : decode cX12_saves 8 = .ok (.aload_n 0, 1) := by decide +kernel
theorem dX12_saves_9 : decode cX12_saves 9 = .ok (.getfield 16, 3) := by decide +kernel
theorem dX12_saves_12 : decode cX12_saves 12 = .ok (.iload_n 1, 1) := by decide +kernel
theorem dX12_saves_13 : decode cX12_saves 13 = .ok (.aload_n 0, 1) := by decide +kernel
theorem dX12_saves_14 : decode cX12_saves 14 = .ok (.getfield 7, 3) := by decide +kernel
theorem dX12_saves_17 : decode cX12_saves 17 = .ok (.iload_n 1, 1) := by decide +kernel
theorem dX12_saves_18 : decode cX12_saves 18 = .ok (.iaload, 1) := by decide +kernel
theorem dX12_saves_19 : decode cX12_saves 19 = .ok (.iastore, 1) := by decide +kernel
theorem dX12_saves_20 : decode cX12_saves 20 = .ok (.iinc 1 1, 3) := by decide +kernel
theorem dX12_saves_23 : decode cX12_saves 23 = .ok (.goto (-21), 3) := by decide +kernel
theorem dX12_saves_26 : decode cX12_saves 26 = .ok (.return_, 1) := by decide +kernel
theorem dX12_putsBack_0 : decode cX12_putsBack 0 = .ok (.iconst 0, 1) := by decide +kernel
theorem dX12_putsBack_1 : decode cX12_putsBack 1 = .ok (.istore_n 1, 1) := by decide +kernel
theorem dX12_putsBack_2 : decode cX12_putsBack 2 = .ok (.iload_n 1, 1) := by decide +kernel
theorem dX12_putsBack_3 : decode cX12_putsBack 3 = .ok (.bipush 73, 2) := by decide +kernel
theorem dX12_putsBack_5 : decode cX12_putsBack 5 = .ok (.if_icmp .ge 21, 3) := by decide +kernel
theorem dX12_putsBack_8 : decode cX12_putsBack 8 = .ok (.aload_n 0, 1) := by decide +kernel
theorem dX12_putsBack_9 : decode cX12_putsBack 9 = .ok (.getfield 7, 3) := by decide +kernel
theorem dX12_putsBack_12 : decode cX12_putsBack 12 = .ok (.iload_n 1, 1) := by decide +kernel
theorem dX12_putsBack_13 : decode cX12_putsBack 13 = .ok (.aload_n 0, 1) := by decide +kernel
theorem dX12_putsBack_14 : decode cX12_putsBack 14 = .ok (.getfield 16, 3) := by decide +kernel
theorem dX12_putsBack_17 : decode cX12_putsBack 17 = .ok (.iload_n 1, 1) := by decide +kernel
theorem dX12_putsBack_18 : decode cX12_putsBack 18 = .ok (.iaload, 1) := by decide +kernel
theorem dX12_putsBack_19 : decode cX12_putsBack 19 = .ok (.iastore, 1) := by decide +kernel
theorem dX12_putsBack_20 : decode cX12_putsBack 20 = .ok (.iinc 1 1, 3) := by decide +kernel
theorem dX12_putsBack_23 : decode cX12_putsBack 23 = .ok (.goto (-21), 3) := by decide +kernel
theorem dX12_putsBack_26 : decode cX12_putsBack 26 = .ok (.return_, 1) := by decide +kernel
theorem dX12_laysAside_0 : decode cX12_laysAside 0 = .ok (.iconst 0, 1) := by decide +kernel
theorem dX12_laysAside_1 : decode cX12_laysAside 1 = .ok (.istore_n 1, 1) := by decide +kernel
theorem dX12_laysAside_2 : decode cX12_laysAside 2 = .ok (.iload_n 1, 1) := by decide +kernel
theorem dX12_laysAside_3 : decode cX12_laysAside 3 = .ok (.bipush 73, 2) := by decide +kernel
theorem dX12_laysAside_5 : decode cX12_laysAside 5 = .ok (.if_icmp .ge 21, 3) := by decide +kernel
theorem dX12_laysAside_8 : decode cX12_laysAside 8 = .ok (.aload_n 0, 1) := by decide +kernel
theorem dX12_laysAside_9 : decode cX12_laysAside 9 = .ok (.getfield 19, 3) := by decide +kernel
theorem dX12_laysAside_12 : decode cX12_laysAside 12 = .ok (.iload_n 1, 1) := by decide +kernel
theorem dX12_laysAside_13 : decode cX12_laysAside 13 = .ok (.aload_n 0, 1) := by decide +kernel
theorem dX12_laysAside_14 : decode cX12_laysAside 14 = .ok (.getfield 7, 3) := by decide +kernel
theorem dX12_laysAside_17 : decode cX12_laysAside 17 = .ok (.iload_n 1, 1) := by decide +kernel
theorem dX12_laysAside_18 : decode cX12_laysAside 18 = .ok (.iaload, 1) := by decide +kernel
theorem dX12_laysAside_19 : decode cX12_laysAside 19 = .ok (.iastore, 1) := by decide +kernel
theorem dX12_laysAside_20 : decode cX12_laysAside 20 = .ok (.iinc 1 1, 3) := by decide +kernel
theorem dX12_laysAside_23 : decode cX12_laysAside 23 = .ok (.goto (-21), 3) := by decide +kernel
theorem dX12_laysAside_26 : decode cX12_laysAside 26 = .ok (.return_, 1) := by decide +kernel
theorem dX12_takesBack_0 : decode cX12_takesBack 0 = .ok (.iconst 0, 1) := by decide +kernel
theorem dX12_takesBack_1 : decode cX12_takesBack 1 = .ok (.istore_n 2, 1) := by decide +kernel
theorem dX12_takesBack_2 : decode cX12_takesBack 2 = .ok (.iload_n 2, 1) := by decide +kernel
theorem dX12_takesBack_3 : decode cX12_takesBack 3 = .ok (.bipush 73, 2) := by decide +kernel
theorem dX12_takesBack_5 : decode cX12_takesBack 5 = .ok (.if_icmp .ge 21, 3) := by decide +kernel
theorem dX12_takesBack_8 : decode cX12_takesBack 8 = .ok (.aload_n 0, 1) := by decide +kernel
theorem dX12_takesBack_9 : decode cX12_takesBack 9 = .ok (.getfield 7, 3) := by decide +kernel
theorem dX12_takesBack_12 : decode cX12_takesBack 12 = .ok (.iload_n 2, 1) := by decide +kernel
theorem dX12_takesBack_13 : decode cX12_takesBack 13 = .ok (.aload_n 0, 1) := by decide +kernel
theorem dX12_takesBack_14 : decode cX12_takesBack 14 = .ok (.getfield 19, 3) := by decide +kernel
theorem dX12_takesBack_17 : decode cX12_takesBack 17 = .ok (.iload_n 2, 1) := by decide +kernel
theorem dX12_takesBack_18 : decode cX12_takesBack 18 = .ok (.iaload, 1) := by decide +kernel
theorem dX12_takesBack_19 : decode cX12_takesBack 19 = .ok (.iastore, 1) := by decide +kernel
theorem dX12_takesBack_20 : decode cX12_takesBack 20 = .ok (.iinc 2 1, 3) := by decide +kernel
theorem dX12_takesBack_23 : decode cX12_takesBack 23 = .ok (.goto (-21), 3) := by decide +kernel
theorem dX12_takesBack_26 : decode cX12_takesBack 26 = .ok (.iload_n 1, 1) := by decide +kernel
theorem dX12_takesBack_27 : decode cX12_takesBack 27 = .ok (.ireturn, 1) := by decide +kernel
theorem dX12_becomes_0 : decode cX12_becomes 0 = .ok (.aload_n 0, 1) := by decide +kernel
theorem dX12_becomes_1 : decode cX12_becomes 1 = .ok (.getfield 7, 3) := by decide +kernel
theorem dX12_becomes_4 : decode cX12_becomes 4 = .ok (.iload_n 1, 1) := by decide +kernel
theorem dX12_becomes_5 : decode cX12_becomes 5 = .ok (.iaload, 1) := by decide +kernel
theorem dX12_becomes_6 : decode cX12_becomes 6 = .ok (.istore_n 3, 1) := by decide +kernel
theorem dX12_becomes_7 : decode cX12_becomes 7 = .ok (.aload_n 0, 1) := by decide +kernel
theorem dX12_becomes_8 : decode cX12_becomes 8 = .ok (.getfield 7, 3) := by decide +kernel
theorem dX12_becomes_11 : decode cX12_becomes 11 = .ok (.iload_n 1, 1) := by decide +kernel
theorem dX12_becomes_12 : decode cX12_becomes 12 = .ok (.iload_n 2, 1) := by decide +kernel
theorem dX12_becomes_13 : decode cX12_becomes 13 = .ok (.iastore, 1) := by decide +kernel
theorem dX12_becomes_14 : decode cX12_becomes 14 = .ok (.iload_n 3, 1) := by decide +kernel
theorem dX12_becomes_15 : decode cX12_becomes 15 = .ok (.ireturn, 1) := by decide +kernel
theorem dX12_spot_0 : decode cX12_spot 0 = .ok (.iconst 5, 1) := by decide +kernel
theorem dX12_spot_1 : decode cX12_spot 1 = .ok (.bipush 7, 2) := by decide +kernel
theorem dX12_spot_3 : decode cX12_spot 3 = .ok (.iload_n 0, 1) := by decide +kernel
theorem dX12_spot_4 : decode cX12_spot 4 = .ok (.imul, 1) := by decide +kernel
theorem dX12_spot_5 : decode cX12_spot 5 = .ok (.iadd, 1) := by decide +kernel
theorem dX12_spot_6 : decode cX12_spot 6 = .ok (.iload_n 1, 1) := by decide +kernel
theorem dX12_spot_7 : decode cX12_spot 7 = .ok (.iadd, 1) := by decide +kernel
theorem dX12_spot_8 : decode cX12_spot 8 = .ok (.ireturn, 1) := by decide +kernel
theorem dX12_its_0 : decode cX12_its 0 = .ok (.aload_n 0, 1) := by decide +kernel
theorem dX12_its_1 : decode cX12_its 1 = .ok (.getfield 7, 3) := by decide +kernel
theorem dX12_its_4 : decode cX12_its 4 = .ok (.iload_n 1, 1) := by decide +kernel
theorem dX12_its_5 : decode cX12_its 5 = .ok (.iload_n 2, 1) := by decide +kernel
theorem dX12_its_6 : decode cX12_its 6 = .ok (.invokestatic 42, 3) := by decide +kernel
theorem dX12_its_9 : decode cX12_its 9 = .ok (.iaload, 1) := by decide +kernel
theorem dX12_its_10 : decode cX12_its 10 = .ok (.ireturn, 1) := by decide +kernel
theorem dX12_sizeOfOne_0 : decode cX12_sizeOfOne 0 = .ok (.aload_n 0, 1) := by decide +kernel
theorem dX12_sizeOfOne_1 : decode cX12_sizeOfOne 1 = .ok (.getfield 7, 3) := by decide +kernel
theorem dX12_sizeOfOne_4 : decode cX12_sizeOfOne 4 = .ok (.bipush 61, 2) := by decide +kernel
theorem dX12_sizeOfOne_6 : decode cX12_sizeOfOne 6 = .ok (.iconst 2, 1) := by decide +kernel
theorem dX12_sizeOfOne_7 : decode cX12_sizeOfOne 7 = .ok (.iload_n 1, 1) := by decide +kernel
theorem dX12_sizeOfOne_8 : decode cX12_sizeOfOne 8 = .ok (.imul, 1) := by decide +kernel
theorem dX12_sizeOfOne_9 : decode cX12_sizeOfOne 9 = .ok (.iadd, 1) := by decide +kernel
theorem dX12_sizeOfOne_10 : decode cX12_sizeOfOne 10 = .ok (.iload_n 2, 1) := by decide +kernel
theorem dX12_sizeOfOne_11 : decode cX12_sizeOfOne 11 = .ok (.iadd, 1) := by decide +kernel
theorem dX12_sizeOfOne_12 : decode cX12_sizeOfOne 12 = .ok (.iaload, 1) := by decide +kernel
theorem dX12_sizeOfOne_13 : decode cX12_sizeOfOne 13 = .ok (.ireturn, 1) := by decide +kernel
theorem dX12_isGarment_0 : decode cX12_isGarment 0 = .ok (.iload_n 1, 1) := by decide +kernel
theorem dX12_isGarment_1 : decode cX12_isGarment 1 = .ok (.i2l, 1) := by decide +kernel
theorem dX12_isGarment_2 : decode cX12_isGarment 2 = .ok (.lconst 0, 1) := by decide +kernel
theorem dX12_isGarment_3 : decode cX12_isGarment 3 = .ok (.aload_n 0, 1) := by decide +kernel
theorem dX12_isGarment_4 : decode cX12_isGarment 4 = .ok (.getfield 7, 3) := by decide +kernel
theorem dX12_isGarment_7 : decode cX12_isGarment 7 = .ok (.iconst 1, 1) := by decide +kernel
theorem dX12_isGarment_8 : decode cX12_isGarment 8 = .ok (.iaload, 1) := by decide +kernel
theorem dX12_isGarment_9 : decode cX12_isGarment 9 = .ok (.iconst 1, 1) := by decide +kernel
theorem dX12_isGarment_10 : decode cX12_isGarment 10 = .ok (.isub, 1) := by decide +kernel
theorem dX12_isGarment_11 : decode cX12_isGarment 11 = .ok (.i2l, 1) := by decide +kernel
theorem dX12_isGarment_12 : decode cX12_isGarment 12 = .ok (.invokestatic 46, 3) := by decide +kernel
theorem dX12_isGarment_15 : decode cX12_isGarment 15 = .ok (.ireturn, 1) := by decide +kernel
theorem dX12_isPerson_0 : decode cX12_isPerson 0 = .ok (.iload_n 1, 1) := by decide +kernel
theorem dX12_isPerson_1 : decode cX12_isPerson 1 = .ok (.i2l, 1) := by decide +kernel
theorem dX12_isPerson_2 : decode cX12_isPerson 2 = .ok (.lconst 0, 1) := by decide +kernel
theorem dX12_isPerson_3 : decode cX12_isPerson 3 = .ok (.aload_n 0, 1) := by decide +kernel
theorem dX12_isPerson_4 : decode cX12_isPerson 4 = .ok (.getfield 7, 3) := by decide +kernel
theorem dX12_isPerson_7 : decode cX12_isPerson 7 = .ok (.iconst 2, 1) := by decide +kernel
theorem dX12_isPerson_8 : decode cX12_isPerson 8 = .ok (.iaload, 1) := by decide +kernel
theorem dX12_isPerson_9 : decode cX12_isPerson 9 = .ok (.iconst 1, 1) := by decide +kernel
theorem dX12_isPerson_10 : decode cX12_isPerson 10 = .ok (.isub, 1) := by decide +kernel
theorem dX12_isPerson_11 : decode cX12_isPerson 11 = .ok (.i2l, 1) := by decide +kernel
theorem dX12_isPerson_12 : decode cX12_isPerson 12 = .ok (.invokestatic 46, 3) := by decide +kernel
theorem dX12_isPerson_15 : decode cX12_isPerson 15 = .ok (.ireturn, 1) := by decide +kernel
theorem dX12_isKind_0 : decode cX12_isKind 0 = .ok (.iload_n 0, 1) := by decide +kernel
theorem dX12_isKind_1 : decode cX12_isKind 1 = .ok (.i2l, 1) := by decide +kernel
theorem dX12_isKind_2 : decode cX12_isKind 2 = .ok (.lconst 0, 1) := by decide +kernel
theorem dX12_isKind_3 : decode cX12_isKind 3 = .ok (.ldc2_w 50, 3) := by decide +kernel
theorem dX12_isKind_6 : decode cX12_isKind 6 = .ok (.invokestatic 46, 3) := by decide +kernel
theorem dX12_isKind_9 : decode cX12_isKind 9 = .ok (.ireturn, 1) := by decide +kernel
theorem dX12_isSize_0 : decode cX12_isSize 0 = .ok (.lload_n 0, 1) := by decide +kernel
theorem dX12_isSize_1 : decode cX12_isSize 1 = .ok (.ldc2_w 52, 3) := by decide +kernel
theorem dX12_isSize_4 : decode cX12_isSize 4 = .ok (.ldc2_w 54, 3) := by decide +kernel
theorem dX12_isSize_7 : decode cX12_isSize 7 = .ok (.invokestatic 46, 3) := by decide +kernel
theorem dX12_isSize_10 : decode cX12_isSize 10 = .ok (.ireturn, 1) := by decide +kernel
theorem dX12_held_0 : decode cX12_held 0 = .ok (.iload_n 0, 1) := by decide +kernel
theorem dX12_held_1 : decode cX12_held 1 = .ok (.iload_n 1, 1) := by decide +kernel
theorem dX12_held_2 : decode cX12_held 2 = .ok (.if_icmp .ge 7, 3) := by decide +kernel
theorem dX12_held_5 : decode cX12_held 5 = .ok (.iload_n 1, 1) := by decide +kernel
theorem dX12_held_6 : decode cX12_held 6 = .ok (.goto 13, 3) := by decide +kernel
theorem dX12_held_9 : decode cX12_held 9 = .ok (.iload_n 0, 1) := by decide +kernel
theorem dX12_held_10 : decode cX12_held 10 = .ok (.iload_n 2, 1) := by decide +kernel
theorem dX12_held_11 : decode cX12_held 11 = .ok (.if_icmp .le 7, 3) := by decide +kernel
theorem dX12_held_14 : decode cX12_held 14 = .ok (.iload_n 2, 1) := by decide +kernel
theorem dX12_held_15 : decode cX12_held 15 = .ok (.goto 4, 3) := by decide +kernel
theorem dX12_held_18 : decode cX12_held 18 = .ok (.iload_n 0, 1) := by decide +kernel
theorem dX12_held_19 : decode cX12_held 19 = .ok (.ireturn, 1) := by decide +kernel
theorem dX12_machine_0 : decode cX12_machine 0 = .ok (.iload_n 1, 1) := by decide +kernel
theorem dX12_machine_1 : decode cX12_machine 1 = .ok (.ifCond .ne 17, 3) := by decide +kernel
theorem dX12_machine_4 : decode cX12_machine 4 = .ok (.iload_n 2, 1) := by decide +kernel
theorem dX12_machine_5 : decode cX12_machine 5 = .ok (.i2l, 1) := by decide +kernel
theorem dX12_machine_6 : decode cX12_machine 6 = .ok (.ldc2_w 56, 3) := by decide +kernel
theorem dX12_machine_9 : decode cX12_machine 9 = .ok (.ldc2_w 58, 3) := by decide +kernel
theorem dX12_machine_12 : decode cX12_machine 12 = .ok (.invokestatic 46, 3) := by decide +kernel
theorem dX12_machine_15 : decode cX12_machine 15 = .ok (.goto 23, 3) := by decide +kernel
theorem dX12_machine_18 : decode cX12_machine 18 = .ok (.iload_n 1, 1) := by decide +kernel
theorem dX12_machine_19 : decode cX12_machine 19 = .ok (.iconst 1, 1) := by decide +kernel
theorem dX12_machine_20 : decode cX12_machine 20 = .ok (.if_icmp .ne 17, 3) := by decide +kernel
theorem dX12_machine_23 : decode cX12_machine 23 = .ok (.iload_n 2, 1) := by decide +kernel
theorem dX12_machine_24 : decode cX12_machine 24 = .ok (.i2l, 1) := by decide +kernel
theorem dX12_machine_25 : decode cX12_machine 25 = .ok (.lconst 0, 1) := by decide +kernel
theorem dX12_machine_26 : decode cX12_machine 26 = .ok (.lconst 1, 1) := by decide +kernel
theorem dX12_machine_27 : decode cX12_machine 27 = .ok (.invokestatic 46, 3) := by decide +kernel
theorem dX12_machine_30 : decode cX12_machine 30 = .ok (.ifCond .eq 7, 3) := by decide +kernel
theorem dX12_machine_33 : decode cX12_machine 33 = .ok (.iconst 1, 1) := by decide +kernel
theorem dX12_machine_34 : decode cX12_machine 34 = .ok (.goto 4, 3) := by decide +kernel
theorem dX12_machine_37 : decode cX12_machine 37 = .ok (.iconst 0, 1) := by decide +kernel
theorem dX12_machine_38 : decode cX12_machine 38 = .ok (.istore_n 3, 1) := by decide +kernel
theorem dX12_machine_39 : decode cX12_machine 39 = .ok (.iload_n 3, 1) := by decide +kernel
theorem dX12_machine_40 : decode cX12_machine 40 = .ok (.ifCond .eq 14, 3) := by decide +kernel
theorem dX12_machine_43 : decode cX12_machine 43 = .ok (.aload_n 0, 1) := by decide +kernel
theorem dX12_machine_44 : decode cX12_machine 44 = .ok (.iconst 3, 1) := by decide +kernel
theorem dX12_machine_45 : decode cX12_machine 45 = .ok (.iload_n 1, 1) := by decide +kernel
theorem dX12_machine_46 : decode cX12_machine 46 = .ok (.iadd, 1) := by decide +kernel
theorem dX12_machine_47 : decode cX12_machine 47 = .ok (.iload_n 2, 1) := by decide +kernel
theorem dX12_machine_48 : decode cX12_machine 48 = .ok (.invokevirtual 60, 3) := by decide +kernel
theorem dX12_machine_51 : decode cX12_machine 51 = .ok (.goto 9, 3) := by decide +kernel
theorem dX12_machine_54 : decode cX12_machine 54 = .ok (.aload_n 0, 1) := by decide +kernel
theorem dX12_machine_55 : decode cX12_machine 55 = .ok (.ldc 41, 2) := by decide +kernel
theorem dX12_machine_57 : decode cX12_machine 57 = .ok (.invokevirtual 63, 3) := by decide +kernel
theorem dX12_machine_60 : decode cX12_machine 60 = .ok (.ireturn, 1) := by decide +kernel
theorem dX12_isFitting_0 : decode cX12_isFitting 0 = .ok (.aload_n 0, 1) := by decide +kernel
theorem dX12_isFitting_1 : decode cX12_isFitting 1 = .ok (.iload_n 1, 1) := by decide +kernel
theorem dX12_isFitting_2 : decode cX12_isFitting 2 = .ok (.iconst 1, 1) := by decide +kernel
theorem dX12_isFitting_3 : decode cX12_isFitting 3 = .ok (.invokevirtual 67, 3) := by decide +kernel
theorem dX12_isFitting_6 : decode cX12_isFitting 6 = .ok (.aload_n 0, 1) := by decide +kernel
theorem dX12_isFitting_7 : decode cX12_isFitting 7 = .ok (.iload_n 2, 1) := by decide +kernel
theorem dX12_isFitting_8 : decode cX12_isFitting 8 = .ok (.iconst 0, 1) := by decide +kernel
theorem dX12_isFitting_9 : decode cX12_isFitting 9 = .ok (.invokevirtual 70, 3) := by decide +kernel
theorem dX12_isFitting_12 : decode cX12_isFitting 12 = .ok (.isub, 1) := by decide +kernel
theorem dX12_isFitting_13 : decode cX12_isFitting 13 = .ok (.istore_n 3, 1) := by decide +kernel
theorem dX12_isFitting_14 : decode cX12_isFitting 14 = .ok (.aload_n 0, 1) := by decide +kernel
theorem dX12_isFitting_15 : decode cX12_isFitting 15 = .ok (.iload_n 1, 1) := by decide +kernel
theorem dX12_isFitting_16 : decode cX12_isFitting 16 = .ok (.iconst 2, 1) := by decide +kernel
theorem dX12_isFitting_17 : decode cX12_isFitting 17 = .ok (.invokevirtual 67, 3) := by decide +kernel
theorem dX12_isFitting_20 : decode cX12_isFitting 20 = .ok (.aload_n 0, 1) := by decide +kernel
theorem dX12_isFitting_21 : decode cX12_isFitting 21 = .ok (.iload_n 2, 1) := by decide +kernel
theorem dX12_isFitting_22 : decode cX12_isFitting 22 = .ok (.iconst 1, 1) := by decide +kernel
theorem dX12_isFitting_23 : decode cX12_isFitting 23 = .ok (.invokevirtual 70, 3) := by decide +kernel
theorem dX12_isFitting_26 : decode cX12_isFitting 26 = .ok (.isub, 1) := by decide +kernel
theorem dX12_isFitting_27 : decode cX12_isFitting 27 = .ok (.istore 4, 2) := by decide +kernel
theorem dX12_isFitting_29 : decode cX12_isFitting 29 = .ok (.aload_n 0, 1) := by decide +kernel
theorem dX12_isFitting_30 : decode cX12_isFitting 30 = .ok (.iload_n 1, 1) := by decide +kernel
theorem dX12_isFitting_31 : decode cX12_isFitting 31 = .ok (.iconst 4, 1) := by decide +kernel
theorem dX12_isFitting_32 : decode cX12_isFitting 32 = .ok (.invokevirtual 67, 3) := by decide +kernel
theorem dX12_isFitting_35 : decode cX12_isFitting 35 = .ok (.ifCond .ne 42, 3) := by decide +kernel
theorem dX12_isFitting_38 : decode cX12_isFitting 38 = .ok (.aload_n 0, 1) := by decide +kernel
theorem dX12_isFitting_39 : decode cX12_isFitting 39 = .ok (.iload_n 1, 1) := by decide +kernel
theorem dX12_isFitting_40 : decode cX12_isFitting 40 = .ok (.bipush 6, 2) := by decide +kernel
theorem dX12_isFitting_42 : decode cX12_isFitting 42 = .ok (.invokevirtual 67, 3) := by decide +kernel
theorem dX12_isFitting_45 : decode cX12_isFitting 45 = .ok (.ifCond .ne 32, 3) := by decide +kernel
theorem dX12_isFitting_48 : decode cX12_isFitting 48 = .ok (.iload_n 3, 1) := by decide +kernel
theorem dX12_isFitting_49 : decode cX12_isFitting 49 = .ok (.i2l, 1) := by decide +kernel
theorem dX12_isFitting_50 : decode cX12_isFitting 50 = .ok (.lconst 0, 1) := by decide +kernel
theorem dX12_isFitting_51 : decode cX12_isFitting 51 = .ok (.ldc2_w 52, 3) := by decide +kernel
theorem dX12_isFitting_54 : decode cX12_isFitting 54 = .ok (.invokestatic 46, 3) := by decide +kernel
theorem dX12_isFitting_57 : decode cX12_isFitting 57 = .ok (.ifCond .eq 20, 3) := by decide +kernel
theorem dX12_isFitting_60 : decode cX12_isFitting 60 = .ok (.iload 4, 2) := by decide +kernel
theorem dX12_isFitting_62 : decode cX12_isFitting 62 = .ok (.i2l, 1) := by decide +kernel
theorem dX12_isFitting_63 : decode cX12_isFitting 63 = .ok (.lconst 0, 1) := by decide +kernel
theorem dX12_isFitting_64 : decode cX12_isFitting 64 = .ok (.ldc2_w 73, 3) := by decide +kernel
theorem dX12_isFitting_67 : decode cX12_isFitting 67 = .ok (.invokestatic 46, 3) := by decide +kernel
theorem dX12_isFitting_70 : decode cX12_isFitting 70 = .ok (.ifCond .eq 7, 3) := by decide +kernel
theorem dX12_isFitting_73 : decode cX12_isFitting 73 = .ok (.iconst 1, 1) := by decide +kernel
theorem dX12_isFitting_74 : decode cX12_isFitting 74 = .ok (.goto 4, 3) := by decide +kernel
theorem dX12_isFitting_77 : decode cX12_isFitting 77 = .ok (.iconst 0, 1) := by decide +kernel
theorem dX12_isFitting_78 : decode cX12_isFitting 78 = .ok (.ireturn, 1) := by decide +kernel
theorem dX12_wetOnes_0 : decode cX12_wetOnes 0 = .ok (.iconst 0, 1) := by decide +kernel
theorem dX12_wetOnes_1 : decode cX12_wetOnes 1 = .ok (.istore_n 1, 1) := by decide +kernel
theorem dX12_wetOnes_2 : decode cX12_wetOnes 2 = .ok (.iconst 0, 1) := by decide +kernel
theorem dX12_wetOnes_3 : decode cX12_wetOnes 3 = .ok (.istore_n 2, 1) := by decide +kernel
theorem dX12_wetOnes_4 : decode cX12_wetOnes 4 = .ok (.iload_n 2, 1) := by decide +kernel
theorem dX12_wetOnes_5 : decode cX12_wetOnes 5 = .ok (.aload_n 0, 1) := by decide +kernel
theorem dX12_wetOnes_6 : decode cX12_wetOnes 6 = .ok (.getfield 7, 3) := by decide +kernel
theorem dX12_wetOnes_9 : decode cX12_wetOnes 9 = .ok (.iconst 1, 1) := by decide +kernel
theorem dX12_wetOnes_10 : decode cX12_wetOnes 10 = .ok (.iaload, 1) := by decide +kernel
theorem dX12_wetOnes_11 : decode cX12_wetOnes 11 = .ok (.if_icmp .ge 28, 3) := by decide +kernel
theorem dX12_wetOnes_14 : decode cX12_wetOnes 14 = .ok (.iload_n 1, 1) := by decide +kernel
theorem dX12_wetOnes_15 : decode cX12_wetOnes 15 = .ok (.aload_n 0, 1) := by decide +kernel
theorem dX12_wetOnes_16 : decode cX12_wetOnes 16 = .ok (.iload_n 2, 1) := by decide +kernel
theorem dX12_wetOnes_17 : decode cX12_wetOnes 17 = .ok (.iconst 4, 1) := by decide +kernel
theorem dX12_wetOnes_18 : decode cX12_wetOnes 18 = .ok (.invokevirtual 67, 3) := by decide +kernel
theorem dX12_wetOnes_21 : decode cX12_wetOnes 21 = .ok (.ifCond .le 9, 3) := by decide +kernel
theorem dX12_wetOnes_24 : decode cX12_wetOnes 24 = .ok (.iconst 1, 1) := by decide +kernel
theorem dX12_wetOnes_25 : decode cX12_wetOnes 25 = .ok (.iload_n 2, 1) := by decide +kernel
theorem dX12_wetOnes_26 : decode cX12_wetOnes 26 = .ok (.ishl, 1) := by decide +kernel
theorem dX12_wetOnes_27 : decode cX12_wetOnes 27 = .ok (.goto 4, 3) := by decide +kernel
theorem dX12_wetOnes_30 : decode cX12_wetOnes 30 = .ok (.iconst 0, 1) := by decide +kernel
theorem dX12_wetOnes_31 : decode cX12_wetOnes 31 = .ok (.ior, 1) := by decide +kernel
theorem dX12_wetOnes_32 : decode cX12_wetOnes 32 = .ok (.istore_n 1, 1) := by decide +kernel
theorem dX12_wetOnes_33 : decode cX12_wetOnes 33 = .ok (.iinc 2 1, 3) := by decide +kernel
theorem dX12_wetOnes_36 : decode cX12_wetOnes 36 = .ok (.goto (-32), 3) := by decide +kernel
theorem dX12_wetOnes_39 : decode cX12_wetOnes 39 = .ok (.iload_n 1, 1) := by decide +kernel
theorem dX12_wetOnes_40 : decode cX12_wetOnes 40 = .ok (.ireturn, 1) := by decide +kernel
theorem dX12_holedOnes_0 : decode cX12_holedOnes 0 = .ok (.iconst 0, 1) := by decide +kernel
theorem dX12_holedOnes_1 : decode cX12_holedOnes 1 = .ok (.istore_n 1, 1) := by decide +kernel
theorem dX12_holedOnes_2 : decode cX12_holedOnes 2 = .ok (.iconst 0, 1) := by decide +kernel
theorem dX12_holedOnes_3 : decode cX12_holedOnes 3 = .ok (.istore_n 2, 1) := by decide +kernel
theorem dX12_holedOnes_4 : decode cX12_holedOnes 4 = .ok (.iload_n 2, 1) := by decide +kernel
theorem dX12_holedOnes_5 : decode cX12_holedOnes 5 = .ok (.aload_n 0, 1) := by decide +kernel
theorem dX12_holedOnes_6 : decode cX12_holedOnes 6 = .ok (.getfield 7, 3) := by decide +kernel
theorem dX12_holedOnes_9 : decode cX12_holedOnes 9 = .ok (.iconst 1, 1) := by decide +kernel
theorem dX12_holedOnes_10 : decode cX12_holedOnes 10 = .ok (.iaload, 1) := by decide +kernel
theorem dX12_holedOnes_11 : decode cX12_holedOnes 11 = .ok (.if_icmp .ge 29, 3) := by decide +kernel
theorem dX12_holedOnes_14 : decode cX12_holedOnes 14 = .ok (.iload_n 1, 1) := by decide +kernel
theorem dX12_holedOnes_15 : decode cX12_holedOnes 15 = .ok (.aload_n 0, 1) := by decide +kernel
theorem dX12_holedOnes_16 : decode cX12_holedOnes 16 = .ok (.iload_n 2, 1) := by decide +kernel
theorem dX12_holedOnes_17 : decode cX12_holedOnes 17 = .ok (.bipush 6, 2) := by decide +kernel
theorem dX12_holedOnes_19 : decode cX12_holedOnes 19 = .ok (.invokevirtual 67, 3) := by decide +kernel
theorem dX12_holedOnes_22 : decode cX12_holedOnes 22 = .ok (.ifCond .le 9, 3) := by decide +kernel
theorem dX12_holedOnes_25 : decode cX12_holedOnes 25 = .ok (.iconst 1, 1) := by decide +kernel
theorem dX12_holedOnes_26 : decode cX12_holedOnes 26 = .ok (.iload_n 2, 1) := by decide +kernel
theorem dX12_holedOnes_27 : decode cX12_holedOnes 27 = .ok (.ishl, 1) := by decide +kernel
theorem dX12_holedOnes_28 : decode cX12_holedOnes 28 = .ok (.goto 4, 3) := by decide +kernel
theorem dX12_holedOnes_31 : decode cX12_holedOnes 31 = .ok (.iconst 0, 1) := by decide +kernel
theorem dX12_holedOnes_32 : decode cX12_holedOnes 32 = .ok (.ior, 1) := by decide +kernel
theorem dX12_holedOnes_33 : decode cX12_holedOnes 33 = .ok (.istore_n 1, 1) := by decide +kernel
theorem dX12_holedOnes_34 : decode cX12_holedOnes 34 = .ok (.iinc 2 1, 3) := by decide +kernel
theorem dX12_holedOnes_37 : decode cX12_holedOnes 37 = .ok (.goto (-33), 3) := by decide +kernel
theorem dX12_holedOnes_40 : decode cX12_holedOnes 40 = .ok (.iload_n 1, 1) := by decide +kernel
theorem dX12_holedOnes_41 : decode cX12_holedOnes 41 = .ok (.ireturn, 1) := by decide +kernel
theorem dX12_fittingOnes_0 : decode cX12_fittingOnes 0 = .ok (.iconst 0, 1) := by decide +kernel
theorem dX12_fittingOnes_1 : decode cX12_fittingOnes 1 = .ok (.istore_n 2, 1) := by decide +kernel
theorem dX12_fittingOnes_2 : decode cX12_fittingOnes 2 = .ok (.iconst 0, 1) := by decide +kernel
theorem dX12_fittingOnes_3 : decode cX12_fittingOnes 3 = .ok (.istore_n 3, 1) := by decide +kernel
theorem dX12_fittingOnes_4 : decode cX12_fittingOnes 4 = .ok (.iload_n 3, 1) := by decide +kernel
theorem dX12_fittingOnes_5 : decode cX12_fittingOnes 5 = .ok (.aload_n 0, 1) := by decide +kernel
theorem dX12_fittingOnes_6 : decode cX12_fittingOnes 6 = .ok (.getfield 7, 3) := by decide +kernel
theorem dX12_fittingOnes_9 : decode cX12_fittingOnes 9 = .ok (.iconst 1, 1) := by decide +kernel
theorem dX12_fittingOnes_10 : decode cX12_fittingOnes 10 = .ok (.iaload, 1) := by decide +kernel
theorem dX12_fittingOnes_11 : decode cX12_fittingOnes 11 = .ok (.if_icmp .ge 28, 3) := by decide +kernel
theorem dX12_fittingOnes_14 : decode cX12_fittingOnes 14 = .ok (.iload_n 2, 1) := by decide +kernel
theorem dX12_fittingOnes_15 : decode cX12_fittingOnes 15 = .ok (.aload_n 0, 1) := by decide +kernel
theorem dX12_fittingOnes_16 : decode cX12_fittingOnes 16 = .ok (.iload_n 3, 1) := by decide +kernel
theorem dX12_fittingOnes_17 : decode cX12_fittingOnes 17 = .ok (.iload_n 1, 1) := by decide +kernel
theorem dX12_fittingOnes_18 : decode cX12_fittingOnes 18 = .ok (.invokevirtual 75, 3) := by decide +kernel
theorem dX12_fittingOnes_21 : decode cX12_fittingOnes 21 = .ok (.ifCond .eq 9, 3) := by decide +kernel
theorem dX12_fittingOnes_24 : decode cX12_fittingOnes 24 = .ok (.iconst 1, 1) := by decide +kernel
theorem dX12_fittingOnes_25 : decode cX12_fittingOnes 25 = .ok (.iload_n 3, 1) := by decide +kernel
theorem dX12_fittingOnes_26 : decode cX12_fittingOnes 26 = .ok (.ishl, 1) := by decide +kernel
theorem dX12_fittingOnes_27 : decode cX12_fittingOnes 27 = .ok (.goto 4, 3) := by decide +kernel
theorem dX12_fittingOnes_30 : decode cX12_fittingOnes 30 = .ok (.iconst 0, 1) := by decide +kernel
theorem dX12_fittingOnes_31 : decode cX12_fittingOnes 31 = .ok (.ior, 1) := by decide +kernel
theorem dX12_fittingOnes_32 : decode cX12_fittingOnes 32 = .ok (.istore_n 2, 1) := by decide +kernel
theorem dX12_fittingOnes_33 : decode cX12_fittingOnes 33 = .ok (.iinc 3 1, 3) := by decide +kernel
theorem dX12_fittingOnes_36 : decode cX12_fittingOnes 36 = .ok (.goto (-32), 3) := by decide +kernel
theorem dX12_fittingOnes_39 : decode cX12_fittingOnes 39 = .ok (.iload_n 2, 1) := by decide +kernel
theorem dX12_fittingOnes_40 : decode cX12_fittingOnes 40 = .ok (.ireturn, 1) := by decide +kernel
theorem dX12_fittingAny_0 : decode cX12_fittingAny 0 = .ok (.iconst 0, 1) := by decide +kernel
theorem dX12_fittingAny_1 : decode cX12_fittingAny 1 = .ok (.istore_n 1, 1) := by decide +kernel
theorem dX12_fittingAny_2 : decode cX12_fittingAny 2 = .ok (.iconst 0, 1) := by decide +kernel
theorem dX12_fittingAny_3 : decode cX12_fittingAny 3 = .ok (.istore_n 2, 1) := by decide +kernel
theorem dX12_fittingAny_4 : decode cX12_fittingAny 4 = .ok (.iload_n 2, 1) := by decide +kernel
theorem dX12_fittingAny_5 : decode cX12_fittingAny 5 = .ok (.aload_n 0, 1) := by decide +kernel
theorem dX12_fittingAny_6 : decode cX12_fittingAny 6 = .ok (.getfield 7, 3) := by decide +kernel
theorem dX12_fittingAny_9 : decode cX12_fittingAny 9 = .ok (.iconst 2, 1) := by decide +kernel
theorem dX12_fittingAny_10 : decode cX12_fittingAny 10 = .ok (.iaload, 1) := by decide +kernel
theorem dX12_fittingAny_11 : decode cX12_fittingAny 11 = .ok (.if_icmp .ge 17, 3) := by decide +kernel
theorem dX12_fittingAny_14 : decode cX12_fittingAny 14 = .ok (.iload_n 1, 1) := by decide +kernel
theorem dX12_fittingAny_15 : decode cX12_fittingAny 15 = .ok (.aload_n 0, 1) := by decide +kernel
theorem dX12_fittingAny_16 : decode cX12_fittingAny 16 = .ok (.iload_n 2, 1) := by decide +kernel
theorem dX12_fittingAny_17 : decode cX12_fittingAny 17 = .ok (.invokevirtual 79, 3) := by decide +kernel
theorem dX12_fittingAny_20 : decode cX12_fittingAny 20 = .ok (.ior, 1) := by decide +kernel
theorem dX12_fittingAny_21 : decode cX12_fittingAny 21 = .ok (.istore_n 1, 1) := by decide +kernel
theorem dX12_fittingAny_22 : decode cX12_fittingAny 22 = .ok (.iinc 2 1, 3) := by decide +kernel
theorem dX12_fittingAny_25 : decode cX12_fittingAny 25 = .ok (.goto (-21), 3) := by decide +kernel
theorem dX12_fittingAny_28 : decode cX12_fittingAny 28 = .ok (.iload_n 1, 1) := by decide +kernel
theorem dX12_fittingAny_29 : decode cX12_fittingAny 29 = .ok (.ireturn, 1) := by decide +kernel
theorem dX12_now_0 : decode cX12_now 0 = .ok (.iload_n 1, 1) := by decide +kernel
theorem dX12_now_1 : decode cX12_now 1 = .ok (.tableswitch 75 0 5 #[39, 46, 53, 60, 65, 70], 39) := by decide +kernel
theorem dX12_now_40 : decode cX12_now 40 = .ok (.aload_n 0, 1) := by decide +kernel
theorem dX12_now_41 : decode cX12_now 41 = .ok (.getfield 7, 3) := by decide +kernel
theorem dX12_now_44 : decode cX12_now 44 = .ok (.iconst 0, 1) := by decide +kernel
theorem dX12_now_45 : decode cX12_now 45 = .ok (.iaload, 1) := by decide +kernel
theorem dX12_now_46 : decode cX12_now 46 = .ok (.ireturn, 1) := by decide +kernel
theorem dX12_now_47 : decode cX12_now 47 = .ok (.aload_n 0, 1) := by decide +kernel
theorem dX12_now_48 : decode cX12_now 48 = .ok (.getfield 7, 3) := by decide +kernel
theorem dX12_now_51 : decode cX12_now 51 = .ok (.iconst 3, 1) := by decide +kernel
theorem dX12_now_52 : decode cX12_now 52 = .ok (.iaload, 1) := by decide +kernel
theorem dX12_now_53 : decode cX12_now 53 = .ok (.ireturn, 1) := by decide +kernel
theorem dX12_now_54 : decode cX12_now 54 = .ok (.aload_n 0, 1) := by decide +kernel
theorem dX12_now_55 : decode cX12_now 55 = .ok (.getfield 7, 3) := by decide +kernel
theorem dX12_now_58 : decode cX12_now 58 = .ok (.iconst 4, 1) := by decide +kernel
theorem dX12_now_59 : decode cX12_now 59 = .ok (.iaload, 1) := by decide +kernel
theorem dX12_now_60 : decode cX12_now 60 = .ok (.ireturn, 1) := by decide +kernel
theorem dX12_now_61 : decode cX12_now 61 = .ok (.aload_n 0, 1) := by decide +kernel
theorem dX12_now_62 : decode cX12_now 62 = .ok (.invokevirtual 82, 3) := by decide +kernel
theorem dX12_now_65 : decode cX12_now 65 = .ok (.ireturn, 1) := by decide +kernel
theorem dX12_now_66 : decode cX12_now 66 = .ok (.aload_n 0, 1) := by decide +kernel
theorem dX12_now_67 : decode cX12_now 67 = .ok (.invokevirtual 86, 3) := by decide +kernel
theorem dX12_now_70 : decode cX12_now 70 = .ok (.ireturn, 1) := by decide +kernel
theorem dX12_now_71 : decode cX12_now 71 = .ok (.aload_n 0, 1) := by decide +kernel
theorem dX12_now_72 : decode cX12_now 72 = .ok (.invokevirtual 89, 3) := by decide +kernel
theorem dX12_now_75 : decode cX12_now 75 = .ok (.ireturn, 1) := by decide +kernel
theorem dX12_now_76 : decode cX12_now 76 = .ok (.aload_n 0, 1) := by decide +kernel
theorem dX12_now_77 : decode cX12_now 77 = .ok (.ldc 41, 2) := by decide +kernel
theorem dX12_now_79 : decode cX12_now 79 = .ok (.invokevirtual 63, 3) := by decide +kernel
theorem dX12_now_82 : decode cX12_now 82 = .ok (.ireturn, 1) := by decide +kernel
theorem dX12_shrinksOf_0 : decode cX12_shrinksOf 0 = .ok (.aload_n 0, 1) := by decide +kernel
theorem dX12_shrinksOf_1 : decode cX12_shrinksOf 1 = .ok (.getfield 7, 3) := by decide +kernel
theorem dX12_shrinksOf_4 : decode cX12_shrinksOf 4 = .ok (.iconst 3, 1) := by decide +kernel
theorem dX12_shrinksOf_5 : decode cX12_shrinksOf 5 = .ok (.iaload, 1) := by decide +kernel
theorem dX12_shrinksOf_6 : decode cX12_shrinksOf 6 = .ok (.istore_n 2, 1) := by decide +kernel
theorem dX12_shrinksOf_7 : decode cX12_shrinksOf 7 = .ok (.iload_n 2, 1) := by decide +kernel
theorem dX12_shrinksOf_8 : decode cX12_shrinksOf 8 = .ok (.bipush 40, 2) := by decide +kernel
theorem dX12_shrinksOf_10 : decode cX12_shrinksOf 10 = .ok (.if_icmp .le 12, 3) := by decide +kernel
theorem dX12_shrinksOf_13 : decode cX12_shrinksOf 13 = .ok (.iload_n 2, 1) := by decide +kernel
theorem dX12_shrinksOf_14 : decode cX12_shrinksOf 14 = .ok (.bipush 40, 2) := by decide +kernel
theorem dX12_shrinksOf_16 : decode cX12_shrinksOf 16 = .ok (.isub, 1) := by decide +kernel
theorem dX12_shrinksOf_17 : decode cX12_shrinksOf 17 = .ok (.iconst 2, 1) := by decide +kernel
theorem dX12_shrinksOf_18 : decode cX12_shrinksOf 18 = .ok (.idiv, 1) := by decide +kernel
theorem dX12_shrinksOf_19 : decode cX12_shrinksOf 19 = .ok (.goto 4, 3) := by decide +kernel
theorem dX12_shrinksOf_22 : decode cX12_shrinksOf 22 = .ok (.iconst 0, 1) := by decide +kernel
theorem dX12_shrinksOf_23 : decode cX12_shrinksOf 23 = .ok (.istore_n 3, 1) := by decide +kernel
theorem dX12_shrinksOf_24 : decode cX12_shrinksOf 24 = .ok (.aload_n 0, 1) := by decide +kernel
theorem dX12_shrinksOf_25 : decode cX12_shrinksOf 25 = .ok (.iload_n 1, 1) := by decide +kernel
theorem dX12_shrinksOf_26 : decode cX12_shrinksOf 26 = .ok (.iconst 0, 1) := by decide +kernel
theorem dX12_shrinksOf_27 : decode cX12_shrinksOf 27 = .ok (.invokevirtual 67, 3) := by decide +kernel
theorem dX12_shrinksOf_30 : decode cX12_shrinksOf 30 = .ok (.tableswitch 92 1 5 #[34, 36, 41, 54, 72], 34) := by decide +kernel
theorem dX12_shrinksOf_64 : decode cX12_shrinksOf 64 = .ok (.iload_n 3, 1) := by decide +kernel
theorem dX12_shrinksOf_65 : decode cX12_shrinksOf 65 = .ok (.ireturn, 1) := by decide +kernel
theorem dX12_shrinksOf_66 : decode cX12_shrinksOf 66 = .ok (.iload_n 2, 1) := by decide +kernel
theorem dX12_shrinksOf_67 : decode cX12_shrinksOf 67 = .ok (.bipush 20, 2) := by decide +kernel
theorem dX12_shrinksOf_69 : decode cX12_shrinksOf 69 = .ok (.idiv, 1) := by decide +kernel
theorem dX12_shrinksOf_70 : decode cX12_shrinksOf 70 = .ok (.ireturn, 1) := by decide +kernel
theorem dX12_shrinksOf_71 : decode cX12_shrinksOf 71 = .ok (.iload_n 2, 1) := by decide +kernel
theorem dX12_shrinksOf_72 : decode cX12_shrinksOf 72 = .ok (.bipush 60, 2) := by decide +kernel
theorem dX12_shrinksOf_74 : decode cX12_shrinksOf 74 = .ok (.if_icmp .le 8, 3) := by decide +kernel
theorem dX12_shrinksOf_77 : decode cX12_shrinksOf 77 = .ok (.bipush 50, 2) := by decide +kernel
theorem dX12_shrinksOf_79 : decode cX12_shrinksOf 79 = .ok (.goto 4, 3) := by decide +kernel
theorem dX12_shrinksOf_82 : decode cX12_shrinksOf 82 = .ok (.iconst 0, 1) := by decide +kernel
theorem dX12_shrinksOf_83 : decode cX12_shrinksOf 83 = .ok (.ireturn, 1) := by decide +kernel
theorem dX12_shrinksOf_84 : decode cX12_shrinksOf 84 = .ok (.aload_n 0, 1) := by decide +kernel
theorem dX12_shrinksOf_85 : decode cX12_shrinksOf 85 = .ok (.getfield 7, 3) := by decide +kernel
theorem dX12_shrinksOf_88 : decode cX12_shrinksOf 88 = .ok (.iconst 4, 1) := by decide +kernel
theorem dX12_shrinksOf_89 : decode cX12_shrinksOf 89 = .ok (.iaload, 1) := by decide +kernel
theorem dX12_shrinksOf_90 : decode cX12_shrinksOf 90 = .ok (.iconst 1, 1) := by decide +kernel
theorem dX12_shrinksOf_91 : decode cX12_shrinksOf 91 = .ok (.if_icmp .ne 9, 3) := by decide +kernel
theorem dX12_shrinksOf_94 : decode cX12_shrinksOf 94 = .ok (.iconst 2, 1) := by decide +kernel
theorem dX12_shrinksOf_95 : decode cX12_shrinksOf 95 = .ok (.iload_n 3, 1) := by decide +kernel
theorem dX12_shrinksOf_96 : decode cX12_shrinksOf 96 = .ok (.imul, 1) := by decide +kernel
theorem dX12_shrinksOf_97 : decode cX12_shrinksOf 97 = .ok (.goto 4, 3) := by decide +kernel
theorem dX12_shrinksOf_100 : decode cX12_shrinksOf 100 = .ok (.iload_n 3, 1) := by decide +kernel
theorem dX12_shrinksOf_101 : decode cX12_shrinksOf 101 = .ok (.ireturn, 1) := by decide +kernel
theorem dX12_shrinksOf_102 : decode cX12_shrinksOf 102 = .ok (.iload_n 2, 1) := by decide +kernel
theorem dX12_shrinksOf_103 : decode cX12_shrinksOf 103 = .ok (.bipush 60, 2) := by decide +kernel
theorem dX12_shrinksOf_105 : decode cX12_shrinksOf 105 = .ok (.if_icmp .lt 12, 3) := by decide +kernel
theorem dX12_shrinksOf_108 : decode cX12_shrinksOf 108 = .ok (.iload_n 2, 1) := by decide +kernel
theorem dX12_shrinksOf_109 : decode cX12_shrinksOf 109 = .ok (.bipush 20, 2) := by decide +kernel
theorem dX12_shrinksOf_111 : decode cX12_shrinksOf 111 = .ok (.idiv, 1) := by decide +kernel
theorem dX12_shrinksOf_112 : decode cX12_shrinksOf 112 = .ok (.iconst 1, 1) := by decide +kernel
theorem dX12_shrinksOf_113 : decode cX12_shrinksOf 113 = .ok (.iadd, 1) := by decide +kernel
theorem dX12_shrinksOf_114 : decode cX12_shrinksOf 114 = .ok (.goto 7, 3) := by decide +kernel
theorem dX12_shrinksOf_117 : decode cX12_shrinksOf 117 = .ok (.iload_n 2, 1) := by decide +kernel
theorem dX12_shrinksOf_118 : decode cX12_shrinksOf 118 = .ok (.bipush 20, 2) := by decide +kernel
theorem dX12_shrinksOf_120 : decode cX12_shrinksOf 120 = .ok (.idiv, 1) := by decide +kernel
theorem dX12_shrinksOf_121 : decode cX12_shrinksOf 121 = .ok (.ireturn, 1) := by decide +kernel
theorem dX12_shrinksOf_122 : decode cX12_shrinksOf 122 = .ok (.iconst 0, 1) := by decide +kernel
theorem dX12_shrinksOf_123 : decode cX12_shrinksOf 123 = .ok (.ireturn, 1) := by decide +kernel
theorem dX12_feltsOf_0 : decode cX12_feltsOf 0 = .ok (.aload_n 0, 1) := by decide +kernel
theorem dX12_feltsOf_1 : decode cX12_feltsOf 1 = .ok (.iload_n 1, 1) := by decide +kernel
theorem dX12_feltsOf_2 : decode cX12_feltsOf 2 = .ok (.invokevirtual 92, 3) := by decide +kernel
theorem dX12_feltsOf_5 : decode cX12_feltsOf 5 = .ok (.istore_n 2, 1) := by decide +kernel
theorem dX12_feltsOf_6 : decode cX12_feltsOf 6 = .ok (.aload_n 0, 1) := by decide +kernel
theorem dX12_feltsOf_7 : decode cX12_feltsOf 7 = .ok (.iload_n 1, 1) := by decide +kernel
theorem dX12_feltsOf_8 : decode cX12_feltsOf 8 = .ok (.iconst 0, 1) := by decide +kernel
theorem dX12_feltsOf_9 : decode cX12_feltsOf 9 = .ok (.invokevirtual 67, 3) := by decide +kernel
theorem dX12_feltsOf_12 : decode cX12_feltsOf 12 = .ok (.tableswitch 56 1 5 #[36, 56, 56, 40, 54], 36) := by decide +kernel
theorem dX12_feltsOf_48 : decode cX12_feltsOf 48 = .ok (.iload_n 2, 1) := by decide +kernel
theorem dX12_feltsOf_49 : decode cX12_feltsOf 49 = .ok (.iconst 3, 1) := by decide +kernel
theorem dX12_feltsOf_50 : decode cX12_feltsOf 50 = .ok (.idiv, 1) := by decide +kernel
theorem dX12_feltsOf_51 : decode cX12_feltsOf 51 = .ok (.ireturn, 1) := by decide +kernel
theorem dX12_feltsOf_52 : decode cX12_feltsOf 52 = .ok (.iload_n 2, 1) := by decide +kernel
theorem dX12_feltsOf_53 : decode cX12_feltsOf 53 = .ok (.ifCond .le 11, 3) := by decide +kernel
theorem dX12_feltsOf_56 : decode cX12_feltsOf 56 = .ok (.iload_n 2, 1) := by decide +kernel
theorem dX12_feltsOf_57 : decode cX12_feltsOf 57 = .ok (.iconst 3, 1) := by decide +kernel
theorem dX12_feltsOf_58 : decode cX12_feltsOf 58 = .ok (.idiv, 1) := by decide +kernel
theorem dX12_feltsOf_59 : decode cX12_feltsOf 59 = .ok (.iconst 1, 1) := by decide +kernel
theorem dX12_feltsOf_60 : decode cX12_feltsOf 60 = .ok (.iadd, 1) := by decide +kernel
theorem dX12_feltsOf_61 : decode cX12_feltsOf 61 = .ok (.goto 4, 3) := by decide +kernel
theorem dX12_feltsOf_64 : decode cX12_feltsOf 64 = .ok (.iconst 0, 1) := by decide +kernel
theorem dX12_feltsOf_65 : decode cX12_feltsOf 65 = .ok (.ireturn, 1) := by decide +kernel
theorem dX12_feltsOf_66 : decode cX12_feltsOf 66 = .ok (.iconst 2, 1) := by decide +kernel
theorem dX12_feltsOf_67 : decode cX12_feltsOf 67 = .ok (.ireturn, 1) := by decide +kernel
theorem dX12_feltsOf_68 : decode cX12_feltsOf 68 = .ok (.iconst 0, 1) := by decide +kernel
theorem dX12_feltsOf_69 : decode cX12_feltsOf 69 = .ok (.ireturn, 1) := by decide +kernel
theorem dX12_bearsOf_0 : decode cX12_bearsOf 0 = .ok (.bipush 10, 2) := by decide +kernel
theorem dX12_bearsOf_2 : decode cX12_bearsOf 2 = .ok (.aload_n 0, 1) := by decide +kernel
theorem dX12_bearsOf_3 : decode cX12_bearsOf 3 = .ok (.iload_n 1, 1) := by decide +kernel
theorem dX12_bearsOf_4 : decode cX12_bearsOf 4 = .ok (.iconst 3, 1) := by decide +kernel
theorem dX12_bearsOf_5 : decode cX12_bearsOf 5 = .ok (.invokevirtual 67, 3) := by decide +kernel
theorem dX12_bearsOf_8 : decode cX12_bearsOf 8 = .ok (.iconst 4, 1) := by decide +kernel
theorem dX12_bearsOf_9 : decode cX12_bearsOf 9 = .ok (.idiv, 1) := by decide +kernel
theorem dX12_bearsOf_10 : decode cX12_bearsOf 10 = .ok (.iadd, 1) := by decide +kernel
theorem dX12_bearsOf_11 : decode cX12_bearsOf 11 = .ok (.istore_n 2, 1) := by decide +kernel
theorem dX12_bearsOf_12 : decode cX12_bearsOf 12 = .ok (.aload_n 0, 1) := by decide +kernel
theorem dX12_bearsOf_13 : decode cX12_bearsOf 13 = .ok (.iload_n 1, 1) := by decide +kernel
theorem dX12_bearsOf_14 : decode cX12_bearsOf 14 = .ok (.iconst 0, 1) := by decide +kernel
theorem dX12_bearsOf_15 : decode cX12_bearsOf 15 = .ok (.invokevirtual 67, 3) := by decide +kernel
theorem dX12_bearsOf_18 : decode cX12_bearsOf 18 = .ok (.tableswitch 54 1 5 #[34, 36, 38, 40, 44], 34) := by decide +kernel
theorem dX12_bearsOf_52 : decode cX12_bearsOf 52 = .ok (.iload_n 2, 1) := by decide +kernel
theorem dX12_bearsOf_53 : decode cX12_bearsOf 53 = .ok (.ireturn, 1) := by decide +kernel
theorem dX12_bearsOf_54 : decode cX12_bearsOf 54 = .ok (.iconst 5, 1) := by decide +kernel
theorem dX12_bearsOf_55 : decode cX12_bearsOf 55 = .ok (.ireturn, 1) := by decide +kernel
theorem dX12_bearsOf_56 : decode cX12_bearsOf 56 = .ok (.iconst 3, 1) := by decide +kernel
theorem dX12_bearsOf_57 : decode cX12_bearsOf 57 = .ok (.ireturn, 1) := by decide +kernel
theorem dX12_bearsOf_58 : decode cX12_bearsOf 58 = .ok (.iconst 2, 1) := by decide +kernel
theorem dX12_bearsOf_59 : decode cX12_bearsOf 59 = .ok (.iload_n 2, 1) := by decide +kernel
theorem dX12_bearsOf_60 : decode cX12_bearsOf 60 = .ok (.imul, 1) := by decide +kernel
theorem dX12_bearsOf_61 : decode cX12_bearsOf 61 = .ok (.ireturn, 1) := by decide +kernel
theorem dX12_bearsOf_62 : decode cX12_bearsOf 62 = .ok (.iconst 5, 1) := by decide +kernel
theorem dX12_bearsOf_63 : decode cX12_bearsOf 63 = .ok (.aload_n 0, 1) := by decide +kernel
theorem dX12_bearsOf_64 : decode cX12_bearsOf 64 = .ok (.iload_n 1, 1) := by decide +kernel
theorem dX12_bearsOf_65 : decode cX12_bearsOf 65 = .ok (.bipush 6, 2) := by decide +kernel
theorem dX12_bearsOf_67 : decode cX12_bearsOf 67 = .ok (.invokevirtual 67, 3) := by decide +kernel
theorem dX12_bearsOf_70 : decode cX12_bearsOf 70 = .ok (.iadd, 1) := by decide +kernel
theorem dX12_bearsOf_71 : decode cX12_bearsOf 71 = .ok (.ireturn, 1) := by decide +kernel
theorem dX12_bearsOf_72 : decode cX12_bearsOf 72 = .ok (.bipush 10, 2) := by decide +kernel
theorem dX12_bearsOf_74 : decode cX12_bearsOf 74 = .ok (.ireturn, 1) := by decide +kernel
theorem dX12_keepsOf_0 : decode cX12_keepsOf 0 = .ok (.aload_n 0, 1) := by decide +kernel
theorem dX12_keepsOf_1 : decode cX12_keepsOf 1 = .ok (.iload_n 1, 1) := by decide +kernel
theorem dX12_keepsOf_2 : decode cX12_keepsOf 2 = .ok (.iconst 0, 1) := by decide +kernel
theorem dX12_keepsOf_3 : decode cX12_keepsOf 3 = .ok (.invokevirtual 67, 3) := by decide +kernel
theorem dX12_keepsOf_6 : decode cX12_keepsOf 6 = .ok (.tableswitch 39 2 5 #[30, 33, 36, 30], 30) := by decide +kernel
theorem dX12_keepsOf_36 : decode cX12_keepsOf 36 = .ok (.bipush 20, 2) := by decide +kernel
theorem dX12_keepsOf_38 : decode cX12_keepsOf 38 = .ok (.ireturn, 1) := by decide +kernel
theorem dX12_keepsOf_39 : decode cX12_keepsOf 39 = .ok (.bipush 100, 2) := by decide +kernel
theorem dX12_keepsOf_41 : decode cX12_keepsOf 41 = .ok (.ireturn, 1) := by decide +kernel
theorem dX12_keepsOf_42 : decode cX12_keepsOf 42 = .ok (.bipush 40, 2) := by decide +kernel
theorem dX12_keepsOf_44 : decode cX12_keepsOf 44 = .ok (.ireturn, 1) := by decide +kernel
theorem dX12_keepsOf_45 : decode cX12_keepsOf 45 = .ok (.bipush 50, 2) := by decide +kernel
theorem dX12_keepsOf_47 : decode cX12_keepsOf 47 = .ok (.ireturn, 1) := by decide +kernel
theorem dX12_adds_0 : decode cX12_adds 0 = .ok (.aload_n 0, 1) := by decide +kernel
theorem dX12_adds_1 : decode cX12_adds 1 = .ok (.getfield 7, 3) := by decide +kernel
theorem dX12_adds_4 : decode cX12_adds 4 = .ok (.iconst 1, 1) := by decide +kernel
theorem dX12_adds_5 : decode cX12_adds 5 = .ok (.iaload, 1) := by decide +kernel
theorem dX12_adds_6 : decode cX12_adds 6 = .ok (.istore_n 2, 1) := by decide +kernel
theorem dX12_adds_7 : decode cX12_adds 7 = .ok (.aload_n 0, 1) := by decide +kernel
theorem dX12_adds_8 : decode cX12_adds 8 = .ok (.getfield 7, 3) := by decide +kernel
theorem dX12_adds_11 : decode cX12_adds 11 = .ok (.iconst 1, 1) := by decide +kernel
theorem dX12_adds_12 : decode cX12_adds 12 = .ok (.dup2, 1) := by decide +kernel
theorem dX12_adds_13 : decode cX12_adds 13 = .ok (.iaload, 1) := by decide +kernel
theorem dX12_adds_14 : decode cX12_adds 14 = .ok (.iconst 1, 1) := by decide +kernel
theorem dX12_adds_15 : decode cX12_adds 15 = .ok (.iadd, 1) := by decide +kernel
theorem dX12_adds_16 : decode cX12_adds 16 = .ok (.iastore, 1) := by decide +kernel
theorem dX12_adds_17 : decode cX12_adds 17 = .ok (.iconst 0, 1) := by decide +kernel
theorem dX12_adds_18 : decode cX12_adds 18 = .ok (.istore_n 3, 1) := by decide +kernel
theorem dX12_adds_19 : decode cX12_adds 19 = .ok (.iload_n 3, 1) := by decide +kernel
theorem dX12_adds_20 : decode cX12_adds 20 = .ok (.bipush 7, 2) := by decide +kernel
theorem dX12_adds_22 : decode cX12_adds 22 = .ok (.if_icmp .ge 20, 3) := by decide +kernel
theorem dX12_adds_25 : decode cX12_adds 25 = .ok (.aload_n 0, 1) := by decide +kernel
theorem dX12_adds_26 : decode cX12_adds 26 = .ok (.getfield 7, 3) := by decide +kernel
theorem dX12_adds_29 : decode cX12_adds 29 = .ok (.iload_n 2, 1) := by decide +kernel
theorem dX12_adds_30 : decode cX12_adds 30 = .ok (.iload_n 3, 1) := by decide +kernel
theorem dX12_adds_31 : decode cX12_adds 31 = .ok (.invokestatic 42, 3) := by decide +kernel
theorem dX12_adds_34 : decode cX12_adds 34 = .ok (.iconst 0, 1) := by decide +kernel
theorem dX12_adds_35 : decode cX12_adds 35 = .ok (.iastore, 1) := by decide +kernel
theorem dX12_adds_36 : decode cX12_adds 36 = .ok (.iinc 3 1, 3) := by decide +kernel
theorem dX12_adds_39 : decode cX12_adds 39 = .ok (.goto (-20), 3) := by decide +kernel
theorem dX12_adds_42 : decode cX12_adds 42 = .ok (.aload_n 0, 1) := by decide +kernel
theorem dX12_adds_43 : decode cX12_adds 43 = .ok (.getfield 7, 3) := by decide +kernel
theorem dX12_adds_46 : decode cX12_adds 46 = .ok (.iload_n 2, 1) := by decide +kernel
theorem dX12_adds_47 : decode cX12_adds 47 = .ok (.iconst 0, 1) := by decide +kernel
theorem dX12_adds_48 : decode cX12_adds 48 = .ok (.invokestatic 42, 3) := by decide +kernel
theorem dX12_adds_51 : decode cX12_adds 51 = .ok (.iload_n 1, 1) := by decide +kernel
theorem dX12_adds_52 : decode cX12_adds 52 = .ok (.iastore, 1) := by decide +kernel
theorem dX12_adds_53 : decode cX12_adds 53 = .ok (.aload_n 0, 1) := by decide +kernel
theorem dX12_adds_54 : decode cX12_adds 54 = .ok (.getfield 7, 3) := by decide +kernel
theorem dX12_adds_57 : decode cX12_adds 57 = .ok (.iload_n 2, 1) := by decide +kernel
theorem dX12_adds_58 : decode cX12_adds 58 = .ok (.iconst 1, 1) := by decide +kernel
theorem dX12_adds_59 : decode cX12_adds 59 = .ok (.invokestatic 42, 3) := by decide +kernel
theorem dX12_adds_62 : decode cX12_adds 62 = .ok (.bipush 100, 2) := by decide +kernel
theorem dX12_adds_64 : decode cX12_adds 64 = .ok (.iastore, 1) := by decide +kernel
theorem dX12_adds_65 : decode cX12_adds 65 = .ok (.aload_n 0, 1) := by decide +kernel
theorem dX12_adds_66 : decode cX12_adds 66 = .ok (.getfield 7, 3) := by decide +kernel
theorem dX12_adds_69 : decode cX12_adds 69 = .ok (.iload_n 2, 1) := by decide +kernel
theorem dX12_adds_70 : decode cX12_adds 70 = .ok (.iconst 2, 1) := by decide +kernel
theorem dX12_adds_71 : decode cX12_adds 71 = .ok (.invokestatic 42, 3) := by decide +kernel
theorem dX12_adds_74 : decode cX12_adds 74 = .ok (.bipush 100, 2) := by decide +kernel
theorem dX12_adds_76 : decode cX12_adds 76 = .ok (.iastore, 1) := by decide +kernel
theorem dX12_adds_77 : decode cX12_adds 77 = .ok (.aload_n 0, 1) := by decide +kernel
theorem dX12_adds_78 : decode cX12_adds 78 = .ok (.getfield 7, 3) := by decide +kernel
theorem dX12_adds_81 : decode cX12_adds 81 = .ok (.iload_n 2, 1) := by decide +kernel
theorem dX12_adds_82 : decode cX12_adds 82 = .ok (.iconst 3, 1) := by decide +kernel
theorem dX12_adds_83 : decode cX12_adds 83 = .ok (.invokestatic 42, 3) := by decide +kernel
theorem dX12_adds_86 : decode cX12_adds 86 = .ok (.bipush 10, 2) := by decide +kernel
theorem dX12_adds_88 : decode cX12_adds 88 = .ok (.iastore, 1) := by decide +kernel
theorem dX12_adds_89 : decode cX12_adds 89 = .ok (.iload_n 2, 1) := by decide +kernel
theorem dX12_adds_90 : decode cX12_adds 90 = .ok (.ireturn, 1) := by decide +kernel
theorem dX12_garment_0 : decode cX12_garment 0 = .ok (.iload_n 1, 1) := by decide +kernel
theorem dX12_garment_1 : decode cX12_garment 1 = .ok (.invokestatic 95, 3) := by decide +kernel
theorem dX12_garment_4 : decode cX12_garment 4 = .ok (.ifCond .ne 10, 3) := by decide +kernel
theorem dX12_garment_7 : decode cX12_garment 7 = .ok (.aload_n 0, 1) := by decide +kernel
theorem dX12_garment_8 : decode cX12_garment 8 = .ok (.ldc 41, 2) := by decide +kernel
theorem dX12_garment_10 : decode cX12_garment 10 = .ok (.invokevirtual 63, 3) := by decide +kernel
theorem dX12_garment_13 : decode cX12_garment 13 = .ok (.ireturn, 1) := by decide +kernel
theorem dX12_garment_14 : decode cX12_garment 14 = .ok (.aload_n 0, 1) := by decide +kernel
theorem dX12_garment_15 : decode cX12_garment 15 = .ok (.getfield 7, 3) := by decide +kernel
theorem dX12_garment_18 : decode cX12_garment 18 = .ok (.iconst 1, 1) := by decide +kernel
theorem dX12_garment_19 : decode cX12_garment 19 = .ok (.iaload, 1) := by decide +kernel
theorem dX12_garment_20 : decode cX12_garment 20 = .ok (.bipush 8, 2) := by decide +kernel
theorem dX12_garment_22 : decode cX12_garment 22 = .ok (.if_icmp .ne 12, 3) := by decide +kernel
theorem dX12_garment_25 : decode cX12_garment 25 = .ok (.aload_n 0, 1) := by decide +kernel
theorem dX12_garment_26 : decode cX12_garment 26 = .ok (.ldc 99, 2) := by decide +kernel
theorem dX12_garment_28 : decode cX12_garment 28 = .ok (.invokevirtual 63, 3) := by decide +kernel
theorem dX12_garment_31 : decode cX12_garment 31 = .ok (.goto 8, 3) := by decide +kernel
theorem dX12_garment_34 : decode cX12_garment 34 = .ok (.aload_n 0, 1) := by decide +kernel
theorem dX12_garment_35 : decode cX12_garment 35 = .ok (.iload_n 1, 1) := by decide +kernel
theorem dX12_garment_36 : decode cX12_garment 36 = .ok (.invokevirtual 100, 3) := by decide +kernel
theorem dX12_garment_39 : decode cX12_garment 39 = .ok (.ireturn, 1) := by decide +kernel
theorem dX12_of_0 : decode cX12_of 0 = .ok (.aload_n 0, 1) := by decide +kernel
theorem dX12_of_1 : decode cX12_of 1 = .ok (.iload_n 1, 1) := by decide +kernel
theorem dX12_of_2 : decode cX12_of 2 = .ok (.invokevirtual 103, 3) := by decide +kernel
theorem dX12_of_5 : decode cX12_of 5 = .ok (.ifCond .eq 15, 3) := by decide +kernel
theorem dX12_of_8 : decode cX12_of 8 = .ok (.iload_n 2, 1) := by decide +kernel
theorem dX12_of_9 : decode cX12_of 9 = .ok (.i2l, 1) := by decide +kernel
theorem dX12_of_10 : decode cX12_of 10 = .ok (.lconst 0, 1) := by decide +kernel
theorem dX12_of_11 : decode cX12_of 11 = .ok (.ldc2_w 52, 3) := by decide +kernel
theorem dX12_of_14 : decode cX12_of 14 = .ok (.invokestatic 46, 3) := by decide +kernel
theorem dX12_of_17 : decode cX12_of 17 = .ok (.ifCond .ne 10, 3) := by decide +kernel
theorem dX12_of_20 : decode cX12_of 20 = .ok (.aload_n 0, 1) := by decide +kernel
theorem dX12_of_21 : decode cX12_of 21 = .ok (.ldc 41, 2) := by decide +kernel
theorem dX12_of_23 : decode cX12_of 23 = .ok (.invokevirtual 63, 3) := by decide +kernel
theorem dX12_of_26 : decode cX12_of 26 = .ok (.ireturn, 1) := by decide +kernel
theorem dX12_of_27 : decode cX12_of 27 = .ok (.iload_n 2, 1) := by decide +kernel
theorem dX12_of_28 : decode cX12_of 28 = .ok (.bipush 6, 2) := by decide +kernel
theorem dX12_of_30 : decode cX12_of 30 = .ok (.if_icmp .gt 10, 3) := by decide +kernel
theorem dX12_of_33 : decode cX12_of 33 = .ok (.aload_n 0, 1) := by decide +kernel
theorem dX12_of_34 : decode cX12_of 34 = .ok (.iload_n 1, 1) := by decide +kernel
theorem dX12_of_35 : decode cX12_of 35 = .ok (.iload_n 2, 1) := by decide +kernel
theorem dX12_of_36 : decode cX12_of 36 = .ok (.invokevirtual 67, 3) := by decide +kernel
theorem dX12_of_39 : decode cX12_of 39 = .ok (.ireturn, 1) := by decide +kernel
theorem dX12_of_40 : decode cX12_of 40 = .ok (.iload_n 2, 1) := by decide +kernel
theorem dX12_of_41 : decode cX12_of 41 = .ok (.bipush 7, 2) := by decide +kernel
theorem dX12_of_43 : decode cX12_of 43 = .ok (.if_icmp .ne 11, 3) := by decide +kernel
theorem dX12_of_46 : decode cX12_of 46 = .ok (.aload_n 0, 1) := by decide +kernel
theorem dX12_of_47 : decode cX12_of 47 = .ok (.iload_n 1, 1) := by decide +kernel
theorem dX12_of_48 : decode cX12_of 48 = .ok (.invokevirtual 92, 3) := by decide +kernel
theorem dX12_of_51 : decode cX12_of 51 = .ok (.goto 36, 3) := by decide +kernel
theorem dX12_of_54 : decode cX12_of 54 = .ok (.iload_n 2, 1) := by decide +kernel
theorem dX12_of_55 : decode cX12_of 55 = .ok (.bipush 8, 2) := by decide +kernel
theorem dX12_of_57 : decode cX12_of 57 = .ok (.if_icmp .ne 11, 3) := by decide +kernel
theorem dX12_of_60 : decode cX12_of 60 = .ok (.aload_n 0, 1) := by decide +kernel
theorem dX12_of_61 : decode cX12_of 61 = .ok (.iload_n 1, 1) := by decide +kernel
theorem dX12_of_62 : decode cX12_of 62 = .ok (.invokevirtual 106, 3) := by decide +kernel
theorem dX12_of_65 : decode cX12_of 65 = .ok (.goto 22, 3) := by decide +kernel
theorem dX12_of_68 : decode cX12_of 68 = .ok (.iload_n 2, 1) := by decide +kernel
theorem dX12_of_69 : decode cX12_of 69 = .ok (.bipush 9, 2) := by decide +kernel
theorem dX12_of_71 : decode cX12_of 71 = .ok (.if_icmp .ne 11, 3) := by decide +kernel
theorem dX12_of_74 : decode cX12_of 74 = .ok (.aload_n 0, 1) := by decide +kernel
theorem dX12_of_75 : decode cX12_of 75 = .ok (.iload_n 1, 1) := by decide +kernel
theorem dX12_of_76 : decode cX12_of 76 = .ok (.invokevirtual 109, 3) := by decide +kernel
theorem dX12_of_79 : decode cX12_of 79 = .ok (.goto 8, 3) := by decide +kernel
theorem dX12_of_82 : decode cX12_of 82 = .ok (.aload_n 0, 1) := by decide +kernel
theorem dX12_of_83 : decode cX12_of 83 = .ok (.iload_n 1, 1) := by decide +kernel
theorem dX12_of_84 : decode cX12_of 84 = .ok (.invokevirtual 112, 3) := by decide +kernel
theorem dX12_of_87 : decode cX12_of 87 = .ok (.ireturn, 1) := by decide +kernel
theorem dX12_isSet_0 : decode cX12_isSet 0 = .ok (.iload_n 0, 1) := by decide +kernel
theorem dX12_isSet_1 : decode cX12_isSet 1 = .ok (.tableswitch 43 1 3 #[27, 27, 33], 27) := by decide +kernel
theorem dX12_isSet_28 : decode cX12_isSet 28 = .ok (.iload_n 1, 1) := by decide +kernel
theorem dX12_isSet_29 : decode cX12_isSet 29 = .ok (.i2l, 1) := by decide +kernel
theorem dX12_isSet_30 : decode cX12_isSet 30 = .ok (.invokestatic 115, 3) := by decide +kernel
theorem dX12_isSet_33 : decode cX12_isSet 33 = .ok (.ireturn, 1) := by decide +kernel
theorem dX12_isSet_34 : decode cX12_isSet 34 = .ok (.iload_n 1, 1) := by decide +kernel
theorem dX12_isSet_35 : decode cX12_isSet 35 = .ok (.i2l, 1) := by decide +kernel
theorem dX12_isSet_36 : decode cX12_isSet 36 = .ok (.lconst 1, 1) := by decide +kernel
theorem dX12_isSet_37 : decode cX12_isSet 37 = .ok (.ldc2_w 119, 3) := by decide +kernel
theorem dX12_isSet_40 : decode cX12_isSet 40 = .ok (.invokestatic 46, 3) := by decide +kernel
theorem dX12_isSet_43 : decode cX12_isSet 43 = .ok (.ireturn, 1) := by decide +kernel
theorem dX12_isSet_44 : decode cX12_isSet 44 = .ok (.iload_n 0, 1) := by decide +kernel
theorem dX12_isSet_45 : decode cX12_isSet 45 = .ok (.bipush 6, 2) := by decide +kernel
theorem dX12_isSet_47 : decode cX12_isSet 47 = .ok (.if_icmp .ne 19, 3) := by decide +kernel
theorem dX12_isSet_50 : decode cX12_isSet 50 = .ok (.iload_n 1, 1) := by decide +kernel
theorem dX12_isSet_51 : decode cX12_isSet 51 = .ok (.i2l, 1) := by decide +kernel
theorem dX12_isSet_52 : decode cX12_isSet 52 = .ok (.lconst 0, 1) := by decide +kernel
theorem dX12_isSet_53 : decode cX12_isSet 53 = .ok (.ldc2_w 121, 3) := by decide +kernel
theorem dX12_isSet_56 : decode cX12_isSet 56 = .ok (.invokestatic 46, 3) := by decide +kernel
theorem dX12_isSet_59 : decode cX12_isSet 59 = .ok (.ifCond .eq 7, 3) := by decide +kernel
theorem dX12_isSet_62 : decode cX12_isSet 62 = .ok (.iconst 1, 1) := by decide +kernel
theorem dX12_isSet_63 : decode cX12_isSet 63 = .ok (.goto 4, 3) := by decide +kernel
theorem dX12_isSet_66 : decode cX12_isSet 66 = .ok (.iconst 0, 1) := by decide +kernel
theorem dX12_isSet_67 : decode cX12_isSet 67 = .ok (.ireturn, 1) := by decide +kernel
theorem dX12_set_0 : decode cX12_set 0 = .ok (.aload_n 0, 1) := by decide +kernel
theorem dX12_set_1 : decode cX12_set 1 = .ok (.iload_n 1, 1) := by decide +kernel
theorem dX12_set_2 : decode cX12_set 2 = .ok (.invokevirtual 103, 3) := by decide +kernel
theorem dX12_set_5 : decode cX12_set 5 = .ok (.ifCond .eq 24, 3) := by decide +kernel
theorem dX12_set_8 : decode cX12_set 8 = .ok (.iload_n 2, 1) := by decide +kernel
theorem dX12_set_9 : decode cX12_set 9 = .ok (.iload_n 3, 1) := by decide +kernel
theorem dX12_set_10 : decode cX12_set 10 = .ok (.invokestatic 123, 3) := by decide +kernel
theorem dX12_set_13 : decode cX12_set 13 = .ok (.ifCond .eq 16, 3) := by decide +kernel
theorem dX12_set_16 : decode cX12_set 16 = .ok (.aload_n 0, 1) := by decide +kernel
theorem dX12_set_17 : decode cX12_set 17 = .ok (.iload_n 1, 1) := by decide +kernel
theorem dX12_set_18 : decode cX12_set 18 = .ok (.iload_n 2, 1) := by decide +kernel
theorem dX12_set_19 : decode cX12_set 19 = .ok (.invokestatic 42, 3) := by decide +kernel
theorem dX12_set_22 : decode cX12_set 22 = .ok (.iload_n 3, 1) := by decide +kernel
theorem dX12_set_23 : decode cX12_set 23 = .ok (.invokevirtual 60, 3) := by decide +kernel
theorem dX12_set_26 : decode cX12_set 26 = .ok (.goto 9, 3) := by decide +kernel
theorem dX12_set_29 : decode cX12_set 29 = .ok (.aload_n 0, 1) := by decide +kernel
theorem dX12_set_30 : decode cX12_set 30 = .ok (.ldc 41, 2) := by decide +kernel
theorem dX12_set_32 : decode cX12_set 32 = .ok (.invokevirtual 63, 3) := by decide +kernel
theorem dX12_set_35 : decode cX12_set 35 = .ok (.ireturn, 1) := by decide +kernel
theorem dX12_shrinks_0 : decode cX12_shrinks 0 = .ok (.aload_n 0, 1) := by decide +kernel
theorem dX12_shrinks_1 : decode cX12_shrinks 1 = .ok (.getfield 7, 3) := by decide +kernel
theorem dX12_shrinks_4 : decode cX12_shrinks 4 = .ok (.iload_n 1, 1) := by decide +kernel
theorem dX12_shrinks_5 : decode cX12_shrinks 5 = .ok (.iload_n 2, 1) := by decide +kernel
theorem dX12_shrinks_6 : decode cX12_shrinks 6 = .ok (.invokestatic 42, 3) := by decide +kernel
theorem dX12_shrinks_9 : decode cX12_shrinks 9 = .ok (.aload_n 0, 1) := by decide +kernel
theorem dX12_shrinks_10 : decode cX12_shrinks 10 = .ok (.iload_n 1, 1) := by decide +kernel
theorem dX12_shrinks_11 : decode cX12_shrinks 11 = .ok (.iload_n 2, 1) := by decide +kernel
theorem dX12_shrinks_12 : decode cX12_shrinks 12 = .ok (.invokevirtual 67, 3) := by decide +kernel
theorem dX12_shrinks_15 : decode cX12_shrinks 15 = .ok (.aload_n 0, 1) := by decide +kernel
theorem dX12_shrinks_16 : decode cX12_shrinks 16 = .ok (.iload_n 1, 1) := by decide +kernel
theorem dX12_shrinks_17 : decode cX12_shrinks 17 = .ok (.iload_n 2, 1) := by decide +kernel
theorem dX12_shrinks_18 : decode cX12_shrinks 18 = .ok (.invokevirtual 67, 3) := by decide +kernel
theorem dX12_shrinks_21 : decode cX12_shrinks 21 = .ok (.iload_n 3, 1) := by decide +kernel
theorem dX12_shrinks_22 : decode cX12_shrinks 22 = .ok (.imul, 1) := by decide +kernel
theorem dX12_shrinks_23 : decode cX12_shrinks 23 = .ok (.bipush 100, 2) := by decide +kernel
theorem dX12_shrinks_25 : decode cX12_shrinks 25 = .ok (.idiv, 1) := by decide +kernel
theorem dX12_shrinks_26 : decode cX12_shrinks 26 = .ok (.isub, 1) := by decide +kernel
theorem dX12_shrinks_27 : decode cX12_shrinks 27 = .ok (.bipush 10, 2) := by decide +kernel
theorem dX12_shrinks_29 : decode cX12_shrinks 29 = .ok (.sipush 200, 3) := by decide +kernel
theorem dX12_shrinks_32 : decode cX12_shrinks 32 = .ok (.invokestatic 126, 3) := by decide +kernel
theorem dX12_shrinks_35 : decode cX12_shrinks 35 = .ok (.iastore, 1) := by decide +kernel
theorem dX12_shrinks_36 : decode cX12_shrinks 36 = .ok (.return_, 1) := by decide +kernel
theorem dX12_washed_0 : decode cX12_washed 0 = .ok (.aload_n 0, 1) := by decide +kernel
theorem dX12_washed_1 : decode cX12_washed 1 = .ok (.iload_n 1, 1) := by decide +kernel
theorem dX12_washed_2 : decode cX12_washed 2 = .ok (.invokevirtual 92, 3) := by decide +kernel
theorem dX12_washed_5 : decode cX12_washed 5 = .ok (.istore_n 2, 1) := by decide +kernel
theorem dX12_washed_6 : decode cX12_washed 6 = .ok (.aload_n 0, 1) := by decide +kernel
theorem dX12_washed_7 : decode cX12_washed 7 = .ok (.iload_n 1, 1) := by decide +kernel
theorem dX12_washed_8 : decode cX12_washed 8 = .ok (.invokevirtual 106, 3) := by decide +kernel
theorem dX12_washed_11 : decode cX12_washed 11 = .ok (.istore_n 3, 1) := by decide +kernel
theorem dX12_washed_12 : decode cX12_washed 12 = .ok (.aload_n 0, 1) := by decide +kernel
theorem dX12_washed_13 : decode cX12_washed 13 = .ok (.iload_n 1, 1) := by decide +kernel
theorem dX12_washed_14 : decode cX12_washed 14 = .ok (.iconst 1, 1) := by decide +kernel
theorem dX12_washed_15 : decode cX12_washed 15 = .ok (.iload_n 2, 1) := by decide +kernel
theorem dX12_washed_16 : decode cX12_washed 16 = .ok (.invokevirtual 130, 3) := by decide +kernel
theorem dX12_washed_19 : decode cX12_washed 19 = .ok (.aload_n 0, 1) := by decide +kernel
theorem dX12_washed_20 : decode cX12_washed 20 = .ok (.iload_n 1, 1) := by decide +kernel
theorem dX12_washed_21 : decode cX12_washed 21 = .ok (.iconst 2, 1) := by decide +kernel
theorem dX12_washed_22 : decode cX12_washed 22 = .ok (.iload_n 2, 1) := by decide +kernel
theorem dX12_washed_23 : decode cX12_washed 23 = .ok (.invokevirtual 130, 3) := by decide +kernel
theorem dX12_washed_26 : decode cX12_washed 26 = .ok (.aload_n 0, 1) := by decide +kernel
theorem dX12_washed_27 : decode cX12_washed 27 = .ok (.getfield 7, 3) := by decide +kernel
theorem dX12_washed_30 : decode cX12_washed 30 = .ok (.iload_n 1, 1) := by decide +kernel
theorem dX12_washed_31 : decode cX12_washed 31 = .ok (.iconst 3, 1) := by decide +kernel
theorem dX12_washed_32 : decode cX12_washed 32 = .ok (.invokestatic 42, 3) := by decide +kernel
theorem dX12_washed_35 : decode cX12_washed 35 = .ok (.aload_n 0, 1) := by decide +kernel
theorem dX12_washed_36 : decode cX12_washed 36 = .ok (.iload_n 1, 1) := by decide +kernel
theorem dX12_washed_37 : decode cX12_washed 37 = .ok (.iconst 3, 1) := by decide +kernel
theorem dX12_washed_38 : decode cX12_washed 38 = .ok (.invokevirtual 67, 3) := by decide +kernel
theorem dX12_washed_41 : decode cX12_washed 41 = .ok (.iload_n 3, 1) := by decide +kernel
theorem dX12_washed_42 : decode cX12_washed 42 = .ok (.iadd, 1) := by decide +kernel
theorem dX12_washed_43 : decode cX12_washed 43 = .ok (.iconst 1, 1) := by decide +kernel
theorem dX12_washed_44 : decode cX12_washed 44 = .ok (.bipush 99, 2) := by decide +kernel
theorem dX12_washed_46 : decode cX12_washed 46 = .ok (.invokestatic 126, 3) := by decide +kernel
theorem dX12_washed_49 : decode cX12_washed 49 = .ok (.iastore, 1) := by decide +kernel
theorem dX12_washed_50 : decode cX12_washed 50 = .ok (.aload_n 0, 1) := by decide +kernel
theorem dX12_washed_51 : decode cX12_washed 51 = .ok (.getfield 7, 3) := by decide +kernel
theorem dX12_washed_54 : decode cX12_washed 54 = .ok (.iload_n 1, 1) := by decide +kernel
theorem dX12_washed_55 : decode cX12_washed 55 = .ok (.iconst 4, 1) := by decide +kernel
theorem dX12_washed_56 : decode cX12_washed 56 = .ok (.invokestatic 42, 3) := by decide +kernel
theorem dX12_washed_59 : decode cX12_washed 59 = .ok (.iconst 3, 1) := by decide +kernel
theorem dX12_washed_60 : decode cX12_washed 60 = .ok (.iastore, 1) := by decide +kernel
theorem dX12_washed_61 : decode cX12_washed 61 = .ok (.aload_n 0, 1) := by decide +kernel
theorem dX12_washed_62 : decode cX12_washed 62 = .ok (.getfield 7, 3) := by decide +kernel
theorem dX12_washed_65 : decode cX12_washed 65 = .ok (.iload_n 1, 1) := by decide +kernel
theorem dX12_washed_66 : decode cX12_washed 66 = .ok (.iconst 5, 1) := by decide +kernel
theorem dX12_washed_67 : decode cX12_washed 67 = .ok (.invokestatic 42, 3) := by decide +kernel
theorem dX12_washed_70 : decode cX12_washed 70 = .ok (.iconst 0, 1) := by decide +kernel
theorem dX12_washed_71 : decode cX12_washed 71 = .ok (.iastore, 1) := by decide +kernel
theorem dX12_washed_72 : decode cX12_washed 72 = .ok (.aload_n 0, 1) := by decide +kernel
theorem dX12_washed_73 : decode cX12_washed 73 = .ok (.iload_n 1, 1) := by decide +kernel
theorem dX12_washed_74 : decode cX12_washed 74 = .ok (.iconst 1, 1) := by decide +kernel
theorem dX12_washed_75 : decode cX12_washed 75 = .ok (.invokevirtual 67, 3) := by decide +kernel
theorem dX12_washed_78 : decode cX12_washed 78 = .ok (.ireturn, 1) := by decide +kernel
theorem dX12_wash_0 : decode cX12_wash 0 = .ok (.aload_n 0, 1) := by decide +kernel
theorem dX12_wash_1 : decode cX12_wash 1 = .ok (.iload_n 1, 1) := by decide +kernel
theorem dX12_wash_2 : decode cX12_wash 2 = .ok (.invokevirtual 103, 3) := by decide +kernel
theorem dX12_wash_5 : decode cX12_wash 5 = .ok (.ifCond .eq 11, 3) := by decide +kernel
theorem dX12_wash_8 : decode cX12_wash 8 = .ok (.aload_n 0, 1) := by decide +kernel
theorem dX12_wash_9 : decode cX12_wash 9 = .ok (.iload_n 1, 1) := by decide +kernel
theorem dX12_wash_10 : decode cX12_wash 10 = .ok (.invokevirtual 134, 3) := by decide +kernel
theorem dX12_wash_13 : decode cX12_wash 13 = .ok (.goto 9, 3) := by decide +kernel
theorem dX12_wash_16 : decode cX12_wash 16 = .ok (.aload_n 0, 1) := by decide +kernel
theorem dX12_wash_17 : decode cX12_wash 17 = .ok (.ldc 41, 2) := by decide +kernel
theorem dX12_wash_19 : decode cX12_wash 19 = .ok (.invokevirtual 63, 3) := by decide +kernel
theorem dX12_wash_22 : decode cX12_wash 22 = .ok (.ireturn, 1) := by decide +kernel
theorem dX12_drawn_0 : decode cX12_drawn 0 = .ok (.aload_n 0, 1) := by decide +kernel
theorem dX12_drawn_1 : decode cX12_drawn 1 = .ok (.getfield 7, 3) := by decide +kernel
theorem dX12_drawn_4 : decode cX12_drawn 4 = .ok (.iload_n 1, 1) := by decide +kernel
theorem dX12_drawn_5 : decode cX12_drawn 5 = .ok (.iconst 1, 1) := by decide +kernel
theorem dX12_drawn_6 : decode cX12_drawn 6 = .ok (.invokestatic 42, 3) := by decide +kernel
theorem dX12_drawn_9 : decode cX12_drawn 9 = .ok (.aload_n 0, 1) := by decide +kernel
theorem dX12_drawn_10 : decode cX12_drawn 10 = .ok (.iload_n 1, 1) := by decide +kernel
theorem dX12_drawn_11 : decode cX12_drawn 11 = .ok (.iconst 1, 1) := by decide +kernel
theorem dX12_drawn_12 : decode cX12_drawn 12 = .ok (.invokevirtual 67, 3) := by decide +kernel
theorem dX12_drawn_15 : decode cX12_drawn 15 = .ok (.iload_n 2, 1) := by decide +kernel
theorem dX12_drawn_16 : decode cX12_drawn 16 = .ok (.iadd, 1) := by decide +kernel
theorem dX12_drawn_17 : decode cX12_drawn 17 = .ok (.bipush 10, 2) := by decide +kernel
theorem dX12_drawn_19 : decode cX12_drawn 19 = .ok (.sipush 200, 3) := by decide +kernel
theorem dX12_drawn_22 : decode cX12_drawn 22 = .ok (.invokestatic 126, 3) := by decide +kernel
theorem dX12_drawn_25 : decode cX12_drawn 25 = .ok (.iastore, 1) := by decide +kernel
theorem dX12_drawn_26 : decode cX12_drawn 26 = .ok (.aload_n 0, 1) := by decide +kernel
theorem dX12_drawn_27 : decode cX12_drawn 27 = .ok (.getfield 7, 3) := by decide +kernel
theorem dX12_drawn_30 : decode cX12_drawn 30 = .ok (.iload_n 1, 1) := by decide +kernel
theorem dX12_drawn_31 : decode cX12_drawn 31 = .ok (.iconst 2, 1) := by decide +kernel
theorem dX12_drawn_32 : decode cX12_drawn 32 = .ok (.invokestatic 42, 3) := by decide +kernel
theorem dX12_drawn_35 : decode cX12_drawn 35 = .ok (.aload_n 0, 1) := by decide +kernel
theorem dX12_drawn_36 : decode cX12_drawn 36 = .ok (.iload_n 1, 1) := by decide +kernel
theorem dX12_drawn_37 : decode cX12_drawn 37 = .ok (.iconst 2, 1) := by decide +kernel
theorem dX12_drawn_38 : decode cX12_drawn 38 = .ok (.invokevirtual 67, 3) := by decide +kernel
theorem dX12_drawn_41 : decode cX12_drawn 41 = .ok (.iload_n 2, 1) := by decide +kernel
theorem dX12_drawn_42 : decode cX12_drawn 42 = .ok (.iconst 2, 1) := by decide +kernel
theorem dX12_drawn_43 : decode cX12_drawn 43 = .ok (.idiv, 1) := by decide +kernel
theorem dX12_drawn_44 : decode cX12_drawn 44 = .ok (.isub, 1) := by decide +kernel
theorem dX12_drawn_45 : decode cX12_drawn 45 = .ok (.bipush 10, 2) := by decide +kernel
theorem dX12_drawn_47 : decode cX12_drawn 47 = .ok (.sipush 200, 3) := by decide +kernel
theorem dX12_drawn_50 : decode cX12_drawn 50 = .ok (.invokestatic 126, 3) := by decide +kernel
theorem dX12_drawn_53 : decode cX12_drawn 53 = .ok (.iastore, 1) := by decide +kernel
theorem dX12_drawn_54 : decode cX12_drawn 54 = .ok (.aload_n 0, 1) := by decide +kernel
theorem dX12_drawn_55 : decode cX12_drawn 55 = .ok (.getfield 7, 3) := by decide +kernel
theorem dX12_drawn_58 : decode cX12_drawn 58 = .ok (.iload_n 1, 1) := by decide +kernel
theorem dX12_drawn_59 : decode cX12_drawn 59 = .ok (.iconst 5, 1) := by decide +kernel
theorem dX12_drawn_60 : decode cX12_drawn 60 = .ok (.invokestatic 42, 3) := by decide +kernel
theorem dX12_drawn_63 : decode cX12_drawn 63 = .ok (.dup2, 1) := by decide +kernel
theorem dX12_drawn_64 : decode cX12_drawn 64 = .ok (.iaload, 1) := by decide +kernel
theorem dX12_drawn_65 : decode cX12_drawn 65 = .ok (.iload_n 2, 1) := by decide +kernel
theorem dX12_drawn_66 : decode cX12_drawn 66 = .ok (.iadd, 1) := by decide +kernel
theorem dX12_drawn_67 : decode cX12_drawn 67 = .ok (.iastore, 1) := by decide +kernel
theorem dX12_drawn_68 : decode cX12_drawn 68 = .ok (.aload_n 0, 1) := by decide +kernel
theorem dX12_drawn_69 : decode cX12_drawn 69 = .ok (.iload_n 1, 1) := by decide +kernel
theorem dX12_drawn_70 : decode cX12_drawn 70 = .ok (.iconst 5, 1) := by decide +kernel
theorem dX12_drawn_71 : decode cX12_drawn 71 = .ok (.invokevirtual 67, 3) := by decide +kernel
theorem dX12_drawn_74 : decode cX12_drawn 74 = .ok (.aload_n 0, 1) := by decide +kernel
theorem dX12_drawn_75 : decode cX12_drawn 75 = .ok (.iload_n 1, 1) := by decide +kernel
theorem dX12_drawn_76 : decode cX12_drawn 76 = .ok (.invokevirtual 109, 3) := by decide +kernel
theorem dX12_drawn_79 : decode cX12_drawn 79 = .ok (.if_icmp .le 7, 3) := by decide +kernel
theorem dX12_drawn_82 : decode cX12_drawn 82 = .ok (.iconst 1, 1) := by decide +kernel
theorem dX12_drawn_83 : decode cX12_drawn 83 = .ok (.goto 4, 3) := by decide +kernel
theorem dX12_drawn_86 : decode cX12_drawn 86 = .ok (.iconst 0, 1) := by decide +kernel
theorem dX12_drawn_87 : decode cX12_drawn 87 = .ok (.istore_n 3, 1) := by decide +kernel
theorem dX12_drawn_88 : decode cX12_drawn 88 = .ok (.aload_n 0, 1) := by decide +kernel
theorem dX12_drawn_89 : decode cX12_drawn 89 = .ok (.getfield 7, 3) := by decide +kernel
theorem dX12_drawn_92 : decode cX12_drawn 92 = .ok (.iload_n 1, 1) := by decide +kernel
theorem dX12_drawn_93 : decode cX12_drawn 93 = .ok (.bipush 6, 2) := by decide +kernel
theorem dX12_drawn_95 : decode cX12_drawn 95 = .ok (.invokestatic 42, 3) := by decide +kernel
theorem dX12_drawn_98 : decode cX12_drawn 98 = .ok (.aload_n 0, 1) := by decide +kernel
theorem dX12_drawn_99 : decode cX12_drawn 99 = .ok (.iload_n 1, 1) := by decide +kernel
theorem dX12_drawn_100 : decode cX12_drawn 100 = .ok (.bipush 6, 2) := by decide +kernel
theorem dX12_drawn_102 : decode cX12_drawn 102 = .ok (.invokevirtual 67, 3) := by decide +kernel
theorem dX12_drawn_105 : decode cX12_drawn 105 = .ok (.iload_n 3, 1) := by decide +kernel
theorem dX12_drawn_106 : decode cX12_drawn 106 = .ok (.ifCond .eq 7, 3) := by decide +kernel
theorem dX12_drawn_109 : decode cX12_drawn 109 = .ok (.iconst 1, 1) := by decide +kernel
theorem dX12_drawn_110 : decode cX12_drawn 110 = .ok (.goto 4, 3) := by decide +kernel
theorem dX12_drawn_113 : decode cX12_drawn 113 = .ok (.iconst 0, 1) := by decide +kernel
theorem dX12_drawn_114 : decode cX12_drawn 114 = .ok (.iadd, 1) := by decide +kernel
theorem dX12_drawn_115 : decode cX12_drawn 115 = .ok (.iconst 0, 1) := by decide +kernel
theorem dX12_drawn_116 : decode cX12_drawn 116 = .ok (.sipush 9999, 3) := by decide +kernel
theorem dX12_drawn_119 : decode cX12_drawn 119 = .ok (.invokestatic 126, 3) := by decide +kernel
theorem dX12_drawn_122 : decode cX12_drawn 122 = .ok (.iastore, 1) := by decide +kernel
theorem dX12_drawn_123 : decode cX12_drawn 123 = .ok (.aload_n 0, 1) := by decide +kernel
theorem dX12_drawn_124 : decode cX12_drawn 124 = .ok (.iload_n 1, 1) := by decide +kernel
theorem dX12_drawn_125 : decode cX12_drawn 125 = .ok (.iconst 1, 1) := by decide +kernel
theorem dX12_drawn_126 : decode cX12_drawn 126 = .ok (.invokevirtual 67, 3) := by decide +kernel
theorem dX12_drawn_129 : decode cX12_drawn 129 = .ok (.ireturn, 1) := by decide +kernel
theorem dX12_draw_0 : decode cX12_draw 0 = .ok (.aload_n 0, 1) := by decide +kernel
theorem dX12_draw_1 : decode cX12_draw 1 = .ok (.iload_n 1, 1) := by decide +kernel
theorem dX12_draw_2 : decode cX12_draw 2 = .ok (.invokevirtual 103, 3) := by decide +kernel
theorem dX12_draw_5 : decode cX12_draw 5 = .ok (.ifCond .eq 15, 3) := by decide +kernel
theorem dX12_draw_8 : decode cX12_draw 8 = .ok (.iload_n 2, 1) := by decide +kernel
theorem dX12_draw_9 : decode cX12_draw 9 = .ok (.i2l, 1) := by decide +kernel
theorem dX12_draw_10 : decode cX12_draw 10 = .ok (.lconst 1, 1) := by decide +kernel
theorem dX12_draw_11 : decode cX12_draw 11 = .ok (.ldc2_w 137, 3) := by decide +kernel
theorem dX12_draw_14 : decode cX12_draw 14 = .ok (.invokestatic 46, 3) := by decide +kernel
theorem dX12_draw_17 : decode cX12_draw 17 = .ok (.ifCond .ne 10, 3) := by decide +kernel
theorem dX12_draw_20 : decode cX12_draw 20 = .ok (.aload_n 0, 1) := by decide +kernel
theorem dX12_draw_21 : decode cX12_draw 21 = .ok (.ldc 41, 2) := by decide +kernel
theorem dX12_draw_23 : decode cX12_draw 23 = .ok (.invokevirtual 63, 3) := by decide +kernel
theorem dX12_draw_26 : decode cX12_draw 26 = .ok (.ireturn, 1) := by decide +kernel
theorem dX12_draw_27 : decode cX12_draw 27 = .ok (.aload_n 0, 1) := by decide +kernel
theorem dX12_draw_28 : decode cX12_draw 28 = .ok (.iload_n 1, 1) := by decide +kernel
theorem dX12_draw_29 : decode cX12_draw 29 = .ok (.iconst 4, 1) := by decide +kernel
theorem dX12_draw_30 : decode cX12_draw 30 = .ok (.invokevirtual 67, 3) := by decide +kernel
theorem dX12_draw_33 : decode cX12_draw 33 = .ok (.ifCond .ne 12, 3) := by decide +kernel
theorem dX12_draw_36 : decode cX12_draw 36 = .ok (.aload_n 0, 1) := by decide +kernel
theorem dX12_draw_37 : decode cX12_draw 37 = .ok (.ldc 139, 2) := by decide +kernel
theorem dX12_draw_39 : decode cX12_draw 39 = .ok (.invokevirtual 63, 3) := by decide +kernel
theorem dX12_draw_42 : decode cX12_draw 42 = .ok (.goto 9, 3) := by decide +kernel
theorem dX12_draw_45 : decode cX12_draw 45 = .ok (.aload_n 0, 1) := by decide +kernel
theorem dX12_draw_46 : decode cX12_draw 46 = .ok (.iload_n 1, 1) := by decide +kernel
theorem dX12_draw_47 : decode cX12_draw 47 = .ok (.iload_n 2, 1) := by decide +kernel
theorem dX12_draw_48 : decode cX12_draw 48 = .ok (.invokevirtual 140, 3) := by decide +kernel
theorem dX12_draw_51 : decode cX12_draw 51 = .ok (.ireturn, 1) := by decide +kernel
theorem dX12_turn_0 : decode cX12_turn 0 = .ok (.aload_n 0, 1) := by decide +kernel
theorem dX12_turn_1 : decode cX12_turn 1 = .ok (.iload_n 1, 1) := by decide +kernel
theorem dX12_turn_2 : decode cX12_turn 2 = .ok (.invokevirtual 103, 3) := by decide +kernel
theorem dX12_turn_5 : decode cX12_turn 5 = .ok (.ifCond .eq 23, 3) := by decide +kernel
theorem dX12_turn_8 : decode cX12_turn 8 = .ok (.iload_n 2, 1) := by decide +kernel
theorem dX12_turn_9 : decode cX12_turn 9 = .ok (.invokestatic 95, 3) := by decide +kernel
theorem dX12_turn_12 : decode cX12_turn 12 = .ok (.ifCond .eq 16, 3) := by decide +kernel
theorem dX12_turn_15 : decode cX12_turn 15 = .ok (.aload_n 0, 1) := by decide +kernel
theorem dX12_turn_16 : decode cX12_turn 16 = .ok (.iload_n 1, 1) := by decide +kernel
theorem dX12_turn_17 : decode cX12_turn 17 = .ok (.iconst 0, 1) := by decide +kernel
theorem dX12_turn_18 : decode cX12_turn 18 = .ok (.invokestatic 42, 3) := by decide +kernel
theorem dX12_turn_21 : decode cX12_turn 21 = .ok (.iload_n 2, 1) := by decide +kernel
theorem dX12_turn_22 : decode cX12_turn 22 = .ok (.invokevirtual 60, 3) := by decide +kernel
theorem dX12_turn_25 : decode cX12_turn 25 = .ok (.goto 9, 3) := by decide +kernel
theorem dX12_turn_28 : decode cX12_turn 28 = .ok (.aload_n 0, 1) := by decide +kernel
theorem dX12_turn_29 : decode cX12_turn 29 = .ok (.ldc 41, 2) := by decide +kernel
theorem dX12_turn_31 : decode cX12_turn 31 = .ok (.invokevirtual 63, 3) := by decide +kernel
theorem dX12_turn_34 : decode cX12_turn 34 = .ok (.ireturn, 1) := by decide +kernel
theorem dX12_isUnder_0 : decode cX12_isUnder 0 = .ok (.iload_n 1, 1) := by decide +kernel
theorem dX12_isUnder_1 : decode cX12_isUnder 1 = .ok (.ifCond .eq 28, 3) := by decide +kernel
theorem dX12_isUnder_4 : decode cX12_isUnder 4 = .ok (.iload_n 0, 1) := by decide +kernel
theorem dX12_isUnder_5 : decode cX12_isUnder 5 = .ok (.iload_n 1, 1) := by decide +kernel
theorem dX12_isUnder_6 : decode cX12_isUnder 6 = .ok (.if_icmp .eq 23, 3) := by decide +kernel
theorem dX12_isUnder_9 : decode cX12_isUnder 9 = .ok (.iload_n 0, 1) := by decide +kernel
theorem dX12_isUnder_10 : decode cX12_isUnder 10 = .ok (.iconst 4, 1) := by decide +kernel
theorem dX12_isUnder_11 : decode cX12_isUnder 11 = .ok (.if_icmp .ne 8, 3) := by decide +kernel
theorem dX12_isUnder_14 : decode cX12_isUnder 14 = .ok (.iload_n 1, 1) := by decide +kernel
theorem dX12_isUnder_15 : decode cX12_isUnder 15 = .ok (.iconst 1, 1) := by decide +kernel
theorem dX12_isUnder_16 : decode cX12_isUnder 16 = .ok (.if_icmp .eq 13, 3) := by decide +kernel
theorem dX12_isUnder_19 : decode cX12_isUnder 19 = .ok (.iload_n 0, 1) := by decide +kernel
theorem dX12_isUnder_20 : decode cX12_isUnder 20 = .ok (.iconst 5, 1) := by decide +kernel
theorem dX12_isUnder_21 : decode cX12_isUnder 21 = .ok (.if_icmp .ne 12, 3) := by decide +kernel
theorem dX12_isUnder_24 : decode cX12_isUnder 24 = .ok (.iload_n 1, 1) := by decide +kernel
theorem dX12_isUnder_25 : decode cX12_isUnder 25 = .ok (.iconst 2, 1) := by decide +kernel
theorem dX12_isUnder_26 : decode cX12_isUnder 26 = .ok (.if_icmp .ne 7, 3) := by decide +kernel
theorem dX12_isUnder_29 : decode cX12_isUnder 29 = .ok (.iconst 1, 1) := by decide +kernel
theorem dX12_isUnder_30 : decode cX12_isUnder 30 = .ok (.goto 4, 3) := by decide +kernel
theorem dX12_isUnder_33 : decode cX12_isUnder 33 = .ok (.iconst 0, 1) := by decide +kernel
theorem dX12_isUnder_34 : decode cX12_isUnder 34 = .ok (.ireturn, 1) := by decide +kernel
theorem dX12_as_0 : decode cX12_as 0 = .ok (.aload_n 0, 1) := by decide +kernel
theorem dX12_as_1 : decode cX12_as 1 = .ok (.iload_n 1, 1) := by decide +kernel
theorem dX12_as_2 : decode cX12_as 2 = .ok (.invokevirtual 103, 3) := by decide +kernel
theorem dX12_as_5 : decode cX12_as 5 = .ok (.ifCond .eq 10, 3) := by decide +kernel
theorem dX12_as_8 : decode cX12_as 8 = .ok (.iload_n 2, 1) := by decide +kernel
theorem dX12_as_9 : decode cX12_as 9 = .ok (.invokestatic 95, 3) := by decide +kernel
theorem dX12_as_12 : decode cX12_as 12 = .ok (.ifCond .ne 10, 3) := by decide +kernel
theorem dX12_as_15 : decode cX12_as 15 = .ok (.aload_n 0, 1) := by decide +kernel
theorem dX12_as_16 : decode cX12_as 16 = .ok (.ldc 41, 2) := by decide +kernel
theorem dX12_as_18 : decode cX12_as 18 = .ok (.invokevirtual 63, 3) := by decide +kernel
theorem dX12_as_21 : decode cX12_as 21 = .ok (.ireturn, 1) := by decide +kernel
theorem dX12_as_22 : decode cX12_as 22 = .ok (.aload_n 0, 1) := by decide +kernel
theorem dX12_as_23 : decode cX12_as 23 = .ok (.iload_n 1, 1) := by decide +kernel
theorem dX12_as_24 : decode cX12_as 24 = .ok (.iconst 0, 1) := by decide +kernel
theorem dX12_as_25 : decode cX12_as 25 = .ok (.invokevirtual 67, 3) := by decide +kernel
theorem dX12_as_28 : decode cX12_as 28 = .ok (.iload_n 2, 1) := by decide +kernel
theorem dX12_as_29 : decode cX12_as 29 = .ok (.invokestatic 143, 3) := by decide +kernel
theorem dX12_as_32 : decode cX12_as 32 = .ok (.ifCond .eq 12, 3) := by decide +kernel
theorem dX12_as_35 : decode cX12_as 35 = .ok (.aload_n 0, 1) := by decide +kernel
theorem dX12_as_36 : decode cX12_as 36 = .ok (.iload_n 1, 1) := by decide +kernel
theorem dX12_as_37 : decode cX12_as 37 = .ok (.iconst 3, 1) := by decide +kernel
theorem dX12_as_38 : decode cX12_as 38 = .ok (.invokevirtual 67, 3) := by decide +kernel
theorem dX12_as_41 : decode cX12_as 41 = .ok (.goto 9, 3) := by decide +kernel
theorem dX12_as_44 : decode cX12_as 44 = .ok (.aload_n 0, 1) := by decide +kernel
theorem dX12_as_45 : decode cX12_as 45 = .ok (.ldc 146, 2) := by decide +kernel
theorem dX12_as_47 : decode cX12_as 47 = .ok (.invokevirtual 63, 3) := by decide +kernel
theorem dX12_as_50 : decode cX12_as 50 = .ok (.ireturn, 1) := by decide +kernel
theorem dX12_addsPerson_0 : decode cX12_addsPerson 0 = .ok (.aload_n 0, 1) := by decide +kernel
theorem dX12_addsPerson_1 : decode cX12_addsPerson 1 = .ok (.getfield 7, 3) := by decide +kernel
theorem dX12_addsPerson_4 : decode cX12_addsPerson 4 = .ok (.iconst 2, 1) := by decide +kernel
theorem dX12_addsPerson_5 : decode cX12_addsPerson 5 = .ok (.iaload, 1) := by decide +kernel
theorem dX12_addsPerson_6 : decode cX12_addsPerson 6 = .ok (.istore_n 3, 1) := by decide +kernel
theorem dX12_addsPerson_7 : decode cX12_addsPerson 7 = .ok (.aload_n 0, 1) := by decide +kernel
theorem dX12_addsPerson_8 : decode cX12_addsPerson 8 = .ok (.getfield 7, 3) := by decide +kernel
theorem dX12_addsPerson_11 : decode cX12_addsPerson 11 = .ok (.iconst 2, 1) := by decide +kernel
theorem dX12_addsPerson_12 : decode cX12_addsPerson 12 = .ok (.dup2, 1) := by decide +kernel
theorem dX12_addsPerson_13 : decode cX12_addsPerson 13 = .ok (.iaload, 1) := by decide +kernel
theorem dX12_addsPerson_14 : decode cX12_addsPerson 14 = .ok (.iconst 1, 1) := by decide +kernel
theorem dX12_addsPerson_15 : decode cX12_addsPerson 15 = .ok (.iadd, 1) := by decide +kernel
theorem dX12_addsPerson_16 : decode cX12_addsPerson 16 = .ok (.iastore, 1) := by decide +kernel
theorem dX12_addsPerson_17 : decode cX12_addsPerson 17 = .ok (.aload_n 0, 1) := by decide +kernel
theorem dX12_addsPerson_18 : decode cX12_addsPerson 18 = .ok (.getfield 7, 3) := by decide +kernel
theorem dX12_addsPerson_21 : decode cX12_addsPerson 21 = .ok (.bipush 61, 2) := by decide +kernel
theorem dX12_addsPerson_23 : decode cX12_addsPerson 23 = .ok (.iconst 2, 1) := by decide +kernel
theorem dX12_addsPerson_24 : decode cX12_addsPerson 24 = .ok (.iload_n 3, 1) := by decide +kernel
theorem dX12_addsPerson_25 : decode cX12_addsPerson 25 = .ok (.imul, 1) := by decide +kernel
theorem dX12_addsPerson_26 : decode cX12_addsPerson 26 = .ok (.iadd, 1) := by decide +kernel
theorem dX12_addsPerson_27 : decode cX12_addsPerson 27 = .ok (.iload_n 1, 1) := by decide +kernel
theorem dX12_addsPerson_28 : decode cX12_addsPerson 28 = .ok (.iastore, 1) := by decide +kernel
theorem dX12_addsPerson_29 : decode cX12_addsPerson 29 = .ok (.aload_n 0, 1) := by decide +kernel
theorem dX12_addsPerson_30 : decode cX12_addsPerson 30 = .ok (.getfield 7, 3) := by decide +kernel
theorem dX12_addsPerson_33 : decode cX12_addsPerson 33 = .ok (.bipush 61, 2) := by decide +kernel
theorem dX12_addsPerson_35 : decode cX12_addsPerson 35 = .ok (.iconst 2, 1) := by decide +kernel
theorem dX12_addsPerson_36 : decode cX12_addsPerson 36 = .ok (.iload_n 3, 1) := by decide +kernel
theorem dX12_addsPerson_37 : decode cX12_addsPerson 37 = .ok (.imul, 1) := by decide +kernel
theorem dX12_addsPerson_38 : decode cX12_addsPerson 38 = .ok (.iadd, 1) := by decide +kernel
theorem dX12_addsPerson_39 : decode cX12_addsPerson 39 = .ok (.iconst 1, 1) := by decide +kernel
theorem dX12_addsPerson_40 : decode cX12_addsPerson 40 = .ok (.iadd, 1) := by decide +kernel
theorem dX12_addsPerson_41 : decode cX12_addsPerson 41 = .ok (.iload_n 2, 1) := by decide +kernel
theorem dX12_addsPerson_42 : decode cX12_addsPerson 42 = .ok (.iastore, 1) := by decide +kernel
theorem dX12_addsPerson_43 : decode cX12_addsPerson 43 = .ok (.iload_n 3, 1) := by decide +kernel
theorem dX12_addsPerson_44 : decode cX12_addsPerson 44 = .ok (.ireturn, 1) := by decide +kernel
theorem dX12_person_0 : decode cX12_person 0 = .ok (.iload_n 1, 1) := by decide +kernel
theorem dX12_person_1 : decode cX12_person 1 = .ok (.i2l, 1) := by decide +kernel
theorem dX12_person_2 : decode cX12_person 2 = .ok (.invokestatic 115, 3) := by decide +kernel
theorem dX12_person_5 : decode cX12_person 5 = .ok (.ifCond .eq 11, 3) := by decide +kernel
theorem dX12_person_8 : decode cX12_person 8 = .ok (.iload_n 2, 1) := by decide +kernel
theorem dX12_person_9 : decode cX12_person 9 = .ok (.i2l, 1) := by decide +kernel
theorem dX12_person_10 : decode cX12_person 10 = .ok (.invokestatic 115, 3) := by decide +kernel
theorem dX12_person_13 : decode cX12_person 13 = .ok (.ifCond .ne 10, 3) := by decide +kernel
theorem dX12_person_16 : decode cX12_person 16 = .ok (.aload_n 0, 1) := by decide +kernel
theorem dX12_person_17 : decode cX12_person 17 = .ok (.ldc 41, 2) := by decide +kernel
theorem dX12_person_19 : decode cX12_person 19 = .ok (.invokevirtual 63, 3) := by decide +kernel
theorem dX12_person_22 : decode cX12_person 22 = .ok (.ireturn, 1) := by decide +kernel
theorem dX12_person_23 : decode cX12_person 23 = .ok (.aload_n 0, 1) := by decide +kernel
theorem dX12_person_24 : decode cX12_person 24 = .ok (.getfield 7, 3) := by decide +kernel
theorem dX12_person_27 : decode cX12_person 27 = .ok (.iconst 2, 1) := by decide +kernel
theorem dX12_person_28 : decode cX12_person 28 = .ok (.iaload, 1) := by decide +kernel
theorem dX12_person_29 : decode cX12_person 29 = .ok (.bipush 6, 2) := by decide +kernel
theorem dX12_person_31 : decode cX12_person 31 = .ok (.if_icmp .ne 12, 3) := by decide +kernel
theorem dX12_person_34 : decode cX12_person 34 = .ok (.aload_n 0, 1) := by decide +kernel
theorem dX12_person_35 : decode cX12_person 35 = .ok (.ldc 99, 2) := by decide +kernel
theorem dX12_person_37 : decode cX12_person 37 = .ok (.invokevirtual 63, 3) := by decide +kernel
theorem dX12_person_40 : decode cX12_person 40 = .ok (.goto 9, 3) := by decide +kernel
theorem dX12_person_43 : decode cX12_person 43 = .ok (.aload_n 0, 1) := by decide +kernel
theorem dX12_person_44 : decode cX12_person 44 = .ok (.iload_n 1, 1) := by decide +kernel
theorem dX12_person_45 : decode cX12_person 45 = .ok (.iload_n 2, 1) := by decide +kernel
theorem dX12_person_46 : decode cX12_person 46 = .ok (.invokevirtual 147, 3) := by decide +kernel
theorem dX12_person_49 : decode cX12_person 49 = .ok (.ireturn, 1) := by decide +kernel
theorem dX12_size_0 : decode cX12_size 0 = .ok (.aload_n 0, 1) := by decide +kernel
theorem dX12_size_1 : decode cX12_size 1 = .ok (.iload_n 1, 1) := by decide +kernel
theorem dX12_size_2 : decode cX12_size 2 = .ok (.invokevirtual 150, 3) := by decide +kernel
theorem dX12_size_5 : decode cX12_size 5 = .ok (.ifCond .eq 22, 3) := by decide +kernel
theorem dX12_size_8 : decode cX12_size 8 = .ok (.iload_n 2, 1) := by decide +kernel
theorem dX12_size_9 : decode cX12_size 9 = .ok (.i2l, 1) := by decide +kernel
theorem dX12_size_10 : decode cX12_size 10 = .ok (.lconst 0, 1) := by decide +kernel
theorem dX12_size_11 : decode cX12_size 11 = .ok (.lconst 1, 1) := by decide +kernel
theorem dX12_size_12 : decode cX12_size 12 = .ok (.invokestatic 46, 3) := by decide +kernel
theorem dX12_size_15 : decode cX12_size 15 = .ok (.ifCond .eq 12, 3) := by decide +kernel
theorem dX12_size_18 : decode cX12_size 18 = .ok (.aload_n 0, 1) := by decide +kernel
theorem dX12_size_19 : decode cX12_size 19 = .ok (.iload_n 1, 1) := by decide +kernel
theorem dX12_size_20 : decode cX12_size 20 = .ok (.iload_n 2, 1) := by decide +kernel
theorem dX12_size_21 : decode cX12_size 21 = .ok (.invokevirtual 70, 3) := by decide +kernel
theorem dX12_size_24 : decode cX12_size 24 = .ok (.goto 9, 3) := by decide +kernel
theorem dX12_size_27 : decode cX12_size 27 = .ok (.aload_n 0, 1) := by decide +kernel
theorem dX12_size_28 : decode cX12_size 28 = .ok (.ldc 41, 2) := by decide +kernel
theorem dX12_size_30 : decode cX12_size 30 = .ok (.invokevirtual 63, 3) := by decide +kernel
theorem dX12_size_33 : decode cX12_size 33 = .ok (.ireturn, 1) := by decide +kernel
theorem dX12_fits_0 : decode cX12_fits 0 = .ok (.aload_n 0, 1) := by decide +kernel
theorem dX12_fits_1 : decode cX12_fits 1 = .ok (.iload_n 1, 1) := by decide +kernel
theorem dX12_fits_2 : decode cX12_fits 2 = .ok (.invokevirtual 150, 3) := by decide +kernel
theorem dX12_fits_5 : decode cX12_fits 5 = .ok (.ifCond .eq 11, 3) := by decide +kernel
theorem dX12_fits_8 : decode cX12_fits 8 = .ok (.aload_n 0, 1) := by decide +kernel
theorem dX12_fits_9 : decode cX12_fits 9 = .ok (.iload_n 1, 1) := by decide +kernel
theorem dX12_fits_10 : decode cX12_fits 10 = .ok (.invokevirtual 79, 3) := by decide +kernel
theorem dX12_fits_13 : decode cX12_fits 13 = .ok (.goto 9, 3) := by decide +kernel
theorem dX12_fits_16 : decode cX12_fits 16 = .ok (.aload_n 0, 1) := by decide +kernel
theorem dX12_fits_17 : decode cX12_fits 17 = .ok (.ldc 41, 2) := by decide +kernel
theorem dX12_fits_19 : decode cX12_fits 19 = .ok (.invokevirtual 63, 3) := by decide +kernel
theorem dX12_fits_22 : decode cX12_fits 22 = .ok (.ireturn, 1) := by decide +kernel
theorem dX12_dries_0 : decode cX12_dries 0 = .ok (.aload_n 0, 1) := by decide +kernel
theorem dX12_dries_1 : decode cX12_dries 1 = .ok (.getfield 7, 3) := by decide +kernel
theorem dX12_dries_4 : decode cX12_dries 4 = .ok (.iload_n 1, 1) := by decide +kernel
theorem dX12_dries_5 : decode cX12_dries 5 = .ok (.iconst 4, 1) := by decide +kernel
theorem dX12_dries_6 : decode cX12_dries 6 = .ok (.invokestatic 42, 3) := by decide +kernel
theorem dX12_dries_9 : decode cX12_dries 9 = .ok (.dup2, 1) := by decide +kernel
theorem dX12_dries_10 : decode cX12_dries 10 = .ok (.iaload, 1) := by decide +kernel
theorem dX12_dries_11 : decode cX12_dries 11 = .ok (.iconst 1, 1) := by decide +kernel
theorem dX12_dries_12 : decode cX12_dries 12 = .ok (.isub, 1) := by decide +kernel
theorem dX12_dries_13 : decode cX12_dries 13 = .ok (.iastore, 1) := by decide +kernel
theorem dX12_dries_14 : decode cX12_dries 14 = .ok (.aload_n 0, 1) := by decide +kernel
theorem dX12_dries_15 : decode cX12_dries 15 = .ok (.iload_n 1, 1) := by decide +kernel
theorem dX12_dries_16 : decode cX12_dries 16 = .ok (.iconst 4, 1) := by decide +kernel
theorem dX12_dries_17 : decode cX12_dries 17 = .ok (.invokevirtual 67, 3) := by decide +kernel
theorem dX12_dries_20 : decode cX12_dries 20 = .ok (.ifCond .ne 59, 3) := by decide +kernel
theorem dX12_dries_23 : decode cX12_dries 23 = .ok (.aload_n 0, 1) := by decide +kernel
theorem dX12_dries_24 : decode cX12_dries 24 = .ok (.iload_n 1, 1) := by decide +kernel
theorem dX12_dries_25 : decode cX12_dries 25 = .ok (.iconst 5, 1) := by decide +kernel
theorem dX12_dries_26 : decode cX12_dries 26 = .ok (.invokevirtual 67, 3) := by decide +kernel
theorem dX12_dries_29 : decode cX12_dries 29 = .ok (.bipush 100, 2) := by decide +kernel
theorem dX12_dries_31 : decode cX12_dries 31 = .ok (.aload_n 0, 1) := by decide +kernel
theorem dX12_dries_32 : decode cX12_dries 32 = .ok (.iload_n 1, 1) := by decide +kernel
theorem dX12_dries_33 : decode cX12_dries 33 = .ok (.invokevirtual 112, 3) := by decide +kernel
theorem dX12_dries_36 : decode cX12_dries 36 = .ok (.isub, 1) := by decide +kernel
theorem dX12_dries_37 : decode cX12_dries 37 = .ok (.imul, 1) := by decide +kernel
theorem dX12_dries_38 : decode cX12_dries 38 = .ok (.bipush 100, 2) := by decide +kernel
theorem dX12_dries_40 : decode cX12_dries 40 = .ok (.idiv, 1) := by decide +kernel
theorem dX12_dries_41 : decode cX12_dries 41 = .ok (.istore_n 2, 1) := by decide +kernel
theorem dX12_dries_42 : decode cX12_dries 42 = .ok (.aload_n 0, 1) := by decide +kernel
theorem dX12_dries_43 : decode cX12_dries 43 = .ok (.getfield 7, 3) := by decide +kernel
theorem dX12_dries_46 : decode cX12_dries 46 = .ok (.iload_n 1, 1) := by decide +kernel
theorem dX12_dries_47 : decode cX12_dries 47 = .ok (.iconst 1, 1) := by decide +kernel
theorem dX12_dries_48 : decode cX12_dries 48 = .ok (.invokestatic 42, 3) := by decide +kernel
theorem dX12_dries_51 : decode cX12_dries 51 = .ok (.aload_n 0, 1) := by decide +kernel
theorem dX12_dries_52 : decode cX12_dries 52 = .ok (.iload_n 1, 1) := by decide +kernel
theorem dX12_dries_53 : decode cX12_dries 53 = .ok (.iconst 1, 1) := by decide +kernel
theorem dX12_dries_54 : decode cX12_dries 54 = .ok (.invokevirtual 67, 3) := by decide +kernel
theorem dX12_dries_57 : decode cX12_dries 57 = .ok (.iload_n 2, 1) := by decide +kernel
theorem dX12_dries_58 : decode cX12_dries 58 = .ok (.isub, 1) := by decide +kernel
theorem dX12_dries_59 : decode cX12_dries 59 = .ok (.bipush 10, 2) := by decide +kernel
theorem dX12_dries_61 : decode cX12_dries 61 = .ok (.sipush 200, 3) := by decide +kernel
theorem dX12_dries_64 : decode cX12_dries 64 = .ok (.invokestatic 126, 3) := by decide +kernel
theorem dX12_dries_67 : decode cX12_dries 67 = .ok (.iastore, 1) := by decide +kernel
theorem dX12_dries_68 : decode cX12_dries 68 = .ok (.aload_n 0, 1) := by decide +kernel
theorem dX12_dries_69 : decode cX12_dries 69 = .ok (.getfield 7, 3) := by decide +kernel
theorem dX12_dries_72 : decode cX12_dries 72 = .ok (.iload_n 1, 1) := by decide +kernel
theorem dX12_dries_73 : decode cX12_dries 73 = .ok (.iconst 5, 1) := by decide +kernel
theorem dX12_dries_74 : decode cX12_dries 74 = .ok (.invokestatic 42, 3) := by decide +kernel
theorem dX12_dries_77 : decode cX12_dries 77 = .ok (.iconst 0, 1) := by decide +kernel
theorem dX12_dries_78 : decode cX12_dries 78 = .ok (.iastore, 1) := by decide +kernel
theorem dX12_dries_79 : decode cX12_dries 79 = .ok (.return_, 1) := by decide +kernel
theorem dX12_daysGo_0 : decode cX12_daysGo 0 = .ok (.iconst 0, 1) := by decide +kernel
theorem dX12_daysGo_1 : decode cX12_daysGo 1 = .ok (.istore_n 2, 1) := by decide +kernel
theorem dX12_daysGo_2 : decode cX12_daysGo 2 = .ok (.iload_n 2, 1) := by decide +kernel
theorem dX12_daysGo_3 : decode cX12_daysGo 3 = .ok (.iload_n 1, 1) := by decide +kernel
theorem dX12_daysGo_4 : decode cX12_daysGo 4 = .ok (.if_icmp .ge 51, 3) := by decide +kernel
theorem dX12_daysGo_7 : decode cX12_daysGo 7 = .ok (.iconst 0, 1) := by decide +kernel
theorem dX12_daysGo_8 : decode cX12_daysGo 8 = .ok (.istore_n 3, 1) := by decide +kernel
theorem dX12_daysGo_9 : decode cX12_daysGo 9 = .ok (.iload_n 3, 1) := by decide +kernel
theorem dX12_daysGo_10 : decode cX12_daysGo 10 = .ok (.aload_n 0, 1) := by decide +kernel
theorem dX12_daysGo_11 : decode cX12_daysGo 11 = .ok (.getfield 7, 3) := by decide +kernel
theorem dX12_daysGo_14 : decode cX12_daysGo 14 = .ok (.iconst 1, 1) := by decide +kernel
theorem dX12_daysGo_15 : decode cX12_daysGo 15 = .ok (.iaload, 1) := by decide +kernel
theorem dX12_daysGo_16 : decode cX12_daysGo 16 = .ok (.if_icmp .ge 23, 3) := by decide +kernel
theorem dX12_daysGo_19 : decode cX12_daysGo 19 = .ok (.aload_n 0, 1) := by decide +kernel
theorem dX12_daysGo_20 : decode cX12_daysGo 20 = .ok (.iload_n 3, 1) := by decide +kernel
theorem dX12_daysGo_21 : decode cX12_daysGo 21 = .ok (.iconst 4, 1) := by decide +kernel
theorem dX12_daysGo_22 : decode cX12_daysGo 22 = .ok (.invokevirtual 67, 3) := by decide +kernel
theorem dX12_daysGo_25 : decode cX12_daysGo 25 = .ok (.ifCond .le 8, 3) := by decide +kernel
theorem dX12_daysGo_28 : decode cX12_daysGo 28 = .ok (.aload_n 0, 1) := by decide +kernel
theorem dX12_daysGo_29 : decode cX12_daysGo 29 = .ok (.iload_n 3, 1) := by decide +kernel
theorem dX12_daysGo_30 : decode cX12_daysGo 30 = .ok (.invokevirtual 153, 3) := by decide +kernel
theorem dX12_daysGo_33 : decode cX12_daysGo 33 = .ok (.iinc 3 1, 3) := by decide +kernel
theorem dX12_daysGo_36 : decode cX12_daysGo 36 = .ok (.goto (-27), 3) := by decide +kernel
theorem dX12_daysGo_39 : decode cX12_daysGo 39 = .ok (.aload_n 0, 1) := by decide +kernel
theorem dX12_daysGo_40 : decode cX12_daysGo 40 = .ok (.getfield 7, 3) := by decide +kernel
theorem dX12_daysGo_43 : decode cX12_daysGo 43 = .ok (.iconst 0, 1) := by decide +kernel
theorem dX12_daysGo_44 : decode cX12_daysGo 44 = .ok (.dup2, 1) := by decide +kernel
theorem dX12_daysGo_45 : decode cX12_daysGo 45 = .ok (.iaload, 1) := by decide +kernel
theorem dX12_daysGo_46 : decode cX12_daysGo 46 = .ok (.iconst 1, 1) := by decide +kernel
theorem dX12_daysGo_47 : decode cX12_daysGo 47 = .ok (.iadd, 1) := by decide +kernel
theorem dX12_daysGo_48 : decode cX12_daysGo 48 = .ok (.iastore, 1) := by decide +kernel
theorem dX12_daysGo_49 : decode cX12_daysGo 49 = .ok (.iinc 2 1, 3) := by decide +kernel
theorem dX12_daysGo_52 : decode cX12_daysGo 52 = .ok (.goto (-50), 3) := by decide +kernel
theorem dX12_daysGo_55 : decode cX12_daysGo 55 = .ok (.return_, 1) := by decide +kernel
theorem dX12_days_0 : decode cX12_days 0 = .ok (.iload_n 1, 1) := by decide +kernel
theorem dX12_days_1 : decode cX12_days 1 = .ok (.i2l, 1) := by decide +kernel
theorem dX12_days_2 : decode cX12_days 2 = .ok (.lconst 1, 1) := by decide +kernel
theorem dX12_days_3 : decode cX12_days 3 = .ok (.ldc2_w 157, 3) := by decide +kernel
theorem dX12_days_6 : decode cX12_days 6 = .ok (.invokestatic 46, 3) := by decide +kernel
theorem dX12_days_9 : decode cX12_days 9 = .ok (.ifCond .ne 10, 3) := by decide +kernel
theorem dX12_days_12 : decode cX12_days 12 = .ok (.aload_n 0, 1) := by decide +kernel
theorem dX12_days_13 : decode cX12_days 13 = .ok (.ldc 41, 2) := by decide +kernel
theorem dX12_days_15 : decode cX12_days 15 = .ok (.invokevirtual 63, 3) := by decide +kernel
theorem dX12_days_18 : decode cX12_days 18 = .ok (.ireturn, 1) := by decide +kernel
theorem dX12_days_19 : decode cX12_days 19 = .ok (.aload_n 0, 1) := by decide +kernel
theorem dX12_days_20 : decode cX12_days 20 = .ok (.getfield 7, 3) := by decide +kernel
theorem dX12_days_23 : decode cX12_days 23 = .ok (.iconst 0, 1) := by decide +kernel
theorem dX12_days_24 : decode cX12_days 24 = .ok (.iaload, 1) := by decide +kernel
theorem dX12_days_25 : decode cX12_days 25 = .ok (.iload_n 1, 1) := by decide +kernel
theorem dX12_days_26 : decode cX12_days 26 = .ok (.iadd, 1) := by decide +kernel
theorem dX12_days_27 : decode cX12_days 27 = .ok (.ldc 159, 2) := by decide +kernel
theorem dX12_days_29 : decode cX12_days 29 = .ok (.if_icmp .le 10, 3) := by decide +kernel
theorem dX12_days_32 : decode cX12_days 32 = .ok (.aload_n 0, 1) := by decide +kernel
theorem dX12_days_33 : decode cX12_days 33 = .ok (.ldc 139, 2) := by decide +kernel
theorem dX12_days_35 : decode cX12_days 35 = .ok (.invokevirtual 63, 3) := by decide +kernel
theorem dX12_days_38 : decode cX12_days 38 = .ok (.ireturn, 1) := by decide +kernel
theorem dX12_days_39 : decode cX12_days 39 = .ok (.aload_n 0, 1) := by decide +kernel
theorem dX12_days_40 : decode cX12_days 40 = .ok (.iload_n 1, 1) := by decide +kernel
theorem dX12_days_41 : decode cX12_days 41 = .ok (.invokevirtual 160, 3) := by decide +kernel
theorem dX12_days_44 : decode cX12_days 44 = .ok (.aload_n 0, 1) := by decide +kernel
theorem dX12_days_45 : decode cX12_days 45 = .ok (.invokevirtual 82, 3) := by decide +kernel
theorem dX12_days_48 : decode cX12_days 48 = .ok (.ireturn, 1) := by decide +kernel
theorem dX12_isAhead_0 : decode cX12_isAhead 0 = .ok (.iload_n 0, 1) := by decide +kernel
theorem dX12_isAhead_1 : decode cX12_isAhead 1 = .ok (.i2l, 1) := by decide +kernel
theorem dX12_isAhead_2 : decode cX12_isAhead 2 = .ok (.lconst 0, 1) := by decide +kernel
theorem dX12_isAhead_3 : decode cX12_isAhead 3 = .ok (.ldc2_w 157, 3) := by decide +kernel
theorem dX12_isAhead_6 : decode cX12_isAhead 6 = .ok (.invokestatic 46, 3) := by decide +kernel
theorem dX12_isAhead_9 : decode cX12_isAhead 9 = .ok (.ireturn, 1) := by decide +kernel
theorem dX12_on_0 : decode cX12_on 0 = .ok (.aload_n 0, 1) := by decide +kernel
theorem dX12_on_1 : decode cX12_on 1 = .ok (.iload_n 1, 1) := by decide +kernel
theorem dX12_on_2 : decode cX12_on 2 = .ok (.invokevirtual 103, 3) := by decide +kernel
theorem dX12_on_5 : decode cX12_on 5 = .ok (.ifCond .eq 22, 3) := by decide +kernel
theorem dX12_on_8 : decode cX12_on 8 = .ok (.iload_n 2, 1) := by decide +kernel
theorem dX12_on_9 : decode cX12_on 9 = .ok (.invokestatic 163, 3) := by decide +kernel
theorem dX12_on_12 : decode cX12_on 12 = .ok (.ifCond .eq 15, 3) := by decide +kernel
theorem dX12_on_15 : decode cX12_on 15 = .ok (.iload_n 3, 1) := by decide +kernel
theorem dX12_on_16 : decode cX12_on 16 = .ok (.i2l, 1) := by decide +kernel
theorem dX12_on_17 : decode cX12_on 17 = .ok (.lconst 0, 1) := by decide +kernel
theorem dX12_on_18 : decode cX12_on 18 = .ok (.ldc2_w 166, 3) := by decide +kernel
theorem dX12_on_21 : decode cX12_on 21 = .ok (.invokestatic 46, 3) := by decide +kernel
theorem dX12_on_24 : decode cX12_on 24 = .ok (.ifCond .ne 10, 3) := by decide +kernel
theorem dX12_on_27 : decode cX12_on 27 = .ok (.aload_n 0, 1) := by decide +kernel
theorem dX12_on_28 : decode cX12_on 28 = .ok (.ldc 41, 2) := by decide +kernel
theorem dX12_on_30 : decode cX12_on 30 = .ok (.invokevirtual 63, 3) := by decide +kernel
theorem dX12_on_33 : decode cX12_on 33 = .ok (.ireturn, 1) := by decide +kernel
theorem dX12_on_34 : decode cX12_on 34 = .ok (.aload_n 0, 1) := by decide +kernel
theorem dX12_on_35 : decode cX12_on 35 = .ok (.invokevirtual 168, 3) := by decide +kernel
theorem dX12_on_38 : decode cX12_on 38 = .ok (.aload_n 0, 1) := by decide +kernel
theorem dX12_on_39 : decode cX12_on 39 = .ok (.iload_n 2, 1) := by decide +kernel
theorem dX12_on_40 : decode cX12_on 40 = .ok (.invokevirtual 160, 3) := by decide +kernel
theorem dX12_on_43 : decode cX12_on 43 = .ok (.aload_n 0, 1) := by decide +kernel
theorem dX12_on_44 : decode cX12_on 44 = .ok (.aload_n 0, 1) := by decide +kernel
theorem dX12_on_45 : decode cX12_on 45 = .ok (.iload_n 1, 1) := by decide +kernel
theorem dX12_on_46 : decode cX12_on 46 = .ok (.iload_n 3, 1) := by decide +kernel
theorem dX12_on_47 : decode cX12_on 47 = .ok (.ifCond .ne 7, 3) := by decide +kernel
theorem dX12_on_50 : decode cX12_on 50 = .ok (.iconst 1, 1) := by decide +kernel
theorem dX12_on_51 : decode cX12_on 51 = .ok (.goto 13, 3) := by decide +kernel
theorem dX12_on_54 : decode cX12_on 54 = .ok (.iload_n 3, 1) := by decide +kernel
theorem dX12_on_55 : decode cX12_on 55 = .ok (.iconst 1, 1) := by decide +kernel
theorem dX12_on_56 : decode cX12_on 56 = .ok (.if_icmp .ne 7, 3) := by decide +kernel
theorem dX12_on_59 : decode cX12_on 59 = .ok (.iconst 2, 1) := by decide +kernel
theorem dX12_on_60 : decode cX12_on 60 = .ok (.goto 4, 3) := by decide +kernel
theorem dX12_on_63 : decode cX12_on 63 = .ok (.iconst 4, 1) := by decide +kernel
theorem dX12_on_64 : decode cX12_on 64 = .ok (.invokevirtual 67, 3) := by decide +kernel
theorem dX12_on_67 : decode cX12_on 67 = .ok (.invokevirtual 171, 3) := by decide +kernel
theorem dX12_on_70 : decode cX12_on 70 = .ok (.ireturn, 1) := by decide +kernel
theorem dX12_isWashed_0 : decode cX12_isWashed 0 = .ok (.iconst 0, 1) := by decide +kernel
theorem dX12_isWashed_1 : decode cX12_isWashed 1 = .ok (.istore_n 3, 1) := by decide +kernel
theorem dX12_isWashed_2 : decode cX12_isWashed 2 = .ok (.iload_n 3, 1) := by decide +kernel
theorem dX12_isWashed_3 : decode cX12_isWashed 3 = .ok (.iload_n 2, 1) := by decide +kernel
theorem dX12_isWashed_4 : decode cX12_isWashed 4 = .ok (.if_icmp .ge 15, 3) := by decide +kernel
theorem dX12_isWashed_7 : decode cX12_isWashed 7 = .ok (.aload_n 0, 1) := by decide +kernel
theorem dX12_isWashed_8 : decode cX12_isWashed 8 = .ok (.iload_n 1, 1) := by decide +kernel
theorem dX12_isWashed_9 : decode cX12_isWashed 9 = .ok (.invokevirtual 134, 3) := by decide +kernel
theorem dX12_isWashed_12 : decode cX12_isWashed 12 = .ok (.pop, 1) := by decide +kernel
theorem dX12_isWashed_13 : decode cX12_isWashed 13 = .ok (.iinc 3 1, 3) := by decide +kernel
theorem dX12_isWashed_16 : decode cX12_isWashed 16 = .ok (.goto (-14), 3) := by decide +kernel
theorem dX12_isWashed_19 : decode cX12_isWashed 19 = .ok (.return_, 1) := by decide +kernel
theorem dX12_washedTo_0 : decode cX12_washedTo 0 = .ok (.aload_n 0, 1) := by decide +kernel
theorem dX12_washedTo_1 : decode cX12_washedTo 1 = .ok (.invokevirtual 168, 3) := by decide +kernel
theorem dX12_washedTo_4 : decode cX12_washedTo 4 = .ok (.aload_n 0, 1) := by decide +kernel
theorem dX12_washedTo_5 : decode cX12_washedTo 5 = .ok (.iload_n 1, 1) := by decide +kernel
theorem dX12_washedTo_6 : decode cX12_washedTo 6 = .ok (.iload_n 2, 1) := by decide +kernel
theorem dX12_washedTo_7 : decode cX12_washedTo 7 = .ok (.invokevirtual 174, 3) := by decide +kernel
theorem dX12_washedTo_10 : decode cX12_washedTo 10 = .ok (.aload_n 0, 1) := by decide +kernel
theorem dX12_washedTo_11 : decode cX12_washedTo 11 = .ok (.aload_n 0, 1) := by decide +kernel
theorem dX12_washedTo_12 : decode cX12_washedTo 12 = .ok (.iload_n 1, 1) := by decide +kernel
theorem dX12_washedTo_13 : decode cX12_washedTo 13 = .ok (.iload_n 3, 1) := by decide +kernel
theorem dX12_washedTo_14 : decode cX12_washedTo 14 = .ok (.invokevirtual 67, 3) := by decide +kernel
theorem dX12_washedTo_17 : decode cX12_washedTo 17 = .ok (.invokevirtual 171, 3) := by decide +kernel
theorem dX12_washedTo_20 : decode cX12_washedTo 20 = .ok (.ireturn, 1) := by decide +kernel
theorem dX12_again_0 : decode cX12_again 0 = .ok (.aload_n 0, 1) := by decide +kernel
theorem dX12_again_1 : decode cX12_again 1 = .ok (.iload_n 1, 1) := by decide +kernel
theorem dX12_again_2 : decode cX12_again 2 = .ok (.invokevirtual 103, 3) := by decide +kernel
theorem dX12_again_5 : decode cX12_again 5 = .ok (.ifCond .eq 39, 3) := by decide +kernel
theorem dX12_again_8 : decode cX12_again 8 = .ok (.iload_n 2, 1) := by decide +kernel
theorem dX12_again_9 : decode cX12_again 9 = .ok (.i2l, 1) := by decide +kernel
theorem dX12_again_10 : decode cX12_again 10 = .ok (.lconst 0, 1) := by decide +kernel
theorem dX12_again_11 : decode cX12_again 11 = .ok (.ldc2_w 178, 3) := by decide +kernel
theorem dX12_again_14 : decode cX12_again 14 = .ok (.invokestatic 46, 3) := by decide +kernel
theorem dX12_again_17 : decode cX12_again 17 = .ok (.ifCond .eq 27, 3) := by decide +kernel
theorem dX12_again_20 : decode cX12_again 20 = .ok (.iload_n 3, 1) := by decide +kernel
theorem dX12_again_21 : decode cX12_again 21 = .ok (.i2l, 1) := by decide +kernel
theorem dX12_again_22 : decode cX12_again 22 = .ok (.lconst 0, 1) := by decide +kernel
theorem dX12_again_23 : decode cX12_again 23 = .ok (.ldc2_w 166, 3) := by decide +kernel
theorem dX12_again_26 : decode cX12_again 26 = .ok (.invokestatic 46, 3) := by decide +kernel
theorem dX12_again_29 : decode cX12_again 29 = .ok (.ifCond .eq 15, 3) := by decide +kernel
theorem dX12_again_32 : decode cX12_again 32 = .ok (.aload_n 0, 1) := by decide +kernel
theorem dX12_again_33 : decode cX12_again 33 = .ok (.iload_n 1, 1) := by decide +kernel
theorem dX12_again_34 : decode cX12_again 34 = .ok (.iload_n 2, 1) := by decide +kernel
theorem dX12_again_35 : decode cX12_again 35 = .ok (.iconst 1, 1) := by decide +kernel
theorem dX12_again_36 : decode cX12_again 36 = .ok (.iload_n 3, 1) := by decide +kernel
theorem dX12_again_37 : decode cX12_again 37 = .ok (.iadd, 1) := by decide +kernel
theorem dX12_again_38 : decode cX12_again 38 = .ok (.invokevirtual 180, 3) := by decide +kernel
theorem dX12_again_41 : decode cX12_again 41 = .ok (.goto 9, 3) := by decide +kernel
theorem dX12_again_44 : decode cX12_again 44 = .ok (.aload_n 0, 1) := by decide +kernel
theorem dX12_again_45 : decode cX12_again 45 = .ok (.ldc 41, 2) := by decide +kernel
theorem dX12_again_47 : decode cX12_again 47 = .ok (.invokevirtual 63, 3) := by decide +kernel
theorem dX12_again_50 : decode cX12_again 50 = .ok (.ireturn, 1) := by decide +kernel
theorem dX12_isFittingBy_0 : decode cX12_isFittingBy 0 = .ok (.aload_n 0, 1) := by decide +kernel
theorem dX12_isFittingBy_1 : decode cX12_isFittingBy 1 = .ok (.invokevirtual 168, 3) := by decide +kernel
theorem dX12_isFittingBy_4 : decode cX12_isFittingBy 4 = .ok (.aload_n 0, 1) := by decide +kernel
theorem dX12_isFittingBy_5 : decode cX12_isFittingBy 5 = .ok (.iload_n 1, 1) := by decide +kernel
theorem dX12_isFittingBy_6 : decode cX12_isFittingBy 6 = .ok (.iload_n 3, 1) := by decide +kernel
theorem dX12_isFittingBy_7 : decode cX12_isFittingBy 7 = .ok (.invokevirtual 174, 3) := by decide +kernel
theorem dX12_isFittingBy_10 : decode cX12_isFittingBy 10 = .ok (.iload 4, 2) := by decide +kernel
theorem dX12_isFittingBy_12 : decode cX12_isFittingBy 12 = .ok (.ifCond .le 11, 3) := by decide +kernel
theorem dX12_isFittingBy_15 : decode cX12_isFittingBy 15 = .ok (.aload_n 0, 1) := by decide +kernel
theorem dX12_isFittingBy_16 : decode cX12_isFittingBy 16 = .ok (.iload_n 1, 1) := by decide +kernel
theorem dX12_isFittingBy_17 : decode cX12_isFittingBy 17 = .ok (.iload 4, 2) := by decide +kernel
theorem dX12_isFittingBy_19 : decode cX12_isFittingBy 19 = .ok (.invokevirtual 140, 3) := by decide +kernel
theorem dX12_isFittingBy_22 : decode cX12_isFittingBy 22 = .ok (.pop, 1) := by decide +kernel
theorem dX12_isFittingBy_23 : decode cX12_isFittingBy 23 = .ok (.aload_n 0, 1) := by decide +kernel
theorem dX12_isFittingBy_24 : decode cX12_isFittingBy 24 = .ok (.iconst 3, 1) := by decide +kernel
theorem dX12_isFittingBy_25 : decode cX12_isFittingBy 25 = .ok (.invokevirtual 160, 3) := by decide +kernel
theorem dX12_isFittingBy_28 : decode cX12_isFittingBy 28 = .ok (.aload_n 0, 1) := by decide +kernel
theorem dX12_isFittingBy_29 : decode cX12_isFittingBy 29 = .ok (.aload_n 0, 1) := by decide +kernel
theorem dX12_isFittingBy_30 : decode cX12_isFittingBy 30 = .ok (.iload_n 1, 1) := by decide +kernel
theorem dX12_isFittingBy_31 : decode cX12_isFittingBy 31 = .ok (.iload_n 2, 1) := by decide +kernel
theorem dX12_isFittingBy_32 : decode cX12_isFittingBy 32 = .ok (.invokevirtual 75, 3) := by decide +kernel
theorem dX12_isFittingBy_35 : decode cX12_isFittingBy 35 = .ok (.ifCond .eq 7, 3) := by decide +kernel
theorem dX12_isFittingBy_38 : decode cX12_isFittingBy 38 = .ok (.iconst 1, 1) := by decide +kernel
theorem dX12_isFittingBy_39 : decode cX12_isFittingBy 39 = .ok (.goto 4, 3) := by decide +kernel
theorem dX12_isFittingBy_42 : decode cX12_isFittingBy 42 = .ok (.iconst 0, 1) := by decide +kernel
theorem dX12_isFittingBy_43 : decode cX12_isFittingBy 43 = .ok (.invokevirtual 171, 3) := by decide +kernel
theorem dX12_isFittingBy_46 : decode cX12_isFittingBy 46 = .ok (.iconst 1, 1) := by decide +kernel
theorem dX12_isFittingBy_47 : decode cX12_isFittingBy 47 = .ok (.if_icmp .ne 7, 3) := by decide +kernel
theorem dX12_isFittingBy_50 : decode cX12_isFittingBy 50 = .ok (.iconst 1, 1) := by decide +kernel
theorem dX12_isFittingBy_51 : decode cX12_isFittingBy 51 = .ok (.goto 4, 3) := by decide +kernel
theorem dX12_isFittingBy_54 : decode cX12_isFittingBy 54 = .ok (.iconst 0, 1) := by decide +kernel
theorem dX12_isFittingBy_55 : decode cX12_isFittingBy 55 = .ok (.ireturn, 1) := by decide +kernel
theorem dX12_washes_0 : decode cX12_washes 0 = .ok (.aload_n 0, 1) := by decide +kernel
theorem dX12_washes_1 : decode cX12_washes 1 = .ok (.iload_n 1, 1) := by decide +kernel
theorem dX12_washes_2 : decode cX12_washes 2 = .ok (.invokevirtual 103, 3) := by decide +kernel
theorem dX12_washes_5 : decode cX12_washes 5 = .ok (.ifCond .eq 11, 3) := by decide +kernel
theorem dX12_washes_8 : decode cX12_washes 8 = .ok (.aload_n 0, 1) := by decide +kernel
theorem dX12_washes_9 : decode cX12_washes 9 = .ok (.iload_n 2, 1) := by decide +kernel
theorem dX12_washes_10 : decode cX12_washes 10 = .ok (.invokevirtual 150, 3) := by decide +kernel
theorem dX12_washes_13 : decode cX12_washes 13 = .ok (.ifCond .ne 10, 3) := by decide +kernel
theorem dX12_washes_16 : decode cX12_washes 16 = .ok (.aload_n 0, 1) := by decide +kernel
theorem dX12_washes_17 : decode cX12_washes 17 = .ok (.ldc 41, 2) := by decide +kernel
theorem dX12_washes_19 : decode cX12_washes 19 = .ok (.invokevirtual 63, 3) := by decide +kernel
theorem dX12_washes_22 : decode cX12_washes 22 = .ok (.ireturn, 1) := by decide +kernel
theorem dX12_washes_23 : decode cX12_washes 23 = .ok (.iconst 0, 1) := by decide +kernel
theorem dX12_washes_24 : decode cX12_washes 24 = .ok (.istore_n 3, 1) := by decide +kernel
theorem dX12_washes_25 : decode cX12_washes 25 = .ok (.iconst 1, 1) := by decide +kernel
theorem dX12_washes_26 : decode cX12_washes 26 = .ok (.istore 4, 2) := by decide +kernel
theorem dX12_washes_28 : decode cX12_washes 28 = .ok (.iload 4, 2) := by decide +kernel
theorem dX12_washes_30 : decode cX12_washes 30 = .ok (.bipush 40, 2) := by decide +kernel
theorem dX12_washes_32 : decode cX12_washes 32 = .ok (.if_icmp .gt 32, 3) := by decide +kernel
theorem dX12_washes_35 : decode cX12_washes 35 = .ok (.iload_n 3, 1) := by decide +kernel
theorem dX12_washes_36 : decode cX12_washes 36 = .ok (.ifCond .ne 28, 3) := by decide +kernel
theorem dX12_washes_39 : decode cX12_washes 39 = .ok (.aload_n 0, 1) := by decide +kernel
theorem dX12_washes_40 : decode cX12_washes 40 = .ok (.iload_n 1, 1) := by decide +kernel
theorem dX12_washes_41 : decode cX12_washes 41 = .ok (.iload_n 2, 1) := by decide +kernel
theorem dX12_washes_42 : decode cX12_washes 42 = .ok (.iload 4, 2) := by decide +kernel
theorem dX12_washes_44 : decode cX12_washes 44 = .ok (.iconst 0, 1) := by decide +kernel
theorem dX12_washes_45 : decode cX12_washes 45 = .ok (.invokevirtual 183, 3) := by decide +kernel
theorem dX12_washes_48 : decode cX12_washes 48 = .ok (.ifCond .eq 8, 3) := by decide +kernel
theorem dX12_washes_51 : decode cX12_washes 51 = .ok (.iload 4, 2) := by decide +kernel
theorem dX12_washes_53 : decode cX12_washes 53 = .ok (.goto 4, 3) := by decide +kernel
theorem dX12_washes_56 : decode cX12_washes 56 = .ok (.iconst 0, 1) := by decide +kernel
theorem dX12_washes_57 : decode cX12_washes 57 = .ok (.istore_n 3, 1) := by decide +kernel
theorem dX12_washes_58 : decode cX12_washes 58 = .ok (.iinc 4 1, 3) := by decide +kernel
theorem dX12_washes_61 : decode cX12_washes 61 = .ok (.goto (-33), 3) := by decide +kernel
theorem dX12_washes_64 : decode cX12_washes 64 = .ok (.iload_n 3, 1) := by decide +kernel
theorem dX12_washes_65 : decode cX12_washes 65 = .ok (.ifCond .ne 12, 3) := by decide +kernel
theorem dX12_washes_68 : decode cX12_washes 68 = .ok (.aload_n 0, 1) := by decide +kernel
theorem dX12_washes_69 : decode cX12_washes 69 = .ok (.ldc 187, 2) := by decide +kernel
theorem dX12_washes_71 : decode cX12_washes 71 = .ok (.invokevirtual 63, 3) := by decide +kernel
theorem dX12_washes_74 : decode cX12_washes 74 = .ok (.goto 4, 3) := by decide +kernel
theorem dX12_washes_77 : decode cX12_washes 77 = .ok (.iload_n 3, 1) := by decide +kernel
theorem dX12_washes_78 : decode cX12_washes 78 = .ok (.ireturn, 1) := by decide +kernel
theorem dX12_warmest_0 : decode cX12_warmest 0 = .ok (.aload_n 0, 1) := by decide +kernel
theorem dX12_warmest_1 : decode cX12_warmest 1 = .ok (.iload_n 1, 1) := by decide +kernel
theorem dX12_warmest_2 : decode cX12_warmest 2 = .ok (.invokevirtual 103, 3) := by decide +kernel
theorem dX12_warmest_5 : decode cX12_warmest 5 = .ok (.ifCond .eq 11, 3) := by decide +kernel
theorem dX12_warmest_8 : decode cX12_warmest 8 = .ok (.aload_n 0, 1) := by decide +kernel
theorem dX12_warmest_9 : decode cX12_warmest 9 = .ok (.iload_n 2, 1) := by decide +kernel
theorem dX12_warmest_10 : decode cX12_warmest 10 = .ok (.invokevirtual 150, 3) := by decide +kernel
theorem dX12_warmest_13 : decode cX12_warmest 13 = .ok (.ifCond .ne 10, 3) := by decide +kernel
theorem dX12_warmest_16 : decode cX12_warmest 16 = .ok (.aload_n 0, 1) := by decide +kernel
theorem dX12_warmest_17 : decode cX12_warmest 17 = .ok (.ldc 41, 2) := by decide +kernel
theorem dX12_warmest_19 : decode cX12_warmest 19 = .ok (.invokevirtual 63, 3) := by decide +kernel
theorem dX12_warmest_22 : decode cX12_warmest 22 = .ok (.ireturn, 1) := by decide +kernel
theorem dX12_warmest_23 : decode cX12_warmest 23 = .ok (.aload_n 0, 1) := by decide +kernel
theorem dX12_warmest_24 : decode cX12_warmest 24 = .ok (.getfield 7, 3) := by decide +kernel
theorem dX12_warmest_27 : decode cX12_warmest 27 = .ok (.iconst 3, 1) := by decide +kernel
theorem dX12_warmest_28 : decode cX12_warmest 28 = .ok (.iaload, 1) := by decide +kernel
theorem dX12_warmest_29 : decode cX12_warmest 29 = .ok (.istore_n 3, 1) := by decide +kernel
theorem dX12_warmest_30 : decode cX12_warmest 30 = .ok (.iconst 0, 1) := by decide +kernel
theorem dX12_warmest_31 : decode cX12_warmest 31 = .ok (.istore 4, 2) := by decide +kernel
theorem dX12_warmest_33 : decode cX12_warmest 33 = .ok (.bipush 95, 2) := by decide +kernel
theorem dX12_warmest_35 : decode cX12_warmest 35 = .ok (.istore 5, 2) := by decide +kernel
theorem dX12_warmest_37 : decode cX12_warmest 37 = .ok (.iload 5, 2) := by decide +kernel
theorem dX12_warmest_39 : decode cX12_warmest 39 = .ok (.bipush 20, 2) := by decide +kernel
theorem dX12_warmest_41 : decode cX12_warmest 41 = .ok (.if_icmp .lt 41, 3) := by decide +kernel
theorem dX12_warmest_44 : decode cX12_warmest 44 = .ok (.iload 4, 2) := by decide +kernel
theorem dX12_warmest_46 : decode cX12_warmest 46 = .ok (.ifCond .ne 36, 3) := by decide +kernel
theorem dX12_warmest_49 : decode cX12_warmest 49 = .ok (.aload_n 0, 1) := by decide +kernel
theorem dX12_warmest_50 : decode cX12_warmest 50 = .ok (.getfield 7, 3) := by decide +kernel
theorem dX12_warmest_53 : decode cX12_warmest 53 = .ok (.iconst 3, 1) := by decide +kernel
theorem dX12_warmest_54 : decode cX12_warmest 54 = .ok (.iload 5, 2) := by decide +kernel
theorem dX12_warmest_56 : decode cX12_warmest 56 = .ok (.iastore, 1) := by decide +kernel
theorem dX12_warmest_57 : decode cX12_warmest 57 = .ok (.aload_n 0, 1) := by decide +kernel
theorem dX12_warmest_58 : decode cX12_warmest 58 = .ok (.iload_n 1, 1) := by decide +kernel
theorem dX12_warmest_59 : decode cX12_warmest 59 = .ok (.iload_n 2, 1) := by decide +kernel
theorem dX12_warmest_60 : decode cX12_warmest 60 = .ok (.iconst 1, 1) := by decide +kernel
theorem dX12_warmest_61 : decode cX12_warmest 61 = .ok (.iconst 0, 1) := by decide +kernel
theorem dX12_warmest_62 : decode cX12_warmest 62 = .ok (.invokevirtual 183, 3) := by decide +kernel
theorem dX12_warmest_65 : decode cX12_warmest 65 = .ok (.ifCond .eq 8, 3) := by decide +kernel
theorem dX12_warmest_68 : decode cX12_warmest 68 = .ok (.iload 5, 2) := by decide +kernel
theorem dX12_warmest_70 : decode cX12_warmest 70 = .ok (.goto 4, 3) := by decide +kernel
theorem dX12_warmest_73 : decode cX12_warmest 73 = .ok (.iconst 0, 1) := by decide +kernel
theorem dX12_warmest_74 : decode cX12_warmest 74 = .ok (.istore 4, 2) := by decide +kernel
theorem dX12_warmest_76 : decode cX12_warmest 76 = .ok (.iinc 5 (-1), 3) := by decide +kernel
theorem dX12_warmest_79 : decode cX12_warmest 79 = .ok (.goto (-42), 3) := by decide +kernel
theorem dX12_warmest_82 : decode cX12_warmest 82 = .ok (.aload_n 0, 1) := by decide +kernel
theorem dX12_warmest_83 : decode cX12_warmest 83 = .ok (.getfield 7, 3) := by decide +kernel
theorem dX12_warmest_86 : decode cX12_warmest 86 = .ok (.iconst 3, 1) := by decide +kernel
theorem dX12_warmest_87 : decode cX12_warmest 87 = .ok (.iload_n 3, 1) := by decide +kernel
theorem dX12_warmest_88 : decode cX12_warmest 88 = .ok (.iastore, 1) := by decide +kernel
theorem dX12_warmest_89 : decode cX12_warmest 89 = .ok (.iload 4, 2) := by decide +kernel
theorem dX12_warmest_91 : decode cX12_warmest 91 = .ok (.ifCond .ne 12, 3) := by decide +kernel
theorem dX12_warmest_94 : decode cX12_warmest 94 = .ok (.aload_n 0, 1) := by decide +kernel
theorem dX12_warmest_95 : decode cX12_warmest 95 = .ok (.ldc 187, 2) := by decide +kernel
theorem dX12_warmest_97 : decode cX12_warmest 97 = .ok (.invokevirtual 63, 3) := by decide +kernel
theorem dX12_warmest_100 : decode cX12_warmest 100 = .ok (.goto 5, 3) := by decide +kernel
theorem dX12_warmest_103 : decode cX12_warmest 103 = .ok (.iload 4, 2) := by decide +kernel
theorem dX12_warmest_105 : decode cX12_warmest 105 = .ok (.ireturn, 1) := by decide +kernel
theorem dX12_pull_0 : decode cX12_pull 0 = .ok (.aload_n 0, 1) := by decide +kernel
theorem dX12_pull_1 : decode cX12_pull 1 = .ok (.iload_n 1, 1) := by decide +kernel
theorem dX12_pull_2 : decode cX12_pull 2 = .ok (.invokevirtual 103, 3) := by decide +kernel
theorem dX12_pull_5 : decode cX12_pull 5 = .ok (.ifCond .eq 11, 3) := by decide +kernel
theorem dX12_pull_8 : decode cX12_pull 8 = .ok (.aload_n 0, 1) := by decide +kernel
theorem dX12_pull_9 : decode cX12_pull 9 = .ok (.iload_n 2, 1) := by decide +kernel
theorem dX12_pull_10 : decode cX12_pull 10 = .ok (.invokevirtual 150, 3) := by decide +kernel
theorem dX12_pull_13 : decode cX12_pull 13 = .ok (.ifCond .ne 10, 3) := by decide +kernel
theorem dX12_pull_16 : decode cX12_pull 16 = .ok (.aload_n 0, 1) := by decide +kernel
theorem dX12_pull_17 : decode cX12_pull 17 = .ok (.ldc 41, 2) := by decide +kernel
theorem dX12_pull_19 : decode cX12_pull 19 = .ok (.invokevirtual 63, 3) := by decide +kernel
theorem dX12_pull_22 : decode cX12_pull 22 = .ok (.ireturn, 1) := by decide +kernel
theorem dX12_pull_23 : decode cX12_pull 23 = .ok (.iconst (-1), 1) := by decide +kernel
theorem dX12_pull_24 : decode cX12_pull 24 = .ok (.istore_n 3, 1) := by decide +kernel
theorem dX12_pull_25 : decode cX12_pull 25 = .ok (.iconst 0, 1) := by decide +kernel
theorem dX12_pull_26 : decode cX12_pull 26 = .ok (.istore 4, 2) := by decide +kernel
theorem dX12_pull_28 : decode cX12_pull 28 = .ok (.iload 4, 2) := by decide +kernel
theorem dX12_pull_30 : decode cX12_pull 30 = .ok (.bipush 50, 2) := by decide +kernel
theorem dX12_pull_32 : decode cX12_pull 32 = .ok (.if_icmp .gt 32, 3) := by decide +kernel
theorem dX12_pull_35 : decode cX12_pull 35 = .ok (.iload_n 3, 1) := by decide +kernel
theorem dX12_pull_36 : decode cX12_pull 36 = .ok (.ifCond .ge 28, 3) := by decide +kernel
theorem dX12_pull_39 : decode cX12_pull 39 = .ok (.aload_n 0, 1) := by decide +kernel
theorem dX12_pull_40 : decode cX12_pull 40 = .ok (.iload_n 1, 1) := by decide +kernel
theorem dX12_pull_41 : decode cX12_pull 41 = .ok (.iload_n 2, 1) := by decide +kernel
theorem dX12_pull_42 : decode cX12_pull 42 = .ok (.iconst 1, 1) := by decide +kernel
theorem dX12_pull_43 : decode cX12_pull 43 = .ok (.iload 4, 2) := by decide +kernel
theorem dX12_pull_45 : decode cX12_pull 45 = .ok (.invokevirtual 183, 3) := by decide +kernel
theorem dX12_pull_48 : decode cX12_pull 48 = .ok (.ifCond .eq 8, 3) := by decide +kernel
theorem dX12_pull_51 : decode cX12_pull 51 = .ok (.iload 4, 2) := by decide +kernel
theorem dX12_pull_53 : decode cX12_pull 53 = .ok (.goto 4, 3) := by decide +kernel
theorem dX12_pull_56 : decode cX12_pull 56 = .ok (.iconst (-1), 1) := by decide +kernel
theorem dX12_pull_57 : decode cX12_pull 57 = .ok (.istore_n 3, 1) := by decide +kernel
theorem dX12_pull_58 : decode cX12_pull 58 = .ok (.iinc 4 1, 3) := by decide +kernel
theorem dX12_pull_61 : decode cX12_pull 61 = .ok (.goto (-33), 3) := by decide +kernel
theorem dX12_pull_64 : decode cX12_pull 64 = .ok (.iload_n 3, 1) := by decide +kernel
theorem dX12_pull_65 : decode cX12_pull 65 = .ok (.ifCond .ge 12, 3) := by decide +kernel
theorem dX12_pull_68 : decode cX12_pull 68 = .ok (.aload_n 0, 1) := by decide +kernel
theorem dX12_pull_69 : decode cX12_pull 69 = .ok (.ldc 187, 2) := by decide +kernel
theorem dX12_pull_71 : decode cX12_pull 71 = .ok (.invokevirtual 63, 3) := by decide +kernel
theorem dX12_pull_74 : decode cX12_pull 74 = .ok (.goto 4, 3) := by decide +kernel
theorem dX12_pull_77 : decode cX12_pull 77 = .ok (.iload_n 3, 1) := by decide +kernel
theorem dX12_pull_78 : decode cX12_pull 78 = .ok (.ireturn, 1) := by decide +kernel
theorem dX12_kind_0 : decode cX12_kind 0 = .ok (.aload_n 0, 1) := by decide +kernel
theorem dX12_kind_1 : decode cX12_kind 1 = .ok (.iload_n 1, 1) := by decide +kernel
theorem dX12_kind_2 : decode cX12_kind 2 = .ok (.invokevirtual 103, 3) := by decide +kernel
theorem dX12_kind_5 : decode cX12_kind 5 = .ok (.ifCond .eq 15, 3) := by decide +kernel
theorem dX12_kind_8 : decode cX12_kind 8 = .ok (.iload_n 2, 1) := by decide +kernel
theorem dX12_kind_9 : decode cX12_kind 9 = .ok (.i2l, 1) := by decide +kernel
theorem dX12_kind_10 : decode cX12_kind 10 = .ok (.lconst 1, 1) := by decide +kernel
theorem dX12_kind_11 : decode cX12_kind 11 = .ok (.ldc2_w 178, 3) := by decide +kernel
theorem dX12_kind_14 : decode cX12_kind 14 = .ok (.invokestatic 46, 3) := by decide +kernel
theorem dX12_kind_17 : decode cX12_kind 17 = .ok (.ifCond .ne 10, 3) := by decide +kernel
theorem dX12_kind_20 : decode cX12_kind 20 = .ok (.aload_n 0, 1) := by decide +kernel
theorem dX12_kind_21 : decode cX12_kind 21 = .ok (.ldc 41, 2) := by decide +kernel
theorem dX12_kind_23 : decode cX12_kind 23 = .ok (.invokevirtual 63, 3) := by decide +kernel
theorem dX12_kind_26 : decode cX12_kind 26 = .ok (.ireturn, 1) := by decide +kernel
theorem dX12_kind_27 : decode cX12_kind 27 = .ok (.aload_n 0, 1) := by decide +kernel
theorem dX12_kind_28 : decode cX12_kind 28 = .ok (.iload_n 1, 1) := by decide +kernel
theorem dX12_kind_29 : decode cX12_kind 29 = .ok (.iconst 0, 1) := by decide +kernel
theorem dX12_kind_30 : decode cX12_kind 30 = .ok (.invokevirtual 67, 3) := by decide +kernel
theorem dX12_kind_33 : decode cX12_kind 33 = .ok (.istore_n 3, 1) := by decide +kernel
theorem dX12_kind_34 : decode cX12_kind 34 = .ok (.iconst 0, 1) := by decide +kernel
theorem dX12_kind_35 : decode cX12_kind 35 = .ok (.istore 4, 2) := by decide +kernel
theorem dX12_kind_37 : decode cX12_kind 37 = .ok (.iconst (-1), 1) := by decide +kernel
theorem dX12_kind_38 : decode cX12_kind 38 = .ok (.istore 5, 2) := by decide +kernel
theorem dX12_kind_40 : decode cX12_kind 40 = .ok (.iconst 0, 1) := by decide +kernel
theorem dX12_kind_41 : decode cX12_kind 41 = .ok (.istore 6, 2) := by decide +kernel
theorem dX12_kind_43 : decode cX12_kind 43 = .ok (.iload 6, 2) := by decide +kernel
theorem dX12_kind_45 : decode cX12_kind 45 = .ok (.iconst 5, 1) := by decide +kernel
theorem dX12_kind_46 : decode cX12_kind 46 = .ok (.if_icmp .gt 62, 3) := by decide +kernel
theorem dX12_kind_49 : decode cX12_kind 49 = .ok (.aload_n 0, 1) := by decide +kernel
theorem dX12_kind_50 : decode cX12_kind 50 = .ok (.getfield 7, 3) := by decide +kernel
theorem dX12_kind_53 : decode cX12_kind 53 = .ok (.iload_n 1, 1) := by decide +kernel
theorem dX12_kind_54 : decode cX12_kind 54 = .ok (.iconst 0, 1) := by decide +kernel
theorem dX12_kind_55 : decode cX12_kind 55 = .ok (.invokestatic 42, 3) := by decide +kernel
theorem dX12_kind_58 : decode cX12_kind 58 = .ok (.iload 6, 2) := by decide +kernel
theorem dX12_kind_60 : decode cX12_kind 60 = .ok (.iastore, 1) := by decide +kernel
theorem dX12_kind_61 : decode cX12_kind 61 = .ok (.aload_n 0, 1) := by decide +kernel
theorem dX12_kind_62 : decode cX12_kind 62 = .ok (.iload_n 1, 1) := by decide +kernel
theorem dX12_kind_63 : decode cX12_kind 63 = .ok (.iload_n 2, 1) := by decide +kernel
theorem dX12_kind_64 : decode cX12_kind 64 = .ok (.iconst 1, 1) := by decide +kernel
theorem dX12_kind_65 : decode cX12_kind 65 = .ok (.invokevirtual 180, 3) := by decide +kernel
theorem dX12_kind_68 : decode cX12_kind 68 = .ok (.istore 7, 2) := by decide +kernel
theorem dX12_kind_70 : decode cX12_kind 70 = .ok (.iload 7, 2) := by decide +kernel
theorem dX12_kind_72 : decode cX12_kind 72 = .ok (.iload 5, 2) := by decide +kernel
theorem dX12_kind_74 : decode cX12_kind 74 = .ok (.if_icmp .le 8, 3) := by decide +kernel
theorem dX12_kind_77 : decode cX12_kind 77 = .ok (.iload 6, 2) := by decide +kernel
theorem dX12_kind_79 : decode cX12_kind 79 = .ok (.goto 5, 3) := by decide +kernel
theorem dX12_kind_82 : decode cX12_kind 82 = .ok (.iload 4, 2) := by decide +kernel
theorem dX12_kind_84 : decode cX12_kind 84 = .ok (.istore 4, 2) := by decide +kernel
theorem dX12_kind_86 : decode cX12_kind 86 = .ok (.iload 7, 2) := by decide +kernel
theorem dX12_kind_88 : decode cX12_kind 88 = .ok (.iload 5, 2) := by decide +kernel
theorem dX12_kind_90 : decode cX12_kind 90 = .ok (.if_icmp .le 8, 3) := by decide +kernel
theorem dX12_kind_93 : decode cX12_kind 93 = .ok (.iload 7, 2) := by decide +kernel
theorem dX12_kind_95 : decode cX12_kind 95 = .ok (.goto 5, 3) := by decide +kernel
theorem dX12_kind_98 : decode cX12_kind 98 = .ok (.iload 5, 2) := by decide +kernel
theorem dX12_kind_100 : decode cX12_kind 100 = .ok (.istore 5, 2) := by decide +kernel
theorem dX12_kind_102 : decode cX12_kind 102 = .ok (.iinc 6 1, 3) := by decide +kernel
theorem dX12_kind_105 : decode cX12_kind 105 = .ok (.goto (-62), 3) := by decide +kernel
theorem dX12_kind_108 : decode cX12_kind 108 = .ok (.aload_n 0, 1) := by decide +kernel
theorem dX12_kind_109 : decode cX12_kind 109 = .ok (.getfield 7, 3) := by decide +kernel
theorem dX12_kind_112 : decode cX12_kind 112 = .ok (.iload_n 1, 1) := by decide +kernel
theorem dX12_kind_113 : decode cX12_kind 113 = .ok (.iconst 0, 1) := by decide +kernel
theorem dX12_kind_114 : decode cX12_kind 114 = .ok (.invokestatic 42, 3) := by decide +kernel
theorem dX12_kind_117 : decode cX12_kind 117 = .ok (.iload_n 3, 1) := by decide +kernel
theorem dX12_kind_118 : decode cX12_kind 118 = .ok (.iastore, 1) := by decide +kernel
theorem dX12_kind_119 : decode cX12_kind 119 = .ok (.iload 4, 2) := by decide +kernel
theorem dX12_kind_121 : decode cX12_kind 121 = .ok (.ireturn, 1) := by decide +kernel
theorem dX12_manyFitting_0 : decode cX12_manyFitting 0 = .ok (.iconst 0, 1) := by decide +kernel
theorem dX12_manyFitting_1 : decode cX12_manyFitting 1 = .ok (.istore_n 2, 1) := by decide +kernel
theorem dX12_manyFitting_2 : decode cX12_manyFitting 2 = .ok (.iconst 0, 1) := by decide +kernel
theorem dX12_manyFitting_3 : decode cX12_manyFitting 3 = .ok (.istore_n 3, 1) := by decide +kernel
theorem dX12_manyFitting_4 : decode cX12_manyFitting 4 = .ok (.iload_n 3, 1) := by decide +kernel
theorem dX12_manyFitting_5 : decode cX12_manyFitting 5 = .ok (.aload_n 0, 1) := by decide +kernel
theorem dX12_manyFitting_6 : decode cX12_manyFitting 6 = .ok (.getfield 7, 3) := by decide +kernel
theorem dX12_manyFitting_9 : decode cX12_manyFitting 9 = .ok (.iconst 1, 1) := by decide +kernel
theorem dX12_manyFitting_10 : decode cX12_manyFitting 10 = .ok (.iaload, 1) := by decide +kernel
theorem dX12_manyFitting_11 : decode cX12_manyFitting 11 = .ok (.if_icmp .ge 26, 3) := by decide +kernel
theorem dX12_manyFitting_14 : decode cX12_manyFitting 14 = .ok (.iload_n 2, 1) := by decide +kernel
theorem dX12_manyFitting_15 : decode cX12_manyFitting 15 = .ok (.aload_n 0, 1) := by decide +kernel
theorem dX12_manyFitting_16 : decode cX12_manyFitting 16 = .ok (.iload_n 3, 1) := by decide +kernel
theorem dX12_manyFitting_17 : decode cX12_manyFitting 17 = .ok (.iload_n 1, 1) := by decide +kernel
theorem dX12_manyFitting_18 : decode cX12_manyFitting 18 = .ok (.invokevirtual 75, 3) := by decide +kernel
theorem dX12_manyFitting_21 : decode cX12_manyFitting 21 = .ok (.ifCond .eq 7, 3) := by decide +kernel
theorem dX12_manyFitting_24 : decode cX12_manyFitting 24 = .ok (.iconst 1, 1) := by decide +kernel
theorem dX12_manyFitting_25 : decode cX12_manyFitting 25 = .ok (.goto 4, 3) := by decide +kernel
theorem dX12_manyFitting_28 : decode cX12_manyFitting 28 = .ok (.iconst 0, 1) := by decide +kernel
theorem dX12_manyFitting_29 : decode cX12_manyFitting 29 = .ok (.iadd, 1) := by decide +kernel
theorem dX12_manyFitting_30 : decode cX12_manyFitting 30 = .ok (.istore_n 2, 1) := by decide +kernel
theorem dX12_manyFitting_31 : decode cX12_manyFitting 31 = .ok (.iinc 3 1, 3) := by decide +kernel
theorem dX12_manyFitting_34 : decode cX12_manyFitting 34 = .ok (.goto (-30), 3) := by decide +kernel
theorem dX12_manyFitting_37 : decode cX12_manyFitting 37 = .ok (.iload_n 2, 1) := by decide +kernel
theorem dX12_manyFitting_38 : decode cX12_manyFitting 38 = .ok (.ireturn, 1) := by decide +kernel
theorem dX12_dressed_0 : decode cX12_dressed 0 = .ok (.iload_n 1, 1) := by decide +kernel
theorem dX12_dressed_1 : decode cX12_dressed 1 = .ok (.invokestatic 163, 3) := by decide +kernel
theorem dX12_dressed_4 : decode cX12_dressed 4 = .ok (.ifCond .ne 10, 3) := by decide +kernel
theorem dX12_dressed_7 : decode cX12_dressed 7 = .ok (.aload_n 0, 1) := by decide +kernel
theorem dX12_dressed_8 : decode cX12_dressed 8 = .ok (.ldc 41, 2) := by decide +kernel
theorem dX12_dressed_10 : decode cX12_dressed 10 = .ok (.invokevirtual 63, 3) := by decide +kernel
theorem dX12_dressed_13 : decode cX12_dressed 13 = .ok (.ireturn, 1) := by decide +kernel
theorem dX12_dressed_14 : decode cX12_dressed 14 = .ok (.aload_n 0, 1) := by decide +kernel
theorem dX12_dressed_15 : decode cX12_dressed 15 = .ok (.getfield 7, 3) := by decide +kernel
theorem dX12_dressed_18 : decode cX12_dressed 18 = .ok (.iconst 2, 1) := by decide +kernel
theorem dX12_dressed_19 : decode cX12_dressed 19 = .ok (.iaload, 1) := by decide +kernel
theorem dX12_dressed_20 : decode cX12_dressed 20 = .ok (.ifCond .ne 10, 3) := by decide +kernel
theorem dX12_dressed_23 : decode cX12_dressed 23 = .ok (.aload_n 0, 1) := by decide +kernel
theorem dX12_dressed_24 : decode cX12_dressed 24 = .ok (.ldc 187, 2) := by decide +kernel
theorem dX12_dressed_26 : decode cX12_dressed 26 = .ok (.invokevirtual 63, 3) := by decide +kernel
theorem dX12_dressed_29 : decode cX12_dressed 29 = .ok (.ireturn, 1) := by decide +kernel
theorem dX12_dressed_30 : decode cX12_dressed 30 = .ok (.aload_n 0, 1) := by decide +kernel
theorem dX12_dressed_31 : decode cX12_dressed 31 = .ok (.invokevirtual 168, 3) := by decide +kernel
theorem dX12_dressed_34 : decode cX12_dressed 34 = .ok (.aload_n 0, 1) := by decide +kernel
theorem dX12_dressed_35 : decode cX12_dressed 35 = .ok (.iload_n 1, 1) := by decide +kernel
theorem dX12_dressed_36 : decode cX12_dressed 36 = .ok (.invokevirtual 160, 3) := by decide +kernel
theorem dX12_dressed_39 : decode cX12_dressed 39 = .ok (.iconst 0, 1) := by decide +kernel
theorem dX12_dressed_40 : decode cX12_dressed 40 = .ok (.istore_n 2, 1) := by decide +kernel
theorem dX12_dressed_41 : decode cX12_dressed 41 = .ok (.iconst 1, 1) := by decide +kernel
theorem dX12_dressed_42 : decode cX12_dressed 42 = .ok (.istore_n 3, 1) := by decide +kernel
theorem dX12_dressed_43 : decode cX12_dressed 43 = .ok (.iload_n 3, 1) := by decide +kernel
theorem dX12_dressed_44 : decode cX12_dressed 44 = .ok (.aload_n 0, 1) := by decide +kernel
theorem dX12_dressed_45 : decode cX12_dressed 45 = .ok (.getfield 7, 3) := by decide +kernel
theorem dX12_dressed_48 : decode cX12_dressed 48 = .ok (.iconst 2, 1) := by decide +kernel
theorem dX12_dressed_49 : decode cX12_dressed 49 = .ok (.iaload, 1) := by decide +kernel
theorem dX12_dressed_50 : decode cX12_dressed 50 = .ok (.if_icmp .ge 28, 3) := by decide +kernel
theorem dX12_dressed_53 : decode cX12_dressed 53 = .ok (.aload_n 0, 1) := by decide +kernel
theorem dX12_dressed_54 : decode cX12_dressed 54 = .ok (.iload_n 3, 1) := by decide +kernel
theorem dX12_dressed_55 : decode cX12_dressed 55 = .ok (.invokevirtual 188, 3) := by decide +kernel
theorem dX12_dressed_58 : decode cX12_dressed 58 = .ok (.aload_n 0, 1) := by decide +kernel
theorem dX12_dressed_59 : decode cX12_dressed 59 = .ok (.iload_n 2, 1) := by decide +kernel
theorem dX12_dressed_60 : decode cX12_dressed 60 = .ok (.invokevirtual 188, 3) := by decide +kernel
theorem dX12_dressed_63 : decode cX12_dressed 63 = .ok (.if_icmp .le 7, 3) := by decide +kernel
theorem dX12_dressed_66 : decode cX12_dressed 66 = .ok (.iload_n 3, 1) := by decide +kernel
theorem dX12_dressed_67 : decode cX12_dressed 67 = .ok (.goto 4, 3) := by decide +kernel
theorem dX12_dressed_70 : decode cX12_dressed 70 = .ok (.iload_n 2, 1) := by decide +kernel
theorem dX12_dressed_71 : decode cX12_dressed 71 = .ok (.istore_n 2, 1) := by decide +kernel
theorem dX12_dressed_72 : decode cX12_dressed 72 = .ok (.iinc 3 1, 3) := by decide +kernel
theorem dX12_dressed_75 : decode cX12_dressed 75 = .ok (.goto (-32), 3) := by decide +kernel
theorem dX12_dressed_78 : decode cX12_dressed 78 = .ok (.aload_n 0, 1) := by decide +kernel
theorem dX12_dressed_79 : decode cX12_dressed 79 = .ok (.iload_n 2, 1) := by decide +kernel
theorem dX12_dressed_80 : decode cX12_dressed 80 = .ok (.invokevirtual 171, 3) := by decide +kernel
theorem dX12_dressed_83 : decode cX12_dressed 83 = .ok (.ireturn, 1) := by decide +kernel
theorem dX12_shortest_0 : decode cX12_shortest 0 = .ok (.iload_n 1, 1) := by decide +kernel
theorem dX12_shortest_1 : decode cX12_shortest 1 = .ok (.i2l, 1) := by decide +kernel
theorem dX12_shortest_2 : decode cX12_shortest 2 = .ok (.lconst 0, 1) := by decide +kernel
theorem dX12_shortest_3 : decode cX12_shortest 3 = .ok (.ldc2_w 178, 3) := by decide +kernel
theorem dX12_shortest_6 : decode cX12_shortest 6 = .ok (.invokestatic 46, 3) := by decide +kernel
theorem dX12_shortest_9 : decode cX12_shortest 9 = .ok (.ifCond .ne 10, 3) := by decide +kernel
theorem dX12_shortest_12 : decode cX12_shortest 12 = .ok (.aload_n 0, 1) := by decide +kernel
theorem dX12_shortest_13 : decode cX12_shortest 13 = .ok (.ldc 41, 2) := by decide +kernel
theorem dX12_shortest_15 : decode cX12_shortest 15 = .ok (.invokevirtual 63, 3) := by decide +kernel
theorem dX12_shortest_18 : decode cX12_shortest 18 = .ok (.ireturn, 1) := by decide +kernel
theorem dX12_shortest_19 : decode cX12_shortest 19 = .ok (.iconst (-1), 1) := by decide +kernel
theorem dX12_shortest_20 : decode cX12_shortest 20 = .ok (.istore_n 2, 1) := by decide +kernel
theorem dX12_shortest_21 : decode cX12_shortest 21 = .ok (.sipush 999, 3) := by decide +kernel
theorem dX12_shortest_24 : decode cX12_shortest 24 = .ok (.istore_n 3, 1) := by decide +kernel
theorem dX12_shortest_25 : decode cX12_shortest 25 = .ok (.iconst 0, 1) := by decide +kernel
theorem dX12_shortest_26 : decode cX12_shortest 26 = .ok (.istore 4, 2) := by decide +kernel
theorem dX12_shortest_28 : decode cX12_shortest 28 = .ok (.iload 4, 2) := by decide +kernel
theorem dX12_shortest_30 : decode cX12_shortest 30 = .ok (.aload_n 0, 1) := by decide +kernel
theorem dX12_shortest_31 : decode cX12_shortest 31 = .ok (.getfield 7, 3) := by decide +kernel
theorem dX12_shortest_34 : decode cX12_shortest 34 = .ok (.iconst 1, 1) := by decide +kernel
theorem dX12_shortest_35 : decode cX12_shortest 35 = .ok (.iaload, 1) := by decide +kernel
theorem dX12_shortest_36 : decode cX12_shortest 36 = .ok (.if_icmp .ge 45, 3) := by decide +kernel
theorem dX12_shortest_39 : decode cX12_shortest 39 = .ok (.aload_n 0, 1) := by decide +kernel
theorem dX12_shortest_40 : decode cX12_shortest 40 = .ok (.iload 4, 2) := by decide +kernel
theorem dX12_shortest_42 : decode cX12_shortest 42 = .ok (.iload_n 1, 1) := by decide +kernel
theorem dX12_shortest_43 : decode cX12_shortest 43 = .ok (.iconst 1, 1) := by decide +kernel
theorem dX12_shortest_44 : decode cX12_shortest 44 = .ok (.invokevirtual 180, 3) := by decide +kernel
theorem dX12_shortest_47 : decode cX12_shortest 47 = .ok (.istore 5, 2) := by decide +kernel
theorem dX12_shortest_49 : decode cX12_shortest 49 = .ok (.iload 5, 2) := by decide +kernel
theorem dX12_shortest_51 : decode cX12_shortest 51 = .ok (.iload_n 3, 1) := by decide +kernel
theorem dX12_shortest_52 : decode cX12_shortest 52 = .ok (.if_icmp .ge 8, 3) := by decide +kernel
theorem dX12_shortest_55 : decode cX12_shortest 55 = .ok (.iload 4, 2) := by decide +kernel
theorem dX12_shortest_57 : decode cX12_shortest 57 = .ok (.goto 4, 3) := by decide +kernel
theorem dX12_shortest_60 : decode cX12_shortest 60 = .ok (.iload_n 2, 1) := by decide +kernel
theorem dX12_shortest_61 : decode cX12_shortest 61 = .ok (.istore_n 2, 1) := by decide +kernel
theorem dX12_shortest_62 : decode cX12_shortest 62 = .ok (.iload 5, 2) := by decide +kernel
theorem dX12_shortest_64 : decode cX12_shortest 64 = .ok (.iload_n 3, 1) := by decide +kernel
theorem dX12_shortest_65 : decode cX12_shortest 65 = .ok (.if_icmp .ge 8, 3) := by decide +kernel
theorem dX12_shortest_68 : decode cX12_shortest 68 = .ok (.iload 5, 2) := by decide +kernel
theorem dX12_shortest_70 : decode cX12_shortest 70 = .ok (.goto 4, 3) := by decide +kernel
theorem dX12_shortest_73 : decode cX12_shortest 73 = .ok (.iload_n 3, 1) := by decide +kernel
theorem dX12_shortest_74 : decode cX12_shortest 74 = .ok (.istore_n 3, 1) := by decide +kernel
theorem dX12_shortest_75 : decode cX12_shortest 75 = .ok (.iinc 4 1, 3) := by decide +kernel
theorem dX12_shortest_78 : decode cX12_shortest 78 = .ok (.goto (-50), 3) := by decide +kernel
theorem dX12_shortest_81 : decode cX12_shortest 81 = .ok (.iload_n 2, 1) := by decide +kernel
theorem dX12_shortest_82 : decode cX12_shortest 82 = .ok (.ifCond .ge 12, 3) := by decide +kernel
theorem dX12_shortest_85 : decode cX12_shortest 85 = .ok (.aload_n 0, 1) := by decide +kernel
theorem dX12_shortest_86 : decode cX12_shortest 86 = .ok (.ldc 187, 2) := by decide +kernel
theorem dX12_shortest_88 : decode cX12_shortest 88 = .ok (.invokevirtual 63, 3) := by decide +kernel
theorem dX12_shortest_91 : decode cX12_shortest 91 = .ok (.goto 4, 3) := by decide +kernel
theorem dX12_shortest_94 : decode cX12_shortest 94 = .ok (.iload_n 2, 1) := by decide +kernel
theorem dX12_shortest_95 : decode cX12_shortest 95 = .ok (.ireturn, 1) := by decide +kernel
theorem dX12_feed_0 : decode cX12_feed 0 = .ok (.iload_n 2, 1) := by decide +kernel
theorem dX12_feed_1 : decode cX12_feed 1 = .ok (.i2l, 1) := by decide +kernel
theorem dX12_feed_2 : decode cX12_feed 2 = .ok (.lconst 1, 1) := by decide +kernel
theorem dX12_feed_3 : decode cX12_feed 3 = .ok (.ldc2_w 191, 3) := by decide +kernel
theorem dX12_feed_6 : decode cX12_feed 6 = .ok (.invokestatic 46, 3) := by decide +kernel
theorem dX12_feed_9 : decode cX12_feed 9 = .ok (.ifCond .ne 10, 3) := by decide +kernel
theorem dX12_feed_12 : decode cX12_feed 12 = .ok (.aload_n 0, 1) := by decide +kernel
theorem dX12_feed_13 : decode cX12_feed 13 = .ok (.ldc 41, 2) := by decide +kernel
theorem dX12_feed_15 : decode cX12_feed 15 = .ok (.invokevirtual 63, 3) := by decide +kernel
theorem dX12_feed_18 : decode cX12_feed 18 = .ok (.ireturn, 1) := by decide +kernel
theorem dX12_feed_19 : decode cX12_feed 19 = .ok (.aload_n 0, 1) := by decide +kernel
theorem dX12_feed_20 : decode cX12_feed 20 = .ok (.getfield 193, 3) := by decide +kernel
theorem dX12_feed_23 : decode cX12_feed 23 = .ok (.iload_n 2, 1) := by decide +kernel
theorem dX12_feed_24 : decode cX12_feed 24 = .ok (.iadd, 1) := by decide +kernel
theorem dX12_feed_25 : decode cX12_feed 25 = .ok (.bipush 120, 2) := by decide +kernel
theorem dX12_feed_27 : decode cX12_feed 27 = .ok (.if_icmp .le 10, 3) := by decide +kernel
theorem dX12_feed_30 : decode cX12_feed 30 = .ok (.aload_n 0, 1) := by decide +kernel
theorem dX12_feed_31 : decode cX12_feed 31 = .ok (.ldc 99, 2) := by decide +kernel
theorem dX12_feed_33 : decode cX12_feed 33 = .ok (.invokevirtual 63, 3) := by decide +kernel
theorem dX12_feed_36 : decode cX12_feed 36 = .ok (.ireturn, 1) := by decide +kernel
theorem dX12_feed_37 : decode cX12_feed 37 = .ok (.iload_n 2, 1) := by decide +kernel
theorem dX12_feed_38 : decode cX12_feed 38 = .ok (.iconst 1, 1) := by decide +kernel
theorem dX12_feed_39 : decode cX12_feed 39 = .ok (.isub, 1) := by decide +kernel
theorem dX12_feed_40 : decode cX12_feed 40 = .ok (.istore_n 3, 1) := by decide +kernel
theorem dX12_feed_41 : decode cX12_feed 41 = .ok (.iload_n 3, 1) := by decide +kernel
theorem dX12_feed_42 : decode cX12_feed 42 = .ok (.ifCond .lt 38, 3) := by decide +kernel
theorem dX12_feed_45 : decode cX12_feed 45 = .ok (.aload_n 0, 1) := by decide +kernel
theorem dX12_feed_46 : decode cX12_feed 46 = .ok (.getfield 25, 3) := by decide +kernel
theorem dX12_feed_49 : decode cX12_feed 49 = .ok (.aload_n 0, 1) := by decide +kernel
theorem dX12_feed_50 : decode cX12_feed 50 = .ok (.getfield 193, 3) := by decide +kernel
theorem dX12_feed_53 : decode cX12_feed 53 = .ok (.iload_n 1, 1) := by decide +kernel
theorem dX12_feed_54 : decode cX12_feed 54 = .ok (.bipush 8, 2) := by decide +kernel
theorem dX12_feed_56 : decode cX12_feed 56 = .ok (.iload_n 3, 1) := by decide +kernel
theorem dX12_feed_57 : decode cX12_feed 57 = .ok (.imul, 1) := by decide +kernel
theorem dX12_feed_58 : decode cX12_feed 58 = .ok (.ishr, 1) := by decide +kernel
theorem dX12_feed_59 : decode cX12_feed 59 = .ok (.sipush 255, 3) := by decide +kernel
theorem dX12_feed_62 : decode cX12_feed 62 = .ok (.iand, 1) := by decide +kernel
theorem dX12_feed_63 : decode cX12_feed 63 = .ok (.iastore, 1) := by decide +kernel
theorem dX12_feed_64 : decode cX12_feed 64 = .ok (.aload_n 0, 1) := by decide +kernel
theorem dX12_feed_65 : decode cX12_feed 65 = .ok (.dup, 1) := by decide +kernel
theorem dX12_feed_66 : decode cX12_feed 66 = .ok (.getfield 193, 3) := by decide +kernel
theorem dX12_feed_69 : decode cX12_feed 69 = .ok (.iconst 1, 1) := by decide +kernel
theorem dX12_feed_70 : decode cX12_feed 70 = .ok (.iadd, 1) := by decide +kernel
theorem dX12_feed_71 : decode cX12_feed 71 = .ok (.putfield 193, 3) := by decide +kernel
theorem dX12_feed_74 : decode cX12_feed 74 = .ok (.iinc 3 (-1), 3) := by decide +kernel
theorem dX12_feed_77 : decode cX12_feed 77 = .ok (.goto (-36), 3) := by decide +kernel
theorem dX12_feed_80 : decode cX12_feed 80 = .ok (.aload_n 0, 1) := by decide +kernel
theorem dX12_feed_81 : decode cX12_feed 81 = .ok (.getfield 193, 3) := by decide +kernel
theorem dX12_feed_84 : decode cX12_feed 84 = .ok (.ireturn, 1) := by decide +kernel
theorem dX12_wipe_0 : decode cX12_wipe 0 = .ok (.aload_n 0, 1) := by decide +kernel
theorem dX12_wipe_1 : decode cX12_wipe 1 = .ok (.getfield 193, 3) := by decide +kernel
theorem dX12_wipe_4 : decode cX12_wipe 4 = .ok (.istore_n 1, 1) := by decide +kernel
theorem dX12_wipe_5 : decode cX12_wipe 5 = .ok (.aload_n 0, 1) := by decide +kernel
theorem dX12_wipe_6 : decode cX12_wipe 6 = .ok (.iconst 0, 1) := by decide +kernel
theorem dX12_wipe_7 : decode cX12_wipe 7 = .ok (.putfield 193, 3) := by decide +kernel
theorem dX12_wipe_10 : decode cX12_wipe 10 = .ok (.iload_n 1, 1) := by decide +kernel
theorem dX12_wipe_11 : decode cX12_wipe 11 = .ok (.ireturn, 1) := by decide +kernel
theorem dX12_byteAt_0 : decode cX12_byteAt 0 = .ok (.iload_n 1, 1) := by decide +kernel
theorem dX12_byteAt_1 : decode cX12_byteAt 1 = .ok (.aload_n 0, 1) := by decide +kernel
theorem dX12_byteAt_2 : decode cX12_byteAt 2 = .ok (.getfield 193, 3) := by decide +kernel
theorem dX12_byteAt_5 : decode cX12_byteAt 5 = .ok (.if_icmp .ge 12, 3) := by decide +kernel
theorem dX12_byteAt_8 : decode cX12_byteAt 8 = .ok (.aload_n 0, 1) := by decide +kernel
theorem dX12_byteAt_9 : decode cX12_byteAt 9 = .ok (.getfield 25, 3) := by decide +kernel
theorem dX12_byteAt_12 : decode cX12_byteAt 12 = .ok (.iload_n 1, 1) := by decide +kernel
theorem dX12_byteAt_13 : decode cX12_byteAt 13 = .ok (.iaload, 1) := by decide +kernel
theorem dX12_byteAt_14 : decode cX12_byteAt 14 = .ok (.goto 4, 3) := by decide +kernel
theorem dX12_byteAt_17 : decode cX12_byteAt 17 = .ok (.iconst (-1), 1) := by decide +kernel
theorem dX12_byteAt_18 : decode cX12_byteAt 18 = .ok (.ireturn, 1) := by decide +kernel
theorem dX12_isLetter_0 : decode cX12_isLetter 0 = .ok (.iload_n 0, 1) := by decide +kernel
theorem dX12_isLetter_1 : decode cX12_isLetter 1 = .ok (.i2l, 1) := by decide +kernel
theorem dX12_isLetter_2 : decode cX12_isLetter 2 = .ok (.ldc2_w 197, 3) := by decide +kernel
theorem dX12_isLetter_5 : decode cX12_isLetter 5 = .ok (.ldc2_w 199, 3) := by decide +kernel
theorem dX12_isLetter_8 : decode cX12_isLetter 8 = .ok (.invokestatic 46, 3) := by decide +kernel
theorem dX12_isLetter_11 : decode cX12_isLetter 11 = .ok (.ireturn, 1) := by decide +kernel
theorem dX12_isDigit_0 : decode cX12_isDigit 0 = .ok (.iload_n 0, 1) := by decide +kernel
theorem dX12_isDigit_1 : decode cX12_isDigit 1 = .ok (.i2l, 1) := by decide +kernel
theorem dX12_isDigit_2 : decode cX12_isDigit 2 = .ok (.ldc2_w 201, 3) := by decide +kernel
theorem dX12_isDigit_5 : decode cX12_isDigit 5 = .ok (.ldc2_w 203, 3) := by decide +kernel
theorem dX12_isDigit_8 : decode cX12_isDigit 8 = .ok (.invokestatic 46, 3) := by decide +kernel
theorem dX12_isDigit_11 : decode cX12_isDigit 11 = .ok (.ireturn, 1) := by decide +kernel
theorem dX12_token_0 : decode cX12_token 0 = .ok (.aload_n 0, 1) := by decide +kernel
theorem dX12_token_1 : decode cX12_token 1 = .ok (.aload_n 0, 1) := by decide +kernel
theorem dX12_token_2 : decode cX12_token 2 = .ok (.getfield 205, 3) := by decide +kernel
theorem dX12_token_5 : decode cX12_token 5 = .ok (.putfield 208, 3) := by decide +kernel
theorem dX12_token_8 : decode cX12_token 8 = .ok (.aload_n 0, 1) := by decide +kernel
theorem dX12_token_9 : decode cX12_token 9 = .ok (.aload_n 0, 1) := by decide +kernel
theorem dX12_token_10 : decode cX12_token 10 = .ok (.getfield 208, 3) := by decide +kernel
theorem dX12_token_13 : decode cX12_token 13 = .ok (.invokevirtual 211, 3) := by decide +kernel
theorem dX12_token_16 : decode cX12_token 16 = .ok (.bipush 32, 2) := by decide +kernel
theorem dX12_token_18 : decode cX12_token 18 = .ok (.if_icmp .ne 16, 3) := by decide +kernel
theorem dX12_token_21 : decode cX12_token 21 = .ok (.aload_n 0, 1) := by decide +kernel
theorem dX12_token_22 : decode cX12_token 22 = .ok (.dup, 1) := by decide +kernel
theorem dX12_token_23 : decode cX12_token 23 = .ok (.getfield 208, 3) := by decide +kernel
theorem dX12_token_26 : decode cX12_token 26 = .ok (.iconst 1, 1) := by decide +kernel
theorem dX12_token_27 : decode cX12_token 27 = .ok (.iadd, 1) := by decide +kernel
theorem dX12_token_28 : decode cX12_token 28 = .ok (.putfield 208, 3) := by decide +kernel
theorem dX12_token_31 : decode cX12_token 31 = .ok (.goto (-23), 3) := by decide +kernel
theorem dX12_token_34 : decode cX12_token 34 = .ok (.aload_n 0, 1) := by decide +kernel
theorem dX12_token_35 : decode cX12_token 35 = .ok (.aload_n 0, 1) := by decide +kernel
theorem dX12_token_36 : decode cX12_token 36 = .ok (.getfield 208, 3) := by decide +kernel
theorem dX12_token_39 : decode cX12_token 39 = .ok (.invokevirtual 211, 3) := by decide +kernel
theorem dX12_token_42 : decode cX12_token 42 = .ok (.invokestatic 214, 3) := by decide +kernel
theorem dX12_token_45 : decode cX12_token 45 = .ok (.istore_n 1, 1) := by decide +kernel
theorem dX12_token_46 : decode cX12_token 46 = .ok (.aload_n 0, 1) := by decide +kernel
theorem dX12_token_47 : decode cX12_token 47 = .ok (.aload_n 0, 1) := by decide +kernel
theorem dX12_token_48 : decode cX12_token 48 = .ok (.getfield 208, 3) := by decide +kernel
theorem dX12_token_51 : decode cX12_token 51 = .ok (.invokevirtual 211, 3) := by decide +kernel
theorem dX12_token_54 : decode cX12_token 54 = .ok (.invokestatic 217, 3) := by decide +kernel
theorem dX12_token_57 : decode cX12_token 57 = .ok (.istore_n 2, 1) := by decide +kernel
theorem dX12_token_58 : decode cX12_token 58 = .ok (.aload_n 0, 1) := by decide +kernel
theorem dX12_token_59 : decode cX12_token 59 = .ok (.aload_n 0, 1) := by decide +kernel
theorem dX12_token_60 : decode cX12_token 60 = .ok (.getfield 208, 3) := by decide +kernel
theorem dX12_token_63 : decode cX12_token 63 = .ok (.aload_n 0, 1) := by decide +kernel
theorem dX12_token_64 : decode cX12_token 64 = .ok (.getfield 193, 3) := by decide +kernel
theorem dX12_token_67 : decode cX12_token 67 = .ok (.if_icmp .ge 12, 3) := by decide +kernel
theorem dX12_token_70 : decode cX12_token 70 = .ok (.aload_n 0, 1) := by decide +kernel
theorem dX12_token_71 : decode cX12_token 71 = .ok (.getfield 208, 3) := by decide +kernel
theorem dX12_token_74 : decode cX12_token 74 = .ok (.iconst 1, 1) := by decide +kernel
theorem dX12_token_75 : decode cX12_token 75 = .ok (.iadd, 1) := by decide +kernel
theorem dX12_token_76 : decode cX12_token 76 = .ok (.goto 7, 3) := by decide +kernel
theorem dX12_token_79 : decode cX12_token 79 = .ok (.aload_n 0, 1) := by decide +kernel
theorem dX12_token_80 : decode cX12_token 80 = .ok (.getfield 208, 3) := by decide +kernel
theorem dX12_token_83 : decode cX12_token 83 = .ok (.putfield 205, 3) := by decide +kernel
theorem dX12_token_86 : decode cX12_token 86 = .ok (.iload_n 1, 1) := by decide +kernel
theorem dX12_token_87 : decode cX12_token 87 = .ok (.ifCond .eq 17, 3) := by decide +kernel
theorem dX12_token_90 : decode cX12_token 90 = .ok (.aload_n 0, 1) := by decide +kernel
theorem dX12_token_91 : decode cX12_token 91 = .ok (.aload_n 0, 1) := by decide +kernel
theorem dX12_token_92 : decode cX12_token 92 = .ok (.getfield 205, 3) := by decide +kernel
theorem dX12_token_95 : decode cX12_token 95 = .ok (.invokevirtual 211, 3) := by decide +kernel
theorem dX12_token_98 : decode cX12_token 98 = .ok (.invokestatic 214, 3) := by decide +kernel
theorem dX12_token_101 : decode cX12_token 101 = .ok (.ifCond .ne 21, 3) := by decide +kernel
theorem dX12_token_104 : decode cX12_token 104 = .ok (.iload_n 2, 1) := by decide +kernel
theorem dX12_token_105 : decode cX12_token 105 = .ok (.ifCond .eq 30, 3) := by decide +kernel
theorem dX12_token_108 : decode cX12_token 108 = .ok (.aload_n 0, 1) := by decide +kernel
theorem dX12_token_109 : decode cX12_token 109 = .ok (.aload_n 0, 1) := by decide +kernel
theorem dX12_token_110 : decode cX12_token 110 = .ok (.getfield 205, 3) := by decide +kernel
theorem dX12_token_113 : decode cX12_token 113 = .ok (.invokevirtual 211, 3) := by decide +kernel
theorem dX12_token_116 : decode cX12_token 116 = .ok (.invokestatic 217, 3) := by decide +kernel
theorem dX12_token_119 : decode cX12_token 119 = .ok (.ifCond .eq 16, 3) := by decide +kernel
theorem dX12_token_122 : decode cX12_token 122 = .ok (.aload_n 0, 1) := by decide +kernel
theorem dX12_token_123 : decode cX12_token 123 = .ok (.dup, 1) := by decide +kernel
theorem dX12_token_124 : decode cX12_token 124 = .ok (.getfield 205, 3) := by decide +kernel
theorem dX12_token_127 : decode cX12_token 127 = .ok (.iconst 1, 1) := by decide +kernel
theorem dX12_token_128 : decode cX12_token 128 = .ok (.iadd, 1) := by decide +kernel
theorem dX12_token_129 : decode cX12_token 129 = .ok (.putfield 205, 3) := by decide +kernel
theorem dX12_token_132 : decode cX12_token 132 = .ok (.goto (-46), 3) := by decide +kernel
theorem dX12_token_135 : decode cX12_token 135 = .ok (.return_, 1) := by decide +kernel
theorem dX12_must_0 : decode cX12_must 0 = .ok (.aload_n 0, 1) := by decide +kernel
theorem dX12_must_1 : decode cX12_must 1 = .ok (.aload_n 0, 1) := by decide +kernel
theorem dX12_must_2 : decode cX12_must 2 = .ok (.getfield 220, 3) := by decide +kernel
theorem dX12_must_5 : decode cX12_must 5 = .ok (.ifCond .ne 7, 3) := by decide +kernel
theorem dX12_must_8 : decode cX12_must 8 = .ok (.iload_n 1, 1) := by decide +kernel
theorem dX12_must_9 : decode cX12_must 9 = .ok (.ifCond .ne 7, 3) := by decide +kernel
theorem dX12_must_12 : decode cX12_must 12 = .ok (.iconst 1, 1) := by decide +kernel
theorem dX12_must_13 : decode cX12_must 13 = .ok (.goto 4, 3) := by decide +kernel
theorem dX12_must_16 : decode cX12_must 16 = .ok (.iconst 0, 1) := by decide +kernel
theorem dX12_must_17 : decode cX12_must 17 = .ok (.putfield 220, 3) := by decide +kernel
theorem dX12_must_20 : decode cX12_must 20 = .ok (.aload_n 0, 1) := by decide +kernel
theorem dX12_must_21 : decode cX12_must 21 = .ok (.getfield 220, 3) := by decide +kernel
theorem dX12_must_24 : decode cX12_must 24 = .ok (.ifCond .ne 7, 3) := by decide +kernel
theorem dX12_must_27 : decode cX12_must 27 = .ok (.aload_n 0, 1) := by decide +kernel
theorem dX12_must_28 : decode cX12_must 28 = .ok (.invokevirtual 224, 3) := by decide +kernel
theorem dX12_must_31 : decode cX12_must 31 = .ok (.return_, 1) := by decide +kernel
theorem dX12_word_0 : decode cX12_word 0 = .ok (.lconst 0, 1) := by decide +kernel
theorem dX12_word_1 : decode cX12_word 1 = .ok (.lstore_n 1, 1) := by decide +kernel
theorem dX12_word_2 : decode cX12_word 2 = .ok (.aload_n 0, 1) := by decide +kernel
theorem dX12_word_3 : decode cX12_word 3 = .ok (.getfield 208, 3) := by decide +kernel
theorem dX12_word_6 : decode cX12_word 6 = .ok (.istore_n 3, 1) := by decide +kernel
theorem dX12_word_7 : decode cX12_word 7 = .ok (.iload_n 3, 1) := by decide +kernel
theorem dX12_word_8 : decode cX12_word 8 = .ok (.aload_n 0, 1) := by decide +kernel
theorem dX12_word_9 : decode cX12_word 9 = .ok (.getfield 205, 3) := by decide +kernel
theorem dX12_word_12 : decode cX12_word 12 = .ok (.if_icmp .ge 38, 3) := by decide +kernel
theorem dX12_word_15 : decode cX12_word 15 = .ok (.lload_n 1, 1) := by decide +kernel
theorem dX12_word_16 : decode cX12_word 16 = .ok (.ldc2_w 227, 3) := by decide +kernel
theorem dX12_word_19 : decode cX12_word 19 = .ok (.lcmp, 1) := by decide +kernel
theorem dX12_word_20 : decode cX12_word 20 = .ok (.ifCond .le 7, 3) := by decide +kernel
theorem dX12_word_23 : decode cX12_word 23 = .ok (.lload_n 1, 1) := by decide +kernel
theorem dX12_word_24 : decode cX12_word 24 = .ok (.goto 19, 3) := by decide +kernel
theorem dX12_word_27 : decode cX12_word 27 = .ok (.ldc2_w 229, 3) := by decide +kernel
theorem dX12_word_30 : decode cX12_word 30 = .ok (.lload_n 1, 1) := by decide +kernel
theorem dX12_word_31 : decode cX12_word 31 = .ok (.lmul, 1) := by decide +kernel
theorem dX12_word_32 : decode cX12_word 32 = .ok (.aload_n 0, 1) := by decide +kernel
theorem dX12_word_33 : decode cX12_word 33 = .ok (.getfield 25, 3) := by decide +kernel
theorem dX12_word_36 : decode cX12_word 36 = .ok (.iload_n 3, 1) := by decide +kernel
theorem dX12_word_37 : decode cX12_word 37 = .ok (.iaload, 1) := by decide +kernel
theorem dX12_word_38 : decode cX12_word 38 = .ok (.bipush 96, 2) := by decide +kernel
theorem dX12_word_40 : decode cX12_word 40 = .ok (.isub, 1) := by decide +kernel
theorem dX12_word_41 : decode cX12_word 41 = .ok (.i2l, 1) := by decide +kernel
theorem dX12_word_42 : decode cX12_word 42 = .ok (.ladd, 1) := by decide +kernel
theorem dX12_word_43 : decode cX12_word 43 = .ok (.lstore_n 1, 1) := by decide +kernel
theorem dX12_word_44 : decode cX12_word 44 = .ok (.iinc 3 1, 3) := by decide +kernel
theorem dX12_word_47 : decode cX12_word 47 = .ok (.goto (-40), 3) := by decide +kernel
theorem dX12_word_50 : decode cX12_word 50 = .ok (.aload_n 0, 1) := by decide +kernel
theorem dX12_word_51 : decode cX12_word 51 = .ok (.getfield 220, 3) := by decide +kernel
theorem dX12_word_54 : decode cX12_word 54 = .ok (.ifCond .ne 17, 3) := by decide +kernel
theorem dX12_word_57 : decode cX12_word 57 = .ok (.aload_n 0, 1) := by decide +kernel
theorem dX12_word_58 : decode cX12_word 58 = .ok (.aload_n 0, 1) := by decide +kernel
theorem dX12_word_59 : decode cX12_word 59 = .ok (.getfield 208, 3) := by decide +kernel
theorem dX12_word_62 : decode cX12_word 62 = .ok (.invokevirtual 211, 3) := by decide +kernel
theorem dX12_word_65 : decode cX12_word 65 = .ok (.invokestatic 214, 3) := by decide +kernel
theorem dX12_word_68 : decode cX12_word 68 = .ok (.ifCond .ne 7, 3) := by decide +kernel
theorem dX12_word_71 : decode cX12_word 71 = .ok (.lconst 0, 1) := by decide +kernel
theorem dX12_word_72 : decode cX12_word 72 = .ok (.goto 4, 3) := by decide +kernel
theorem dX12_word_75 : decode cX12_word 75 = .ok (.lload_n 1, 1) := by decide +kernel
theorem dX12_word_76 : decode cX12_word 76 = .ok (.lreturn, 1) := by decide +kernel
theorem dX12_number_0 : decode cX12_number 0 = .ok (.aload_n 0, 1) := by decide +kernel
theorem dX12_number_1 : decode cX12_number 1 = .ok (.getfield 220, 3) := by decide +kernel
theorem dX12_number_4 : decode cX12_number 4 = .ok (.ifCond .eq 4, 3) := by decide +kernel
theorem dX12_number_7 : decode cX12_number 7 = .ok (.return_, 1) := by decide +kernel
theorem dX12_number_8 : decode cX12_number 8 = .ok (.aload_n 0, 1) := by decide +kernel
theorem dX12_number_9 : decode cX12_number 9 = .ok (.aload_n 0, 1) := by decide +kernel
theorem dX12_number_10 : decode cX12_number 10 = .ok (.getfield 208, 3) := by decide +kernel
theorem dX12_number_13 : decode cX12_number 13 = .ok (.invokevirtual 211, 3) := by decide +kernel
theorem dX12_number_16 : decode cX12_number 16 = .ok (.invokestatic 217, 3) := by decide +kernel
theorem dX12_number_19 : decode cX12_number 19 = .ok (.istore_n 3, 1) := by decide +kernel
theorem dX12_number_20 : decode cX12_number 20 = .ok (.iconst 0, 1) := by decide +kernel
theorem dX12_number_21 : decode cX12_number 21 = .ok (.istore 4, 2) := by decide +kernel
theorem dX12_number_23 : decode cX12_number 23 = .ok (.aload_n 0, 1) := by decide +kernel
theorem dX12_number_24 : decode cX12_number 24 = .ok (.getfield 208, 3) := by decide +kernel
theorem dX12_number_27 : decode cX12_number 27 = .ok (.istore 5, 2) := by decide +kernel
theorem dX12_number_29 : decode cX12_number 29 = .ok (.iload 5, 2) := by decide +kernel
theorem dX12_number_31 : decode cX12_number 31 = .ok (.aload_n 0, 1) := by decide +kernel
theorem dX12_number_32 : decode cX12_number 32 = .ok (.getfield 205, 3) := by decide +kernel
theorem dX12_number_35 : decode cX12_number 35 = .ok (.if_icmp .ge 44, 3) := by decide +kernel
theorem dX12_number_38 : decode cX12_number 38 = .ok (.iload_n 3, 1) := by decide +kernel
theorem dX12_number_39 : decode cX12_number 39 = .ok (.ifCond .eq 40, 3) := by decide +kernel
theorem dX12_number_42 : decode cX12_number 42 = .ok (.iload 4, 2) := by decide +kernel
theorem dX12_number_44 : decode cX12_number 44 = .ok (.sipush 999, 3) := by decide +kernel
theorem dX12_number_47 : decode cX12_number 47 = .ok (.if_icmp .le 8, 3) := by decide +kernel
theorem dX12_number_50 : decode cX12_number 50 = .ok (.iload 4, 2) := by decide +kernel
theorem dX12_number_52 : decode cX12_number 52 = .ok (.goto 19, 3) := by decide +kernel
theorem dX12_number_55 : decode cX12_number 55 = .ok (.bipush 10, 2) := by decide +kernel
theorem dX12_number_57 : decode cX12_number 57 = .ok (.iload 4, 2) := by decide +kernel
theorem dX12_number_59 : decode cX12_number 59 = .ok (.imul, 1) := by decide +kernel
theorem dX12_number_60 : decode cX12_number 60 = .ok (.aload_n 0, 1) := by decide +kernel
theorem dX12_number_61 : decode cX12_number 61 = .ok (.getfield 25, 3) := by decide +kernel
theorem dX12_number_64 : decode cX12_number 64 = .ok (.iload 5, 2) := by decide +kernel
theorem dX12_number_66 : decode cX12_number 66 = .ok (.iaload, 1) := by decide +kernel
theorem dX12_number_67 : decode cX12_number 67 = .ok (.iadd, 1) := by decide +kernel
theorem dX12_number_68 : decode cX12_number 68 = .ok (.bipush 48, 2) := by decide +kernel
theorem dX12_number_70 : decode cX12_number 70 = .ok (.isub, 1) := by decide +kernel
theorem dX12_number_71 : decode cX12_number 71 = .ok (.istore 4, 2) := by decide +kernel
theorem dX12_number_73 : decode cX12_number 73 = .ok (.iinc 5 1, 3) := by decide +kernel
theorem dX12_number_76 : decode cX12_number 76 = .ok (.goto (-47), 3) := by decide +kernel
theorem dX12_number_79 : decode cX12_number 79 = .ok (.aload_n 0, 1) := by decide +kernel
theorem dX12_number_80 : decode cX12_number 80 = .ok (.iload 4, 2) := by decide +kernel
theorem dX12_number_82 : decode cX12_number 82 = .ok (.putfield 231, 3) := by decide +kernel
theorem dX12_number_85 : decode cX12_number 85 = .ok (.aload_n 0, 1) := by decide +kernel
theorem dX12_number_86 : decode cX12_number 86 = .ok (.iload_n 3, 1) := by decide +kernel
theorem dX12_number_87 : decode cX12_number 87 = .ok (.ifCond .eq 20, 3) := by decide +kernel
theorem dX12_number_90 : decode cX12_number 90 = .ok (.iload 4, 2) := by decide +kernel
theorem dX12_number_92 : decode cX12_number 92 = .ok (.i2l, 1) := by decide +kernel
theorem dX12_number_93 : decode cX12_number 93 = .ok (.iload_n 1, 1) := by decide +kernel
theorem dX12_number_94 : decode cX12_number 94 = .ok (.i2l, 1) := by decide +kernel
theorem dX12_number_95 : decode cX12_number 95 = .ok (.iload_n 2, 1) := by decide +kernel
theorem dX12_number_96 : decode cX12_number 96 = .ok (.i2l, 1) := by decide +kernel
theorem dX12_number_97 : decode cX12_number 97 = .ok (.invokestatic 46, 3) := by decide +kernel
theorem dX12_number_100 : decode cX12_number 100 = .ok (.ifCond .eq 7, 3) := by decide +kernel
theorem dX12_number_103 : decode cX12_number 103 = .ok (.iconst 1, 1) := by decide +kernel
theorem dX12_number_104 : decode cX12_number 104 = .ok (.goto 4, 3) := by decide +kernel
theorem dX12_number_107 : decode cX12_number 107 = .ok (.iconst 0, 1) := by decide +kernel
theorem dX12_number_108 : decode cX12_number 108 = .ok (.invokevirtual 234, 3) := by decide +kernel
theorem dX12_number_111 : decode cX12_number 111 = .ok (.return_, 1) := by decide +kernel
theorem dX12_kindHere_0 : decode cX12_kindHere 0 = .ok (.aload_n 0, 1) := by decide +kernel
theorem dX12_kindHere_1 : decode cX12_kindHere 1 = .ok (.invokevirtual 238, 3) := by decide +kernel
theorem dX12_kindHere_4 : decode cX12_kindHere 4 = .ok (.lstore_n 1, 1) := by decide +kernel
theorem dX12_kindHere_5 : decode cX12_kindHere 5 = .ok (.lload_n 1, 1) := by decide +kernel
theorem dX12_kindHere_6 : decode cX12_kindHere 6 = .ok (.ldc2_w 242, 3) := by decide +kernel
theorem dX12_kindHere_9 : decode cX12_kindHere 9 = .ok (.lcmp, 1) := by decide +kernel
theorem dX12_kindHere_10 : decode cX12_kindHere 10 = .ok (.ifCond .ne 7, 3) := by decide +kernel
theorem dX12_kindHere_13 : decode cX12_kindHere 13 = .ok (.iconst 0, 1) := by decide +kernel
theorem dX12_kindHere_14 : decode cX12_kindHere 14 = .ok (.goto 64, 3) := by decide +kernel
theorem dX12_kindHere_17 : decode cX12_kindHere 17 = .ok (.lload_n 1, 1) := by decide +kernel
theorem dX12_kindHere_18 : decode cX12_kindHere 18 = .ok (.ldc2_w 244, 3) := by decide +kernel
theorem dX12_kindHere_21 : decode cX12_kindHere 21 = .ok (.lcmp, 1) := by decide +kernel
theorem dX12_kindHere_22 : decode cX12_kindHere 22 = .ok (.ifCond .ne 7, 3) := by decide +kernel
theorem dX12_kindHere_25 : decode cX12_kindHere 25 = .ok (.iconst 1, 1) := by decide +kernel
theorem dX12_kindHere_26 : decode cX12_kindHere 26 = .ok (.goto 52, 3) := by decide +kernel
theorem dX12_kindHere_29 : decode cX12_kindHere 29 = .ok (.lload_n 1, 1) := by decide +kernel
theorem dX12_kindHere_30 : decode cX12_kindHere 30 = .ok (.ldc2_w 246, 3) := by decide +kernel
theorem dX12_kindHere_33 : decode cX12_kindHere 33 = .ok (.lcmp, 1) := by decide +kernel
theorem dX12_kindHere_34 : decode cX12_kindHere 34 = .ok (.ifCond .ne 7, 3) := by decide +kernel
theorem dX12_kindHere_37 : decode cX12_kindHere 37 = .ok (.iconst 2, 1) := by decide +kernel
theorem dX12_kindHere_38 : decode cX12_kindHere 38 = .ok (.goto 40, 3) := by decide +kernel
theorem dX12_kindHere_41 : decode cX12_kindHere 41 = .ok (.lload_n 1, 1) := by decide +kernel
theorem dX12_kindHere_42 : decode cX12_kindHere 42 = .ok (.ldc2_w 248, 3) := by decide +kernel
theorem dX12_kindHere_45 : decode cX12_kindHere 45 = .ok (.lcmp, 1) := by decide +kernel
theorem dX12_kindHere_46 : decode cX12_kindHere 46 = .ok (.ifCond .ne 7, 3) := by decide +kernel
theorem dX12_kindHere_49 : decode cX12_kindHere 49 = .ok (.iconst 3, 1) := by decide +kernel
theorem dX12_kindHere_50 : decode cX12_kindHere 50 = .ok (.goto 28, 3) := by decide +kernel
theorem dX12_kindHere_53 : decode cX12_kindHere 53 = .ok (.lload_n 1, 1) := by decide +kernel
theorem dX12_kindHere_54 : decode cX12_kindHere 54 = .ok (.ldc2_w 250, 3) := by decide +kernel
theorem dX12_kindHere_57 : decode cX12_kindHere 57 = .ok (.lcmp, 1) := by decide +kernel
theorem dX12_kindHere_58 : decode cX12_kindHere 58 = .ok (.ifCond .ne 7, 3) := by decide +kernel
theorem dX12_kindHere_61 : decode cX12_kindHere 61 = .ok (.iconst 4, 1) := by decide +kernel
theorem dX12_kindHere_62 : decode cX12_kindHere 62 = .ok (.goto 16, 3) := by decide +kernel
theorem dX12_kindHere_65 : decode cX12_kindHere 65 = .ok (.lload_n 1, 1) := by decide +kernel
theorem dX12_kindHere_66 : decode cX12_kindHere 66 = .ok (.ldc2_w 252, 3) := by decide +kernel
theorem dX12_kindHere_69 : decode cX12_kindHere 69 = .ok (.lcmp, 1) := by decide +kernel
theorem dX12_kindHere_70 : decode cX12_kindHere 70 = .ok (.ifCond .ne 7, 3) := by decide +kernel
theorem dX12_kindHere_73 : decode cX12_kindHere 73 = .ok (.iconst 5, 1) := by decide +kernel
theorem dX12_kindHere_74 : decode cX12_kindHere 74 = .ok (.goto 4, 3) := by decide +kernel
theorem dX12_kindHere_77 : decode cX12_kindHere 77 = .ok (.iconst (-1), 1) := by decide +kernel
theorem dX12_kindHere_78 : decode cX12_kindHere 78 = .ok (.ireturn, 1) := by decide +kernel
theorem dX12_garmentItem_0 : decode cX12_garmentItem 0 = .ok (.aload_n 0, 1) := by decide +kernel
theorem dX12_garmentItem_1 : decode cX12_garmentItem 1 = .ok (.aload_n 0, 1) := by decide +kernel
theorem dX12_garmentItem_2 : decode cX12_garmentItem 2 = .ok (.getfield 7, 3) := by decide +kernel
theorem dX12_garmentItem_5 : decode cX12_garmentItem 5 = .ok (.iconst 1, 1) := by decide +kernel
theorem dX12_garmentItem_6 : decode cX12_garmentItem 6 = .ok (.iaload, 1) := by decide +kernel
theorem dX12_garmentItem_7 : decode cX12_garmentItem 7 = .ok (.bipush 8, 2) := by decide +kernel
theorem dX12_garmentItem_9 : decode cX12_garmentItem 9 = .ok (.if_icmp .ge 7, 3) := by decide +kernel
theorem dX12_garmentItem_12 : decode cX12_garmentItem 12 = .ok (.iconst 1, 1) := by decide +kernel
theorem dX12_garmentItem_13 : decode cX12_garmentItem 13 = .ok (.goto 4, 3) := by decide +kernel
theorem dX12_garmentItem_16 : decode cX12_garmentItem 16 = .ok (.iconst 0, 1) := by decide +kernel
theorem dX12_garmentItem_17 : decode cX12_garmentItem 17 = .ok (.invokevirtual 234, 3) := by decide +kernel
theorem dX12_garmentItem_20 : decode cX12_garmentItem 20 = .ok (.aload_n 0, 1) := by decide +kernel
theorem dX12_garmentItem_21 : decode cX12_garmentItem 21 = .ok (.getfield 220, 3) := by decide +kernel
theorem dX12_garmentItem_24 : decode cX12_garmentItem 24 = .ok (.ifCond .eq 4, 3) := by decide +kernel
theorem dX12_garmentItem_27 : decode cX12_garmentItem 27 = .ok (.return_, 1) := by decide +kernel
theorem dX12_garmentItem_28 : decode cX12_garmentItem 28 = .ok (.aload_n 0, 1) := by decide +kernel
theorem dX12_garmentItem_29 : decode cX12_garmentItem 29 = .ok (.iload_n 1, 1) := by decide +kernel
theorem dX12_garmentItem_30 : decode cX12_garmentItem 30 = .ok (.invokevirtual 100, 3) := by decide +kernel
theorem dX12_garmentItem_33 : decode cX12_garmentItem 33 = .ok (.istore_n 2, 1) := by decide +kernel
theorem dX12_garmentItem_34 : decode cX12_garmentItem 34 = .ok (.aload_n 0, 1) := by decide +kernel
theorem dX12_garmentItem_35 : decode cX12_garmentItem 35 = .ok (.invokevirtual 238, 3) := by decide +kernel
theorem dX12_garmentItem_38 : decode cX12_garmentItem 38 = .ok (.ldc2_w 254, 3) := by decide +kernel
theorem dX12_garmentItem_41 : decode cX12_garmentItem 41 = .ok (.lcmp, 1) := by decide +kernel
theorem dX12_garmentItem_42 : decode cX12_garmentItem 42 = .ok (.ifCond .ne 54, 3) := by decide +kernel
theorem dX12_garmentItem_45 : decode cX12_garmentItem 45 = .ok (.aload_n 0, 1) := by decide +kernel
theorem dX12_garmentItem_46 : decode cX12_garmentItem 46 = .ok (.iconst 1, 1) := by decide +kernel
theorem dX12_garmentItem_47 : decode cX12_garmentItem 47 = .ok (.invokevirtual 234, 3) := by decide +kernel
theorem dX12_garmentItem_50 : decode cX12_garmentItem 50 = .ok (.aload_n 0, 1) := by decide +kernel
theorem dX12_garmentItem_51 : decode cX12_garmentItem 51 = .ok (.bipush 10, 2) := by decide +kernel
theorem dX12_garmentItem_53 : decode cX12_garmentItem 53 = .ok (.sipush 200, 3) := by decide +kernel
theorem dX12_garmentItem_56 : decode cX12_garmentItem 56 = .ok (.invokevirtual 256, 3) := by decide +kernel
theorem dX12_garmentItem_59 : decode cX12_garmentItem 59 = .ok (.aload_n 0, 1) := by decide +kernel
theorem dX12_garmentItem_60 : decode cX12_garmentItem 60 = .ok (.getfield 7, 3) := by decide +kernel
theorem dX12_garmentItem_63 : decode cX12_garmentItem 63 = .ok (.iload_n 2, 1) := by decide +kernel
theorem dX12_garmentItem_64 : decode cX12_garmentItem 64 = .ok (.iconst 1, 1) := by decide +kernel
theorem dX12_garmentItem_65 : decode cX12_garmentItem 65 = .ok (.invokestatic 42, 3) := by decide +kernel
theorem dX12_garmentItem_68 : decode cX12_garmentItem 68 = .ok (.aload_n 0, 1) := by decide +kernel
theorem dX12_garmentItem_69 : decode cX12_garmentItem 69 = .ok (.getfield 231, 3) := by decide +kernel
theorem dX12_garmentItem_72 : decode cX12_garmentItem 72 = .ok (.iastore, 1) := by decide +kernel
theorem dX12_garmentItem_73 : decode cX12_garmentItem 73 = .ok (.aload_n 0, 1) := by decide +kernel
theorem dX12_garmentItem_74 : decode cX12_garmentItem 74 = .ok (.bipush 10, 2) := by decide +kernel
theorem dX12_garmentItem_76 : decode cX12_garmentItem 76 = .ok (.sipush 200, 3) := by decide +kernel
theorem dX12_garmentItem_79 : decode cX12_garmentItem 79 = .ok (.invokevirtual 256, 3) := by decide +kernel
theorem dX12_garmentItem_82 : decode cX12_garmentItem 82 = .ok (.aload_n 0, 1) := by decide +kernel
theorem dX12_garmentItem_83 : decode cX12_garmentItem 83 = .ok (.getfield 7, 3) := by decide +kernel
theorem dX12_garmentItem_86 : decode cX12_garmentItem 86 = .ok (.iload_n 2, 1) := by decide +kernel
theorem dX12_garmentItem_87 : decode cX12_garmentItem 87 = .ok (.iconst 2, 1) := by decide +kernel
theorem dX12_garmentItem_88 : decode cX12_garmentItem 88 = .ok (.invokestatic 42, 3) := by decide +kernel
theorem dX12_garmentItem_91 : decode cX12_garmentItem 91 = .ok (.aload_n 0, 1) := by decide +kernel
theorem dX12_garmentItem_92 : decode cX12_garmentItem 92 = .ok (.getfield 231, 3) := by decide +kernel
theorem dX12_garmentItem_95 : decode cX12_garmentItem 95 = .ok (.iastore, 1) := by decide +kernel
theorem dX12_garmentItem_96 : decode cX12_garmentItem 96 = .ok (.aload_n 0, 1) := by decide +kernel
theorem dX12_garmentItem_97 : decode cX12_garmentItem 97 = .ok (.invokevirtual 238, 3) := by decide +kernel
theorem dX12_garmentItem_100 : decode cX12_garmentItem 100 = .ok (.ldc2_w 259, 3) := by decide +kernel
theorem dX12_garmentItem_103 : decode cX12_garmentItem 103 = .ok (.lcmp, 1) := by decide +kernel
theorem dX12_garmentItem_104 : decode cX12_garmentItem 104 = .ok (.ifCond .ne 29, 3) := by decide +kernel
theorem dX12_garmentItem_107 : decode cX12_garmentItem 107 = .ok (.aload_n 0, 1) := by decide +kernel
theorem dX12_garmentItem_108 : decode cX12_garmentItem 108 = .ok (.iconst 1, 1) := by decide +kernel
theorem dX12_garmentItem_109 : decode cX12_garmentItem 109 = .ok (.invokevirtual 234, 3) := by decide +kernel
theorem dX12_garmentItem_112 : decode cX12_garmentItem 112 = .ok (.aload_n 0, 1) := by decide +kernel
theorem dX12_garmentItem_113 : decode cX12_garmentItem 113 = .ok (.iconst 1, 1) := by decide +kernel
theorem dX12_garmentItem_114 : decode cX12_garmentItem 114 = .ok (.bipush 99, 2) := by decide +kernel
theorem dX12_garmentItem_116 : decode cX12_garmentItem 116 = .ok (.invokevirtual 256, 3) := by decide +kernel
theorem dX12_garmentItem_119 : decode cX12_garmentItem 119 = .ok (.aload_n 0, 1) := by decide +kernel
theorem dX12_garmentItem_120 : decode cX12_garmentItem 120 = .ok (.getfield 7, 3) := by decide +kernel
theorem dX12_garmentItem_123 : decode cX12_garmentItem 123 = .ok (.iload_n 2, 1) := by decide +kernel
theorem dX12_garmentItem_124 : decode cX12_garmentItem 124 = .ok (.iconst 3, 1) := by decide +kernel
theorem dX12_garmentItem_125 : decode cX12_garmentItem 125 = .ok (.invokestatic 42, 3) := by decide +kernel
theorem dX12_garmentItem_128 : decode cX12_garmentItem 128 = .ok (.aload_n 0, 1) := by decide +kernel
theorem dX12_garmentItem_129 : decode cX12_garmentItem 129 = .ok (.getfield 231, 3) := by decide +kernel
theorem dX12_garmentItem_132 : decode cX12_garmentItem 132 = .ok (.iastore, 1) := by decide +kernel
theorem dX12_garmentItem_133 : decode cX12_garmentItem 133 = .ok (.return_, 1) := by decide +kernel
theorem dX12_personItem_0 : decode cX12_personItem 0 = .ok (.aload_n 0, 1) := by decide +kernel
theorem dX12_personItem_1 : decode cX12_personItem 1 = .ok (.aload_n 0, 1) := by decide +kernel
theorem dX12_personItem_2 : decode cX12_personItem 2 = .ok (.getfield 7, 3) := by decide +kernel
theorem dX12_personItem_5 : decode cX12_personItem 5 = .ok (.iconst 2, 1) := by decide +kernel
theorem dX12_personItem_6 : decode cX12_personItem 6 = .ok (.iaload, 1) := by decide +kernel
theorem dX12_personItem_7 : decode cX12_personItem 7 = .ok (.bipush 6, 2) := by decide +kernel
theorem dX12_personItem_9 : decode cX12_personItem 9 = .ok (.if_icmp .ge 7, 3) := by decide +kernel
theorem dX12_personItem_12 : decode cX12_personItem 12 = .ok (.iconst 1, 1) := by decide +kernel
theorem dX12_personItem_13 : decode cX12_personItem 13 = .ok (.goto 4, 3) := by decide +kernel
theorem dX12_personItem_16 : decode cX12_personItem 16 = .ok (.iconst 0, 1) := by decide +kernel
theorem dX12_personItem_17 : decode cX12_personItem 17 = .ok (.invokevirtual 234, 3) := by decide +kernel
theorem dX12_personItem_20 : decode cX12_personItem 20 = .ok (.aload_n 0, 1) := by decide +kernel
theorem dX12_personItem_21 : decode cX12_personItem 21 = .ok (.bipush 10, 2) := by decide +kernel
theorem dX12_personItem_23 : decode cX12_personItem 23 = .ok (.sipush 200, 3) := by decide +kernel
theorem dX12_personItem_26 : decode cX12_personItem 26 = .ok (.invokevirtual 256, 3) := by decide +kernel
theorem dX12_personItem_29 : decode cX12_personItem 29 = .ok (.aload_n 0, 1) := by decide +kernel
theorem dX12_personItem_30 : decode cX12_personItem 30 = .ok (.getfield 231, 3) := by decide +kernel
theorem dX12_personItem_33 : decode cX12_personItem 33 = .ok (.istore_n 1, 1) := by decide +kernel
theorem dX12_personItem_34 : decode cX12_personItem 34 = .ok (.aload_n 0, 1) := by decide +kernel
theorem dX12_personItem_35 : decode cX12_personItem 35 = .ok (.bipush 10, 2) := by decide +kernel
theorem dX12_personItem_37 : decode cX12_personItem 37 = .ok (.sipush 200, 3) := by decide +kernel
theorem dX12_personItem_40 : decode cX12_personItem 40 = .ok (.invokevirtual 256, 3) := by decide +kernel
theorem dX12_personItem_43 : decode cX12_personItem 43 = .ok (.aload_n 0, 1) := by decide +kernel
theorem dX12_personItem_44 : decode cX12_personItem 44 = .ok (.getfield 220, 3) := by decide +kernel
theorem dX12_personItem_47 : decode cX12_personItem 47 = .ok (.ifCond .ne 13, 3) := by decide +kernel
theorem dX12_personItem_50 : decode cX12_personItem 50 = .ok (.aload_n 0, 1) := by decide +kernel
theorem dX12_personItem_51 : decode cX12_personItem 51 = .ok (.iload_n 1, 1) := by decide +kernel
theorem dX12_personItem_52 : decode cX12_personItem 52 = .ok (.aload_n 0, 1) := by decide +kernel
theorem dX12_personItem_53 : decode cX12_personItem 53 = .ok (.getfield 231, 3) := by decide +kernel
theorem dX12_personItem_56 : decode cX12_personItem 56 = .ok (.invokevirtual 147, 3) := by decide +kernel
theorem dX12_personItem_59 : decode cX12_personItem 59 = .ok (.pop, 1) := by decide +kernel
theorem dX12_personItem_60 : decode cX12_personItem 60 = .ok (.return_, 1) := by decide +kernel
theorem dX12_degreesItem_0 : decode cX12_degreesItem 0 = .ok (.aload_n 0, 1) := by decide +kernel
theorem dX12_degreesItem_1 : decode cX12_degreesItem 1 = .ok (.iconst 1, 1) := by decide +kernel
theorem dX12_degreesItem_2 : decode cX12_degreesItem 2 = .ok (.invokevirtual 234, 3) := by decide +kernel
theorem dX12_degreesItem_5 : decode cX12_degreesItem 5 = .ok (.aload_n 0, 1) := by decide +kernel
theorem dX12_degreesItem_6 : decode cX12_degreesItem 6 = .ok (.bipush 20, 2) := by decide +kernel
theorem dX12_degreesItem_8 : decode cX12_degreesItem 8 = .ok (.bipush 95, 2) := by decide +kernel
theorem dX12_degreesItem_10 : decode cX12_degreesItem 10 = .ok (.invokevirtual 256, 3) := by decide +kernel
theorem dX12_degreesItem_13 : decode cX12_degreesItem 13 = .ok (.aload_n 0, 1) := by decide +kernel
theorem dX12_degreesItem_14 : decode cX12_degreesItem 14 = .ok (.getfield 7, 3) := by decide +kernel
theorem dX12_degreesItem_17 : decode cX12_degreesItem 17 = .ok (.iconst 3, 1) := by decide +kernel
theorem dX12_degreesItem_18 : decode cX12_degreesItem 18 = .ok (.aload_n 0, 1) := by decide +kernel
theorem dX12_degreesItem_19 : decode cX12_degreesItem 19 = .ok (.getfield 220, 3) := by decide +kernel
theorem dX12_degreesItem_22 : decode cX12_degreesItem 22 = .ok (.ifCond .eq 12, 3) := by decide +kernel
theorem dX12_degreesItem_25 : decode cX12_degreesItem 25 = .ok (.aload_n 0, 1) := by decide +kernel
theorem dX12_degreesItem_26 : decode cX12_degreesItem 26 = .ok (.getfield 7, 3) := by decide +kernel
theorem dX12_degreesItem_29 : decode cX12_degreesItem 29 = .ok (.iconst 3, 1) := by decide +kernel
theorem dX12_degreesItem_30 : decode cX12_degreesItem 30 = .ok (.iaload, 1) := by decide +kernel
theorem dX12_degreesItem_31 : decode cX12_degreesItem 31 = .ok (.goto 7, 3) := by decide +kernel
theorem dX12_degreesItem_34 : decode cX12_degreesItem 34 = .ok (.aload_n 0, 1) := by decide +kernel
theorem dX12_degreesItem_35 : decode cX12_degreesItem 35 = .ok (.getfield 231, 3) := by decide +kernel
theorem dX12_degreesItem_38 : decode cX12_degreesItem 38 = .ok (.iastore, 1) := by decide +kernel
theorem dX12_degreesItem_39 : decode cX12_degreesItem 39 = .ok (.return_, 1) := by decide +kernel
theorem dX12_washItem_0 : decode cX12_washItem 0 = .ok (.aload_n 0, 1) := by decide +kernel
theorem dX12_washItem_1 : decode cX12_washItem 1 = .ok (.iconst 1, 1) := by decide +kernel
theorem dX12_washItem_2 : decode cX12_washItem 2 = .ok (.invokevirtual 234, 3) := by decide +kernel
theorem dX12_washItem_5 : decode cX12_washItem 5 = .ok (.aload_n 0, 1) := by decide +kernel
theorem dX12_washItem_6 : decode cX12_washItem 6 = .ok (.iconst 0, 1) := by decide +kernel
theorem dX12_washItem_7 : decode cX12_washItem 7 = .ok (.aload_n 0, 1) := by decide +kernel
theorem dX12_washItem_8 : decode cX12_washItem 8 = .ok (.getfield 7, 3) := by decide +kernel
theorem dX12_washItem_11 : decode cX12_washItem 11 = .ok (.iconst 1, 1) := by decide +kernel
theorem dX12_washItem_12 : decode cX12_washItem 12 = .ok (.iaload, 1) := by decide +kernel
theorem dX12_washItem_13 : decode cX12_washItem 13 = .ok (.iconst 1, 1) := by decide +kernel
theorem dX12_washItem_14 : decode cX12_washItem 14 = .ok (.isub, 1) := by decide +kernel
theorem dX12_washItem_15 : decode cX12_washItem 15 = .ok (.invokevirtual 256, 3) := by decide +kernel
theorem dX12_washItem_18 : decode cX12_washItem 18 = .ok (.aload_n 0, 1) := by decide +kernel
theorem dX12_washItem_19 : decode cX12_washItem 19 = .ok (.getfield 220, 3) := by decide +kernel
theorem dX12_washItem_22 : decode cX12_washItem 22 = .ok (.ifCond .ne 12, 3) := by decide +kernel
theorem dX12_washItem_25 : decode cX12_washItem 25 = .ok (.aload_n 0, 1) := by decide +kernel
theorem dX12_washItem_26 : decode cX12_washItem 26 = .ok (.aload_n 0, 1) := by decide +kernel
theorem dX12_washItem_27 : decode cX12_washItem 27 = .ok (.getfield 231, 3) := by decide +kernel
theorem dX12_washItem_30 : decode cX12_washItem 30 = .ok (.invokevirtual 134, 3) := by decide +kernel
theorem dX12_washItem_33 : decode cX12_washItem 33 = .ok (.pop, 1) := by decide +kernel
theorem dX12_washItem_34 : decode cX12_washItem 34 = .ok (.return_, 1) := by decide +kernel
theorem dX12_towelItem_0 : decode cX12_towelItem 0 = .ok (.aload_n 0, 1) := by decide +kernel
theorem dX12_towelItem_1 : decode cX12_towelItem 1 = .ok (.iconst 1, 1) := by decide +kernel
theorem dX12_towelItem_2 : decode cX12_towelItem 2 = .ok (.invokevirtual 234, 3) := by decide +kernel
theorem dX12_towelItem_5 : decode cX12_towelItem 5 = .ok (.aload_n 0, 1) := by decide +kernel
theorem dX12_towelItem_6 : decode cX12_towelItem 6 = .ok (.getfield 7, 3) := by decide +kernel
theorem dX12_towelItem_9 : decode cX12_towelItem 9 = .ok (.iconst 4, 1) := by decide +kernel
theorem dX12_towelItem_10 : decode cX12_towelItem 10 = .ok (.iload_n 1, 1) := by decide +kernel
theorem dX12_towelItem_11 : decode cX12_towelItem 11 = .ok (.ifCond .eq 7, 3) := by decide +kernel
theorem dX12_towelItem_14 : decode cX12_towelItem 14 = .ok (.iconst 1, 1) := by decide +kernel
theorem dX12_towelItem_15 : decode cX12_towelItem 15 = .ok (.goto 4, 3) := by decide +kernel
theorem dX12_towelItem_18 : decode cX12_towelItem 18 = .ok (.iconst 0, 1) := by decide +kernel
theorem dX12_towelItem_19 : decode cX12_towelItem 19 = .ok (.iastore, 1) := by decide +kernel
theorem dX12_towelItem_20 : decode cX12_towelItem 20 = .ok (.return_, 1) := by decide +kernel
theorem dX12_item_0 : decode cX12_item 0 = .ok (.aload_n 0, 1) := by decide +kernel
theorem dX12_item_1 : decode cX12_item 1 = .ok (.invokevirtual 261, 3) := by decide +kernel
theorem dX12_item_4 : decode cX12_item 4 = .ok (.istore_n 1, 1) := by decide +kernel
theorem dX12_item_5 : decode cX12_item 5 = .ok (.aload_n 0, 1) := by decide +kernel
theorem dX12_item_6 : decode cX12_item 6 = .ok (.invokevirtual 238, 3) := by decide +kernel
theorem dX12_item_9 : decode cX12_item 9 = .ok (.lstore_n 2, 1) := by decide +kernel
theorem dX12_item_10 : decode cX12_item 10 = .ok (.iload_n 1, 1) := by decide +kernel
theorem dX12_item_11 : decode cX12_item 11 = .ok (.ifCond .lt 11, 3) := by decide +kernel
theorem dX12_item_14 : decode cX12_item 14 = .ok (.aload_n 0, 1) := by decide +kernel
theorem dX12_item_15 : decode cX12_item 15 = .ok (.iload_n 1, 1) := by decide +kernel
theorem dX12_item_16 : decode cX12_item 16 = .ok (.invokevirtual 264, 3) := by decide +kernel
theorem dX12_item_19 : decode cX12_item 19 = .ok (.goto 89, 3) := by decide +kernel
theorem dX12_item_22 : decode cX12_item 22 = .ok (.lload_n 2, 1) := by decide +kernel
theorem dX12_item_23 : decode cX12_item 23 = .ok (.ldc2_w 267, 3) := by decide +kernel
theorem dX12_item_26 : decode cX12_item 26 = .ok (.lcmp, 1) := by decide +kernel
theorem dX12_item_27 : decode cX12_item 27 = .ok (.ifCond .ne 10, 3) := by decide +kernel
theorem dX12_item_30 : decode cX12_item 30 = .ok (.aload_n 0, 1) := by decide +kernel
theorem dX12_item_31 : decode cX12_item 31 = .ok (.invokevirtual 269, 3) := by decide +kernel
theorem dX12_item_34 : decode cX12_item 34 = .ok (.goto 74, 3) := by decide +kernel
theorem dX12_item_37 : decode cX12_item 37 = .ok (.lload_n 2, 1) := by decide +kernel
theorem dX12_item_38 : decode cX12_item 38 = .ok (.ldc2_w 272, 3) := by decide +kernel
theorem dX12_item_41 : decode cX12_item 41 = .ok (.lcmp, 1) := by decide +kernel
theorem dX12_item_42 : decode cX12_item 42 = .ok (.ifCond .ne 10, 3) := by decide +kernel
theorem dX12_item_45 : decode cX12_item 45 = .ok (.aload_n 0, 1) := by decide +kernel
theorem dX12_item_46 : decode cX12_item 46 = .ok (.invokevirtual 274, 3) := by decide +kernel
theorem dX12_item_49 : decode cX12_item 49 = .ok (.goto 59, 3) := by decide +kernel
theorem dX12_item_52 : decode cX12_item 52 = .ok (.lload_n 2, 1) := by decide +kernel
theorem dX12_item_53 : decode cX12_item 53 = .ok (.ldc2_w 277, 3) := by decide +kernel
theorem dX12_item_56 : decode cX12_item 56 = .ok (.lcmp, 1) := by decide +kernel
theorem dX12_item_57 : decode cX12_item 57 = .ok (.ifCond .eq 11, 3) := by decide +kernel
theorem dX12_item_60 : decode cX12_item 60 = .ok (.lload_n 2, 1) := by decide +kernel
theorem dX12_item_61 : decode cX12_item 61 = .ok (.ldc2_w 279, 3) := by decide +kernel
theorem dX12_item_64 : decode cX12_item 64 = .ok (.lcmp, 1) := by decide +kernel
theorem dX12_item_65 : decode cX12_item 65 = .ok (.ifCond .ne 23, 3) := by decide +kernel
theorem dX12_item_68 : decode cX12_item 68 = .ok (.aload_n 0, 1) := by decide +kernel
theorem dX12_item_69 : decode cX12_item 69 = .ok (.lload_n 2, 1) := by decide +kernel
theorem dX12_item_70 : decode cX12_item 70 = .ok (.ldc2_w 277, 3) := by decide +kernel
theorem dX12_item_73 : decode cX12_item 73 = .ok (.lcmp, 1) := by decide +kernel
theorem dX12_item_74 : decode cX12_item 74 = .ok (.ifCond .ne 7, 3) := by decide +kernel
theorem dX12_item_77 : decode cX12_item 77 = .ok (.iconst 1, 1) := by decide +kernel
theorem dX12_item_78 : decode cX12_item 78 = .ok (.goto 4, 3) := by decide +kernel
theorem dX12_item_81 : decode cX12_item 81 = .ok (.iconst 0, 1) := by decide +kernel
theorem dX12_item_82 : decode cX12_item 82 = .ok (.invokevirtual 281, 3) := by decide +kernel
theorem dX12_item_85 : decode cX12_item 85 = .ok (.goto 23, 3) := by decide +kernel
theorem dX12_item_88 : decode cX12_item 88 = .ok (.lload_n 2, 1) := by decide +kernel
theorem dX12_item_89 : decode cX12_item 89 = .ok (.ldc2_w 284, 3) := by decide +kernel
theorem dX12_item_92 : decode cX12_item 92 = .ok (.lcmp, 1) := by decide +kernel
theorem dX12_item_93 : decode cX12_item 93 = .ok (.ifCond .ne 10, 3) := by decide +kernel
theorem dX12_item_96 : decode cX12_item 96 = .ok (.aload_n 0, 1) := by decide +kernel
theorem dX12_item_97 : decode cX12_item 97 = .ok (.invokevirtual 286, 3) := by decide +kernel
theorem dX12_item_100 : decode cX12_item 100 = .ok (.goto 8, 3) := by decide +kernel
theorem dX12_item_103 : decode cX12_item 103 = .ok (.aload_n 0, 1) := by decide +kernel
theorem dX12_item_104 : decode cX12_item 104 = .ok (.iconst 0, 1) := by decide +kernel
theorem dX12_item_105 : decode cX12_item 105 = .ok (.invokevirtual 234, 3) := by decide +kernel
theorem dX12_item_108 : decode cX12_item 108 = .ok (.return_, 1) := by decide +kernel
theorem dX12_basket_0 : decode cX12_basket 0 = .ok (.aload_n 0, 1) := by decide +kernel
theorem dX12_basket_1 : decode cX12_basket 1 = .ok (.invokevirtual 289, 3) := by decide +kernel
theorem dX12_basket_4 : decode cX12_basket 4 = .ok (.aload_n 0, 1) := by decide +kernel
theorem dX12_basket_5 : decode cX12_basket 5 = .ok (.iconst 0, 1) := by decide +kernel
theorem dX12_basket_6 : decode cX12_basket 6 = .ok (.putfield 220, 3) := by decide +kernel
theorem dX12_basket_9 : decode cX12_basket 9 = .ok (.aload_n 0, 1) := by decide +kernel
theorem dX12_basket_10 : decode cX12_basket 10 = .ok (.iconst 0, 1) := by decide +kernel
theorem dX12_basket_11 : decode cX12_basket 11 = .ok (.putfield 205, 3) := by decide +kernel
theorem dX12_basket_14 : decode cX12_basket 14 = .ok (.aload_n 0, 1) := by decide +kernel
theorem dX12_basket_15 : decode cX12_basket 15 = .ok (.invokevirtual 224, 3) := by decide +kernel
theorem dX12_basket_18 : decode cX12_basket 18 = .ok (.iconst 1, 1) := by decide +kernel
theorem dX12_basket_19 : decode cX12_basket 19 = .ok (.istore_n 1, 1) := by decide +kernel
theorem dX12_basket_20 : decode cX12_basket 20 = .ok (.aload_n 0, 1) := by decide +kernel
theorem dX12_basket_21 : decode cX12_basket 21 = .ok (.invokevirtual 292, 3) := by decide +kernel
theorem dX12_basket_24 : decode cX12_basket 24 = .ok (.aload_n 0, 1) := by decide +kernel
theorem dX12_basket_25 : decode cX12_basket 25 = .ok (.getfield 220, 3) := by decide +kernel
theorem dX12_basket_28 : decode cX12_basket 28 = .ok (.ifCond .ne 31, 3) := by decide +kernel
theorem dX12_basket_31 : decode cX12_basket 31 = .ok (.aload_n 0, 1) := by decide +kernel
theorem dX12_basket_32 : decode cX12_basket 32 = .ok (.aload_n 0, 1) := by decide +kernel
theorem dX12_basket_33 : decode cX12_basket 33 = .ok (.getfield 208, 3) := by decide +kernel
theorem dX12_basket_36 : decode cX12_basket 36 = .ok (.invokevirtual 211, 3) := by decide +kernel
theorem dX12_basket_39 : decode cX12_basket 39 = .ok (.bipush 59, 2) := by decide +kernel
theorem dX12_basket_41 : decode cX12_basket 41 = .ok (.if_icmp .ne 18, 3) := by decide +kernel
theorem dX12_basket_44 : decode cX12_basket 44 = .ok (.aload_n 0, 1) := by decide +kernel
theorem dX12_basket_45 : decode cX12_basket 45 = .ok (.iconst 1, 1) := by decide +kernel
theorem dX12_basket_46 : decode cX12_basket 46 = .ok (.invokevirtual 234, 3) := by decide +kernel
theorem dX12_basket_49 : decode cX12_basket 49 = .ok (.aload_n 0, 1) := by decide +kernel
theorem dX12_basket_50 : decode cX12_basket 50 = .ok (.invokevirtual 292, 3) := by decide +kernel
theorem dX12_basket_53 : decode cX12_basket 53 = .ok (.iinc 1 1, 3) := by decide +kernel
theorem dX12_basket_56 : decode cX12_basket 56 = .ok (.goto (-32), 3) := by decide +kernel
theorem dX12_basket_59 : decode cX12_basket 59 = .ok (.aload_n 0, 1) := by decide +kernel
theorem dX12_basket_60 : decode cX12_basket 60 = .ok (.aload_n 0, 1) := by decide +kernel
theorem dX12_basket_61 : decode cX12_basket 61 = .ok (.getfield 220, 3) := by decide +kernel
theorem dX12_basket_64 : decode cX12_basket 64 = .ok (.ifCond .ne 14, 3) := by decide +kernel
theorem dX12_basket_67 : decode cX12_basket 67 = .ok (.aload_n 0, 1) := by decide +kernel
theorem dX12_basket_68 : decode cX12_basket 68 = .ok (.getfield 208, 3) := by decide +kernel
theorem dX12_basket_71 : decode cX12_basket 71 = .ok (.aload_n 0, 1) := by decide +kernel
theorem dX12_basket_72 : decode cX12_basket 72 = .ok (.getfield 193, 3) := by decide +kernel
theorem dX12_basket_75 : decode cX12_basket 75 = .ok (.if_icmp .ge 7, 3) := by decide +kernel
theorem dX12_basket_78 : decode cX12_basket 78 = .ok (.iconst 1, 1) := by decide +kernel
theorem dX12_basket_79 : decode cX12_basket 79 = .ok (.goto 4, 3) := by decide +kernel
theorem dX12_basket_82 : decode cX12_basket 82 = .ok (.iconst 0, 1) := by decide +kernel
theorem dX12_basket_83 : decode cX12_basket 83 = .ok (.putfield 220, 3) := by decide +kernel
theorem dX12_basket_86 : decode cX12_basket 86 = .ok (.aload_n 0, 1) := by decide +kernel
theorem dX12_basket_87 : decode cX12_basket 87 = .ok (.getfield 220, 3) := by decide +kernel
theorem dX12_basket_90 : decode cX12_basket 90 = .ok (.ifCond .eq 7, 3) := by decide +kernel
theorem dX12_basket_93 : decode cX12_basket 93 = .ok (.aload_n 0, 1) := by decide +kernel
theorem dX12_basket_94 : decode cX12_basket 94 = .ok (.invokevirtual 295, 3) := by decide +kernel
theorem dX12_basket_97 : decode cX12_basket 97 = .ok (.aload_n 0, 1) := by decide +kernel
theorem dX12_basket_98 : decode cX12_basket 98 = .ok (.iconst 0, 1) := by decide +kernel
theorem dX12_basket_99 : decode cX12_basket 99 = .ok (.putfield 193, 3) := by decide +kernel
theorem dX12_basket_102 : decode cX12_basket 102 = .ok (.aload_n 0, 1) := by decide +kernel
theorem dX12_basket_103 : decode cX12_basket 103 = .ok (.getfield 220, 3) := by decide +kernel
theorem dX12_basket_106 : decode cX12_basket 106 = .ok (.ifCond .eq 12, 3) := by decide +kernel
theorem dX12_basket_109 : decode cX12_basket 109 = .ok (.iconst (-1), 1) := by decide +kernel
theorem dX12_basket_110 : decode cX12_basket 110 = .ok (.aload_n 0, 1) := by decide +kernel
theorem dX12_basket_111 : decode cX12_basket 111 = .ok (.getfield 208, 3) := by decide +kernel
theorem dX12_basket_114 : decode cX12_basket 114 = .ok (.isub, 1) := by decide +kernel
theorem dX12_basket_115 : decode cX12_basket 115 = .ok (.goto 4, 3) := by decide +kernel
theorem dX12_basket_118 : decode cX12_basket 118 = .ok (.iload_n 1, 1) := by decide +kernel
theorem dX12_basket_119 : decode cX12_basket 119 = .ok (.ireturn, 1) := by decide +kernel
theorem dX12_isOne_0 : decode cX12_isOne 0 = .ok (.iload_n 0, 1) := by decide +kernel
theorem dX12_isOne_1 : decode cX12_isOne 1 = .ok (.i2l, 1) := by decide +kernel
theorem dX12_isOne_2 : decode cX12_isOne 2 = .ok (.lconst 0, 1) := by decide +kernel
theorem dX12_isOne_3 : decode cX12_isOne 3 = .ok (.ldc2_w 298, 3) := by decide +kernel
theorem dX12_isOne_6 : decode cX12_isOne 6 = .ok (.invokestatic 46, 3) := by decide +kernel
theorem dX12_isOne_9 : decode cX12_isOne 9 = .ok (.ireturn, 1) := by decide +kernel
theorem dX12_sheet_0 : decode cX12_sheet 0 = .ok (.iload_n 1, 1) := by decide +kernel
theorem dX12_sheet_1 : decode cX12_sheet 1 = .ok (.invokestatic 300, 3) := by decide +kernel
theorem dX12_sheet_4 : decode cX12_sheet 4 = .ok (.ifCond .eq 25, 3) := by decide +kernel
theorem dX12_sheet_7 : decode cX12_sheet 7 = .ok (.iload_n 2, 1) := by decide +kernel
theorem dX12_sheet_8 : decode cX12_sheet 8 = .ok (.ifCond .eq 28, 3) := by decide +kernel
theorem dX12_sheet_11 : decode cX12_sheet 11 = .ok (.iload_n 2, 1) := by decide +kernel
theorem dX12_sheet_12 : decode cX12_sheet 12 = .ok (.bipush 8, 2) := by decide +kernel
theorem dX12_sheet_14 : decode cX12_sheet 14 = .ok (.if_icmp .eq 22, 3) := by decide +kernel
theorem dX12_sheet_17 : decode cX12_sheet 17 = .ok (.iload_n 2, 1) := by decide +kernel
theorem dX12_sheet_18 : decode cX12_sheet 18 = .ok (.bipush 16, 2) := by decide +kernel
theorem dX12_sheet_20 : decode cX12_sheet 20 = .ok (.if_icmp .eq 16, 3) := by decide +kernel
theorem dX12_sheet_23 : decode cX12_sheet 23 = .ok (.iload_n 2, 1) := by decide +kernel
theorem dX12_sheet_24 : decode cX12_sheet 24 = .ok (.bipush 64, 2) := by decide +kernel
theorem dX12_sheet_26 : decode cX12_sheet 26 = .ok (.if_icmp .eq 10, 3) := by decide +kernel
theorem dX12_sheet_29 : decode cX12_sheet 29 = .ok (.aload_n 0, 1) := by decide +kernel
theorem dX12_sheet_30 : decode cX12_sheet 30 = .ok (.ldc 41, 2) := by decide +kernel
theorem dX12_sheet_32 : decode cX12_sheet 32 = .ok (.invokevirtual 63, 3) := by decide +kernel
theorem dX12_sheet_35 : decode cX12_sheet 35 = .ok (.ireturn, 1) := by decide +kernel
theorem dX12_sheet_36 : decode cX12_sheet 36 = .ok (.iload_n 3, 1) := by decide +kernel
theorem dX12_sheet_37 : decode cX12_sheet 37 = .ok (.ifCond .ge 11, 3) := by decide +kernel
theorem dX12_sheet_40 : decode cX12_sheet 40 = .ok (.aload_n 0, 1) := by decide +kernel
theorem dX12_sheet_41 : decode cX12_sheet 41 = .ok (.ldc_w 303, 3) := by decide +kernel
theorem dX12_sheet_44 : decode cX12_sheet 44 = .ok (.invokevirtual 63, 3) := by decide +kernel
theorem dX12_sheet_47 : decode cX12_sheet 47 = .ok (.ireturn, 1) := by decide +kernel
theorem dX12_sheet_48 : decode cX12_sheet 48 = .ok (.iload_n 3, 1) := by decide +kernel
theorem dX12_sheet_49 : decode cX12_sheet 49 = .ok (.bipush 40, 2) := by decide +kernel
theorem dX12_sheet_51 : decode cX12_sheet 51 = .ok (.if_icmp .le 10, 3) := by decide +kernel
theorem dX12_sheet_54 : decode cX12_sheet 54 = .ok (.aload_n 0, 1) := by decide +kernel
theorem dX12_sheet_55 : decode cX12_sheet 55 = .ok (.ldc 41, 2) := by decide +kernel
theorem dX12_sheet_57 : decode cX12_sheet 57 = .ok (.invokevirtual 63, 3) := by decide +kernel
theorem dX12_sheet_60 : decode cX12_sheet 60 = .ok (.ireturn, 1) := by decide +kernel
theorem dX12_sheet_61 : decode cX12_sheet 61 = .ok (.aload_n 0, 1) := by decide +kernel
theorem dX12_sheet_62 : decode cX12_sheet 62 = .ok (.getfield 28, 3) := by decide +kernel
theorem dX12_sheet_65 : decode cX12_sheet 65 = .ok (.iload_n 1, 1) := by decide +kernel
theorem dX12_sheet_66 : decode cX12_sheet 66 = .ok (.iload_n 2, 1) := by decide +kernel
theorem dX12_sheet_67 : decode cX12_sheet 67 = .ok (.iastore, 1) := by decide +kernel
theorem dX12_sheet_68 : decode cX12_sheet 68 = .ok (.aload_n 0, 1) := by decide +kernel
theorem dX12_sheet_69 : decode cX12_sheet 69 = .ok (.getfield 31, 3) := by decide +kernel
theorem dX12_sheet_72 : decode cX12_sheet 72 = .ok (.iload_n 1, 1) := by decide +kernel
theorem dX12_sheet_73 : decode cX12_sheet 73 = .ok (.iload_n 2, 1) := by decide +kernel
theorem dX12_sheet_74 : decode cX12_sheet 74 = .ok (.ifCond .ne 7, 3) := by decide +kernel
theorem dX12_sheet_77 : decode cX12_sheet 77 = .ok (.iconst 0, 1) := by decide +kernel
theorem dX12_sheet_78 : decode cX12_sheet 78 = .ok (.goto 4, 3) := by decide +kernel
theorem dX12_sheet_81 : decode cX12_sheet 81 = .ok (.iload_n 3, 1) := by decide +kernel
theorem dX12_sheet_82 : decode cX12_sheet 82 = .ok (.iastore, 1) := by decide +kernel
theorem dX12_sheet_83 : decode cX12_sheet 83 = .ok (.iconst 0, 1) := by decide +kernel
theorem dX12_sheet_84 : decode cX12_sheet 84 = .ok (.istore 4, 2) := by decide +kernel
theorem dX12_sheet_86 : decode cX12_sheet 86 = .ok (.iload 4, 2) := by decide +kernel
theorem dX12_sheet_88 : decode cX12_sheet 88 = .ok (.bipush 40, 2) := by decide +kernel
theorem dX12_sheet_90 : decode cX12_sheet 90 = .ok (.if_icmp .ge 22, 3) := by decide +kernel
theorem dX12_sheet_93 : decode cX12_sheet 93 = .ok (.aload_n 0, 1) := by decide +kernel
theorem dX12_sheet_94 : decode cX12_sheet 94 = .ok (.getfield 34, 3) := by decide +kernel
theorem dX12_sheet_97 : decode cX12_sheet 97 = .ok (.bipush 40, 2) := by decide +kernel
theorem dX12_sheet_99 : decode cX12_sheet 99 = .ok (.iload_n 1, 1) := by decide +kernel
theorem dX12_sheet_100 : decode cX12_sheet 100 = .ok (.imul, 1) := by decide +kernel
theorem dX12_sheet_101 : decode cX12_sheet 101 = .ok (.iload 4, 2) := by decide +kernel
theorem dX12_sheet_103 : decode cX12_sheet 103 = .ok (.iadd, 1) := by decide +kernel
theorem dX12_sheet_104 : decode cX12_sheet 104 = .ok (.lconst 0, 1) := by decide +kernel
theorem dX12_sheet_105 : decode cX12_sheet 105 = .ok (.lastore, 1) := by decide +kernel
theorem dX12_sheet_106 : decode cX12_sheet 106 = .ok (.iinc 4 1, 3) := by decide +kernel
theorem dX12_sheet_109 : decode cX12_sheet 109 = .ok (.goto (-23), 3) := by decide +kernel
theorem dX12_sheet_112 : decode cX12_sheet 112 = .ok (.aload_n 0, 1) := by decide +kernel
theorem dX12_sheet_113 : decode cX12_sheet 113 = .ok (.getfield 31, 3) := by decide +kernel
theorem dX12_sheet_116 : decode cX12_sheet 116 = .ok (.iload_n 1, 1) := by decide +kernel
theorem dX12_sheet_117 : decode cX12_sheet 117 = .ok (.iaload, 1) := by decide +kernel
theorem dX12_sheet_118 : decode cX12_sheet 118 = .ok (.ireturn, 1) := by decide +kernel
theorem dX12_narrowed_0 : decode cX12_narrowed 0 = .ok (.iload_n 0, 1) := by decide +kernel
theorem dX12_narrowed_1 : decode cX12_narrowed 1 = .ok (.bipush 8, 2) := by decide +kernel
theorem dX12_narrowed_3 : decode cX12_narrowed 3 = .ok (.if_icmp .ne 10, 3) := by decide +kernel
theorem dX12_narrowed_6 : decode cX12_narrowed 6 = .ok (.lload_n 1, 1) := by decide +kernel
theorem dX12_narrowed_7 : decode cX12_narrowed 7 = .ok (.l2i, 1) := by decide +kernel
theorem dX12_narrowed_8 : decode cX12_narrowed 8 = .ok (.i2b, 1) := by decide +kernel
theorem dX12_narrowed_9 : decode cX12_narrowed 9 = .ok (.i2l, 1) := by decide +kernel
theorem dX12_narrowed_10 : decode cX12_narrowed 10 = .ok (.goto 17, 3) := by decide +kernel
theorem dX12_narrowed_13 : decode cX12_narrowed 13 = .ok (.iload_n 0, 1) := by decide +kernel
theorem dX12_narrowed_14 : decode cX12_narrowed 14 = .ok (.bipush 16, 2) := by decide +kernel
theorem dX12_narrowed_16 : decode cX12_narrowed 16 = .ok (.if_icmp .ne 10, 3) := by decide +kernel
theorem dX12_narrowed_19 : decode cX12_narrowed 19 = .ok (.lload_n 1, 1) := by decide +kernel
theorem dX12_narrowed_20 : decode cX12_narrowed 20 = .ok (.l2i, 1) := by decide +kernel
theorem dX12_narrowed_21 : decode cX12_narrowed 21 = .ok (.i2s, 1) := by decide +kernel
theorem dX12_narrowed_22 : decode cX12_narrowed 22 = .ok (.i2l, 1) := by decide +kernel
theorem dX12_narrowed_23 : decode cX12_narrowed 23 = .ok (.goto 4, 3) := by decide +kernel
theorem dX12_narrowed_26 : decode cX12_narrowed 26 = .ok (.lload_n 1, 1) := by decide +kernel
theorem dX12_narrowed_27 : decode cX12_narrowed 27 = .ok (.lreturn, 1) := by decide +kernel
theorem dX12_wrongSheet_0 : decode cX12_wrongSheet 0 = .ok (.iload_n 1, 1) := by decide +kernel
theorem dX12_wrongSheet_1 : decode cX12_wrongSheet 1 = .ok (.invokestatic 300, 3) := by decide +kernel
theorem dX12_wrongSheet_4 : decode cX12_wrongSheet 4 = .ok (.ifCond .ne 8, 3) := by decide +kernel
theorem dX12_wrongSheet_7 : decode cX12_wrongSheet 7 = .ok (.ldc 41, 2) := by decide +kernel
theorem dX12_wrongSheet_9 : decode cX12_wrongSheet 9 = .ok (.goto 19, 3) := by decide +kernel
theorem dX12_wrongSheet_12 : decode cX12_wrongSheet 12 = .ok (.aload_n 0, 1) := by decide +kernel
theorem dX12_wrongSheet_13 : decode cX12_wrongSheet 13 = .ok (.getfield 28, 3) := by decide +kernel
theorem dX12_wrongSheet_16 : decode cX12_wrongSheet 16 = .ok (.iload_n 1, 1) := by decide +kernel
theorem dX12_wrongSheet_17 : decode cX12_wrongSheet 17 = .ok (.iaload, 1) := by decide +kernel
theorem dX12_wrongSheet_18 : decode cX12_wrongSheet 18 = .ok (.ifCond .ne 9, 3) := by decide +kernel
theorem dX12_wrongSheet_21 : decode cX12_wrongSheet 21 = .ok (.ldc_w 304, 3) := by decide +kernel
theorem dX12_wrongSheet_24 : decode cX12_wrongSheet 24 = .ok (.goto 4, 3) := by decide +kernel
theorem dX12_wrongSheet_27 : decode cX12_wrongSheet 27 = .ok (.iconst 0, 1) := by decide +kernel
theorem dX12_wrongSheet_28 : decode cX12_wrongSheet 28 = .ok (.ireturn, 1) := by decide +kernel
theorem dX12_write_0 : decode cX12_write 0 = .ok (.aload_n 0, 1) := by decide +kernel
theorem dX12_write_1 : decode cX12_write 1 = .ok (.iload_n 1, 1) := by decide +kernel
theorem dX12_write_2 : decode cX12_write 2 = .ok (.invokevirtual 305, 3) := by decide +kernel
theorem dX12_write_5 : decode cX12_write 5 = .ok (.istore 5, 2) := by decide +kernel
theorem dX12_write_7 : decode cX12_write 7 = .ok (.iload 5, 2) := by decide +kernel
theorem dX12_write_9 : decode cX12_write 9 = .ok (.ifCond .eq 11, 3) := by decide +kernel
theorem dX12_write_12 : decode cX12_write 12 = .ok (.aload_n 0, 1) := by decide +kernel
theorem dX12_write_13 : decode cX12_write 13 = .ok (.iload 5, 2) := by decide +kernel
theorem dX12_write_15 : decode cX12_write 15 = .ok (.invokevirtual 63, 3) := by decide +kernel
theorem dX12_write_18 : decode cX12_write 18 = .ok (.i2l, 1) := by decide +kernel
theorem dX12_write_19 : decode cX12_write 19 = .ok (.lreturn, 1) := by decide +kernel
theorem dX12_write_20 : decode cX12_write 20 = .ok (.iload_n 2, 1) := by decide +kernel
theorem dX12_write_21 : decode cX12_write 21 = .ok (.i2l, 1) := by decide +kernel
theorem dX12_write_22 : decode cX12_write 22 = .ok (.lconst 0, 1) := by decide +kernel
theorem dX12_write_23 : decode cX12_write 23 = .ok (.aload_n 0, 1) := by decide +kernel
theorem dX12_write_24 : decode cX12_write 24 = .ok (.getfield 31, 3) := by decide +kernel
theorem dX12_write_27 : decode cX12_write 27 = .ok (.iload_n 1, 1) := by decide +kernel
theorem dX12_write_28 : decode cX12_write 28 = .ok (.iaload, 1) := by decide +kernel
theorem dX12_write_29 : decode cX12_write 29 = .ok (.iconst 1, 1) := by decide +kernel
theorem dX12_write_30 : decode cX12_write 30 = .ok (.isub, 1) := by decide +kernel
theorem dX12_write_31 : decode cX12_write 31 = .ok (.i2l, 1) := by decide +kernel
theorem dX12_write_32 : decode cX12_write 32 = .ok (.invokestatic 46, 3) := by decide +kernel
theorem dX12_write_35 : decode cX12_write 35 = .ok (.ifCond .ne 11, 3) := by decide +kernel
theorem dX12_write_38 : decode cX12_write 38 = .ok (.aload_n 0, 1) := by decide +kernel
theorem dX12_write_39 : decode cX12_write 39 = .ok (.ldc 41, 2) := by decide +kernel
theorem dX12_write_41 : decode cX12_write 41 = .ok (.invokevirtual 63, 3) := by decide +kernel
theorem dX12_write_44 : decode cX12_write 44 = .ok (.i2l, 1) := by decide +kernel
theorem dX12_write_45 : decode cX12_write 45 = .ok (.lreturn, 1) := by decide +kernel
theorem dX12_write_46 : decode cX12_write 46 = .ok (.aload_n 0, 1) := by decide +kernel
theorem dX12_write_47 : decode cX12_write 47 = .ok (.getfield 34, 3) := by decide +kernel
theorem dX12_write_50 : decode cX12_write 50 = .ok (.bipush 40, 2) := by decide +kernel
theorem dX12_write_52 : decode cX12_write 52 = .ok (.iload_n 1, 1) := by decide +kernel
theorem dX12_write_53 : decode cX12_write 53 = .ok (.imul, 1) := by decide +kernel
theorem dX12_write_54 : decode cX12_write 54 = .ok (.iload_n 2, 1) := by decide +kernel
theorem dX12_write_55 : decode cX12_write 55 = .ok (.iadd, 1) := by decide +kernel
theorem dX12_write_56 : decode cX12_write 56 = .ok (.laload, 1) := by decide +kernel
theorem dX12_write_57 : decode cX12_write 57 = .ok (.lstore 6, 2) := by decide +kernel
theorem dX12_write_59 : decode cX12_write 59 = .ok (.aload_n 0, 1) := by decide +kernel
theorem dX12_write_60 : decode cX12_write 60 = .ok (.getfield 34, 3) := by decide +kernel
theorem dX12_write_63 : decode cX12_write 63 = .ok (.bipush 40, 2) := by decide +kernel
theorem dX12_write_65 : decode cX12_write 65 = .ok (.iload_n 1, 1) := by decide +kernel
theorem dX12_write_66 : decode cX12_write 66 = .ok (.imul, 1) := by decide +kernel
theorem dX12_write_67 : decode cX12_write 67 = .ok (.iload_n 2, 1) := by decide +kernel
theorem dX12_write_68 : decode cX12_write 68 = .ok (.iadd, 1) := by decide +kernel
theorem dX12_write_69 : decode cX12_write 69 = .ok (.aload_n 0, 1) := by decide +kernel
theorem dX12_write_70 : decode cX12_write 70 = .ok (.getfield 28, 3) := by decide +kernel
theorem dX12_write_73 : decode cX12_write 73 = .ok (.iload_n 1, 1) := by decide +kernel
theorem dX12_write_74 : decode cX12_write 74 = .ok (.iaload, 1) := by decide +kernel
theorem dX12_write_75 : decode cX12_write 75 = .ok (.lload_n 3, 1) := by decide +kernel
theorem dX12_write_76 : decode cX12_write 76 = .ok (.invokestatic 308, 3) := by decide +kernel
theorem dX12_write_79 : decode cX12_write 79 = .ok (.lastore, 1) := by decide +kernel
theorem dX12_write_80 : decode cX12_write 80 = .ok (.lload 6, 2) := by decide +kernel
theorem dX12_write_82 : decode cX12_write 82 = .ok (.lreturn, 1) := by decide +kernel
theorem dX12_copy_0 : decode cX12_copy 0 = .ok (.iload_n 1, 1) := by decide +kernel
theorem dX12_copy_1 : decode cX12_copy 1 = .ok (.invokestatic 300, 3) := by decide +kernel
theorem dX12_copy_4 : decode cX12_copy 4 = .ok (.ifCond .eq 10, 3) := by decide +kernel
theorem dX12_copy_7 : decode cX12_copy 7 = .ok (.iload_n 3, 1) := by decide +kernel
theorem dX12_copy_8 : decode cX12_copy 8 = .ok (.invokestatic 300, 3) := by decide +kernel
theorem dX12_copy_11 : decode cX12_copy 11 = .ok (.ifCond .ne 10, 3) := by decide +kernel
theorem dX12_copy_14 : decode cX12_copy 14 = .ok (.aload_n 0, 1) := by decide +kernel
theorem dX12_copy_15 : decode cX12_copy 15 = .ok (.ldc 41, 2) := by decide +kernel
theorem dX12_copy_17 : decode cX12_copy 17 = .ok (.invokevirtual 63, 3) := by decide +kernel
theorem dX12_copy_20 : decode cX12_copy 20 = .ok (.ireturn, 1) := by decide +kernel
theorem dX12_copy_21 : decode cX12_copy 21 = .ok (.aload_n 0, 1) := by decide +kernel
theorem dX12_copy_22 : decode cX12_copy 22 = .ok (.getfield 28, 3) := by decide +kernel
theorem dX12_copy_25 : decode cX12_copy 25 = .ok (.iload_n 1, 1) := by decide +kernel
theorem dX12_copy_26 : decode cX12_copy 26 = .ok (.iaload, 1) := by decide +kernel
theorem dX12_copy_27 : decode cX12_copy 27 = .ok (.ifCond .eq 12, 3) := by decide +kernel
theorem dX12_copy_30 : decode cX12_copy 30 = .ok (.aload_n 0, 1) := by decide +kernel
theorem dX12_copy_31 : decode cX12_copy 31 = .ok (.getfield 28, 3) := by decide +kernel
theorem dX12_copy_34 : decode cX12_copy 34 = .ok (.iload_n 3, 1) := by decide +kernel
theorem dX12_copy_35 : decode cX12_copy 35 = .ok (.iaload, 1) := by decide +kernel
theorem dX12_copy_36 : decode cX12_copy 36 = .ok (.ifCond .ne 11, 3) := by decide +kernel
theorem dX12_copy_39 : decode cX12_copy 39 = .ok (.aload_n 0, 1) := by decide +kernel
theorem dX12_copy_40 : decode cX12_copy 40 = .ok (.ldc_w 304, 3) := by decide +kernel
theorem dX12_copy_43 : decode cX12_copy 43 = .ok (.invokevirtual 63, 3) := by decide +kernel
theorem dX12_copy_46 : decode cX12_copy 46 = .ok (.ireturn, 1) := by decide +kernel
theorem dX12_copy_47 : decode cX12_copy 47 = .ok (.aload_n 0, 1) := by decide +kernel
theorem dX12_copy_48 : decode cX12_copy 48 = .ok (.getfield 28, 3) := by decide +kernel
theorem dX12_copy_51 : decode cX12_copy 51 = .ok (.iload_n 1, 1) := by decide +kernel
theorem dX12_copy_52 : decode cX12_copy 52 = .ok (.iaload, 1) := by decide +kernel
theorem dX12_copy_53 : decode cX12_copy 53 = .ok (.aload_n 0, 1) := by decide +kernel
theorem dX12_copy_54 : decode cX12_copy 54 = .ok (.getfield 28, 3) := by decide +kernel
theorem dX12_copy_57 : decode cX12_copy 57 = .ok (.iload_n 3, 1) := by decide +kernel
theorem dX12_copy_58 : decode cX12_copy 58 = .ok (.iaload, 1) := by decide +kernel
theorem dX12_copy_59 : decode cX12_copy 59 = .ok (.if_icmp .eq 10, 3) := by decide +kernel
theorem dX12_copy_62 : decode cX12_copy 62 = .ok (.aload_n 0, 1) := by decide +kernel
theorem dX12_copy_63 : decode cX12_copy 63 = .ok (.ldc 146, 2) := by decide +kernel
theorem dX12_copy_65 : decode cX12_copy 65 = .ok (.invokevirtual 63, 3) := by decide +kernel
theorem dX12_copy_68 : decode cX12_copy 68 = .ok (.ireturn, 1) := by decide +kernel
theorem dX12_copy_69 : decode cX12_copy 69 = .ok (.iload_n 2, 1) := by decide +kernel
theorem dX12_copy_70 : decode cX12_copy 70 = .ok (.ifCond .lt 40, 3) := by decide +kernel
theorem dX12_copy_73 : decode cX12_copy 73 = .ok (.iload 4, 2) := by decide +kernel
theorem dX12_copy_75 : decode cX12_copy 75 = .ok (.ifCond .lt 35, 3) := by decide +kernel
theorem dX12_copy_78 : decode cX12_copy 78 = .ok (.iload 5, 2) := by decide +kernel
theorem dX12_copy_80 : decode cX12_copy 80 = .ok (.ifCond .lt 30, 3) := by decide +kernel
theorem dX12_copy_83 : decode cX12_copy 83 = .ok (.iload 5, 2) := by decide +kernel
theorem dX12_copy_85 : decode cX12_copy 85 = .ok (.aload_n 0, 1) := by decide +kernel
theorem dX12_copy_86 : decode cX12_copy 86 = .ok (.getfield 31, 3) := by decide +kernel
theorem dX12_copy_89 : decode cX12_copy 89 = .ok (.iload_n 1, 1) := by decide +kernel
theorem dX12_copy_90 : decode cX12_copy 90 = .ok (.iaload, 1) := by decide +kernel
theorem dX12_copy_91 : decode cX12_copy 91 = .ok (.iload_n 2, 1) := by decide +kernel
theorem dX12_copy_92 : decode cX12_copy 92 = .ok (.isub, 1) := by decide +kernel
theorem dX12_copy_93 : decode cX12_copy 93 = .ok (.if_icmp .gt 17, 3) := by decide +kernel
theorem dX12_copy_96 : decode cX12_copy 96 = .ok (.iload 5, 2) := by decide +kernel
theorem dX12_copy_98 : decode cX12_copy 98 = .ok (.aload_n 0, 1) := by decide +kernel
theorem dX12_copy_99 : decode cX12_copy 99 = .ok (.getfield 31, 3) := by decide +kernel
theorem dX12_copy_102 : decode cX12_copy 102 = .ok (.iload_n 3, 1) := by decide +kernel
theorem dX12_copy_103 : decode cX12_copy 103 = .ok (.iaload, 1) := by decide +kernel
theorem dX12_copy_104 : decode cX12_copy 104 = .ok (.iload 4, 2) := by decide +kernel
theorem dX12_copy_106 : decode cX12_copy 106 = .ok (.isub, 1) := by decide +kernel
theorem dX12_copy_107 : decode cX12_copy 107 = .ok (.if_icmp .le 10, 3) := by decide +kernel
theorem dX12_copy_110 : decode cX12_copy 110 = .ok (.aload_n 0, 1) := by decide +kernel
theorem dX12_copy_111 : decode cX12_copy 111 = .ok (.ldc 41, 2) := by decide +kernel
theorem dX12_copy_113 : decode cX12_copy 113 = .ok (.invokevirtual 63, 3) := by decide +kernel
theorem dX12_copy_116 : decode cX12_copy 116 = .ok (.ireturn, 1) := by decide +kernel
theorem dX12_copy_117 : decode cX12_copy 117 = .ok (.iconst 0, 1) := by decide +kernel
theorem dX12_copy_118 : decode cX12_copy 118 = .ok (.istore 6, 2) := by decide +kernel
theorem dX12_copy_120 : decode cX12_copy 120 = .ok (.iload 6, 2) := by decide +kernel
theorem dX12_copy_122 : decode cX12_copy 122 = .ok (.iload 5, 2) := by decide +kernel
theorem dX12_copy_124 : decode cX12_copy 124 = .ok (.if_icmp .ge 30, 3) := by decide +kernel
theorem dX12_copy_127 : decode cX12_copy 127 = .ok (.aload_n 0, 1) := by decide +kernel
theorem dX12_copy_128 : decode cX12_copy 128 = .ok (.getfield 38, 3) := by decide +kernel
theorem dX12_copy_131 : decode cX12_copy 131 = .ok (.iload 6, 2) := by decide +kernel
theorem dX12_copy_133 : decode cX12_copy 133 = .ok (.aload_n 0, 1) := by decide +kernel
theorem dX12_copy_134 : decode cX12_copy 134 = .ok (.getfield 34, 3) := by decide +kernel
theorem dX12_copy_137 : decode cX12_copy 137 = .ok (.bipush 40, 2) := by decide +kernel
theorem dX12_copy_139 : decode cX12_copy 139 = .ok (.iload_n 1, 1) := by decide +kernel
theorem dX12_copy_140 : decode cX12_copy 140 = .ok (.imul, 1) := by decide +kernel
theorem dX12_copy_141 : decode cX12_copy 141 = .ok (.iload_n 2, 1) := by decide +kernel
theorem dX12_copy_142 : decode cX12_copy 142 = .ok (.iadd, 1) := by decide +kernel
theorem dX12_copy_143 : decode cX12_copy 143 = .ok (.iload 6, 2) := by decide +kernel
theorem dX12_copy_145 : decode cX12_copy 145 = .ok (.iadd, 1) := by decide +kernel
theorem dX12_copy_146 : decode cX12_copy 146 = .ok (.laload, 1) := by decide +kernel
theorem dX12_copy_147 : decode cX12_copy 147 = .ok (.lastore, 1) := by decide +kernel
theorem dX12_copy_148 : decode cX12_copy 148 = .ok (.iinc 6 1, 3) := by decide +kernel
theorem dX12_copy_151 : decode cX12_copy 151 = .ok (.goto (-31), 3) := by decide +kernel
theorem dX12_copy_154 : decode cX12_copy 154 = .ok (.iconst 0, 1) := by decide +kernel
theorem dX12_copy_155 : decode cX12_copy 155 = .ok (.istore 6, 2) := by decide +kernel
theorem dX12_copy_157 : decode cX12_copy 157 = .ok (.iload 6, 2) := by decide +kernel
theorem dX12_copy_159 : decode cX12_copy 159 = .ok (.iload 5, 2) := by decide +kernel
theorem dX12_copy_161 : decode cX12_copy 161 = .ok (.if_icmp .ge 31, 3) := by decide +kernel
theorem dX12_copy_164 : decode cX12_copy 164 = .ok (.aload_n 0, 1) := by decide +kernel
theorem dX12_copy_165 : decode cX12_copy 165 = .ok (.getfield 34, 3) := by decide +kernel
theorem dX12_copy_168 : decode cX12_copy 168 = .ok (.bipush 40, 2) := by decide +kernel
theorem dX12_copy_170 : decode cX12_copy 170 = .ok (.iload_n 3, 1) := by decide +kernel
theorem dX12_copy_171 : decode cX12_copy 171 = .ok (.imul, 1) := by decide +kernel
theorem dX12_copy_172 : decode cX12_copy 172 = .ok (.iload 4, 2) := by decide +kernel
theorem dX12_copy_174 : decode cX12_copy 174 = .ok (.iadd, 1) := by decide +kernel
theorem dX12_copy_175 : decode cX12_copy 175 = .ok (.iload 6, 2) := by decide +kernel
theorem dX12_copy_177 : decode cX12_copy 177 = .ok (.iadd, 1) := by decide +kernel
theorem dX12_copy_178 : decode cX12_copy 178 = .ok (.aload_n 0, 1) := by decide +kernel
theorem dX12_copy_179 : decode cX12_copy 179 = .ok (.getfield 38, 3) := by decide +kernel
theorem dX12_copy_182 : decode cX12_copy 182 = .ok (.iload 6, 2) := by decide +kernel
theorem dX12_copy_184 : decode cX12_copy 184 = .ok (.laload, 1) := by decide +kernel
theorem dX12_copy_185 : decode cX12_copy 185 = .ok (.lastore, 1) := by decide +kernel
theorem dX12_copy_186 : decode cX12_copy 186 = .ok (.iinc 6 1, 3) := by decide +kernel
theorem dX12_copy_189 : decode cX12_copy 189 = .ok (.goto (-32), 3) := by decide +kernel
theorem dX12_copy_192 : decode cX12_copy 192 = .ok (.iload 5, 2) := by decide +kernel
theorem dX12_copy_194 : decode cX12_copy 194 = .ok (.ireturn, 1) := by decide +kernel
theorem dX12_lays_0 : decode cX12_lays 0 = .ok (.aload_n 0, 1) := by decide +kernel
theorem dX12_lays_1 : decode cX12_lays 1 = .ok (.iload_n 1, 1) := by decide +kernel
theorem dX12_lays_2 : decode cX12_lays 2 = .ok (.invokevirtual 305, 3) := by decide +kernel
theorem dX12_lays_5 : decode cX12_lays 5 = .ok (.istore_n 2, 1) := by decide +kernel
theorem dX12_lays_6 : decode cX12_lays 6 = .ok (.iload_n 2, 1) := by decide +kernel
theorem dX12_lays_7 : decode cX12_lays 7 = .ok (.ifCond .eq 9, 3) := by decide +kernel
theorem dX12_lays_10 : decode cX12_lays 10 = .ok (.aload_n 0, 1) := by decide +kernel
theorem dX12_lays_11 : decode cX12_lays 11 = .ok (.iload_n 2, 1) := by decide +kernel
theorem dX12_lays_12 : decode cX12_lays 12 = .ok (.invokevirtual 63, 3) := by decide +kernel
theorem dX12_lays_15 : decode cX12_lays 15 = .ok (.ireturn, 1) := by decide +kernel
theorem dX12_lays_16 : decode cX12_lays 16 = .ok (.iconst 0, 1) := by decide +kernel
theorem dX12_lays_17 : decode cX12_lays 17 = .ok (.istore_n 3, 1) := by decide +kernel
theorem dX12_lays_18 : decode cX12_lays 18 = .ok (.iconst 0, 1) := by decide +kernel
theorem dX12_lays_19 : decode cX12_lays 19 = .ok (.istore 4, 2) := by decide +kernel
theorem dX12_lays_21 : decode cX12_lays 21 = .ok (.iload 4, 2) := by decide +kernel
theorem dX12_lays_23 : decode cX12_lays 23 = .ok (.aload_n 0, 1) := by decide +kernel
theorem dX12_lays_24 : decode cX12_lays 24 = .ok (.getfield 31, 3) := by decide +kernel
theorem dX12_lays_27 : decode cX12_lays 27 = .ok (.iload_n 1, 1) := by decide +kernel
theorem dX12_lays_28 : decode cX12_lays 28 = .ok (.iaload, 1) := by decide +kernel
theorem dX12_lays_29 : decode cX12_lays 29 = .ok (.if_icmp .ge 89, 3) := by decide +kernel
theorem dX12_lays_32 : decode cX12_lays 32 = .ok (.iload 4, 2) := by decide +kernel
theorem dX12_lays_34 : decode cX12_lays 34 = .ok (.aload_n 0, 1) := by decide +kernel
theorem dX12_lays_35 : decode cX12_lays 35 = .ok (.getfield 7, 3) := by decide +kernel
theorem dX12_lays_38 : decode cX12_lays 38 = .ok (.iconst 1, 1) := by decide +kernel
theorem dX12_lays_39 : decode cX12_lays 39 = .ok (.iaload, 1) := by decide +kernel
theorem dX12_lays_40 : decode cX12_lays 40 = .ok (.if_icmp .ge 78, 3) := by decide +kernel
theorem dX12_lays_43 : decode cX12_lays 43 = .ok (.aload_n 0, 1) := by decide +kernel
theorem dX12_lays_44 : decode cX12_lays 44 = .ok (.getfield 34, 3) := by decide +kernel
theorem dX12_lays_47 : decode cX12_lays 47 = .ok (.bipush 40, 2) := by decide +kernel
theorem dX12_lays_49 : decode cX12_lays 49 = .ok (.iload_n 1, 1) := by decide +kernel
theorem dX12_lays_50 : decode cX12_lays 50 = .ok (.imul, 1) := by decide +kernel
theorem dX12_lays_51 : decode cX12_lays 51 = .ok (.iload 4, 2) := by decide +kernel
theorem dX12_lays_53 : decode cX12_lays 53 = .ok (.iadd, 1) := by decide +kernel
theorem dX12_lays_54 : decode cX12_lays 54 = .ok (.laload, 1) := by decide +kernel
theorem dX12_lays_55 : decode cX12_lays 55 = .ok (.invokestatic 115, 3) := by decide +kernel
theorem dX12_lays_58 : decode cX12_lays 58 = .ok (.istore 5, 2) := by decide +kernel
theorem dX12_lays_60 : decode cX12_lays 60 = .ok (.aload_n 0, 1) := by decide +kernel
theorem dX12_lays_61 : decode cX12_lays 61 = .ok (.getfield 7, 3) := by decide +kernel
theorem dX12_lays_64 : decode cX12_lays 64 = .ok (.iload 4, 2) := by decide +kernel
theorem dX12_lays_66 : decode cX12_lays 66 = .ok (.iconst 1, 1) := by decide +kernel
theorem dX12_lays_67 : decode cX12_lays 67 = .ok (.invokestatic 42, 3) := by decide +kernel
theorem dX12_lays_70 : decode cX12_lays 70 = .ok (.iload 5, 2) := by decide +kernel
theorem dX12_lays_72 : decode cX12_lays 72 = .ok (.ifCond .eq 19, 3) := by decide +kernel
theorem dX12_lays_75 : decode cX12_lays 75 = .ok (.aload_n 0, 1) := by decide +kernel
theorem dX12_lays_76 : decode cX12_lays 76 = .ok (.getfield 34, 3) := by decide +kernel
theorem dX12_lays_79 : decode cX12_lays 79 = .ok (.bipush 40, 2) := by decide +kernel
theorem dX12_lays_81 : decode cX12_lays 81 = .ok (.iload_n 1, 1) := by decide +kernel
theorem dX12_lays_82 : decode cX12_lays 82 = .ok (.imul, 1) := by decide +kernel
theorem dX12_lays_83 : decode cX12_lays 83 = .ok (.iload 4, 2) := by decide +kernel
theorem dX12_lays_85 : decode cX12_lays 85 = .ok (.iadd, 1) := by decide +kernel
theorem dX12_lays_86 : decode cX12_lays 86 = .ok (.laload, 1) := by decide +kernel
theorem dX12_lays_87 : decode cX12_lays 87 = .ok (.l2i, 1) := by decide +kernel
theorem dX12_lays_88 : decode cX12_lays 88 = .ok (.goto 10, 3) := by decide +kernel
theorem dX12_lays_91 : decode cX12_lays 91 = .ok (.aload_n 0, 1) := by decide +kernel
theorem dX12_lays_92 : decode cX12_lays 92 = .ok (.iload 4, 2) := by decide +kernel
theorem dX12_lays_94 : decode cX12_lays 94 = .ok (.iconst 1, 1) := by decide +kernel
theorem dX12_lays_95 : decode cX12_lays 95 = .ok (.invokevirtual 67, 3) := by decide +kernel
theorem dX12_lays_98 : decode cX12_lays 98 = .ok (.iastore, 1) := by decide +kernel
theorem dX12_lays_99 : decode cX12_lays 99 = .ok (.iload_n 3, 1) := by decide +kernel
theorem dX12_lays_100 : decode cX12_lays 100 = .ok (.iload 5, 2) := by decide +kernel
theorem dX12_lays_102 : decode cX12_lays 102 = .ok (.ifCond .eq 7, 3) := by decide +kernel
theorem dX12_lays_105 : decode cX12_lays 105 = .ok (.iconst 1, 1) := by decide +kernel
theorem dX12_lays_106 : decode cX12_lays 106 = .ok (.goto 4, 3) := by decide +kernel
theorem dX12_lays_109 : decode cX12_lays 109 = .ok (.iconst 0, 1) := by decide +kernel
theorem dX12_lays_110 : decode cX12_lays 110 = .ok (.iadd, 1) := by decide +kernel
theorem dX12_lays_111 : decode cX12_lays 111 = .ok (.istore_n 3, 1) := by decide +kernel
theorem dX12_lays_112 : decode cX12_lays 112 = .ok (.iinc 4 1, 3) := by decide +kernel
theorem dX12_lays_115 : decode cX12_lays 115 = .ok (.goto (-94), 3) := by decide +kernel
theorem dX12_lays_118 : decode cX12_lays 118 = .ok (.iload_n 3, 1) := by decide +kernel
theorem dX12_lays_119 : decode cX12_lays 119 = .ok (.ireturn, 1) := by decide +kernel
theorem dX12_book_0 : decode cX12_book 0 = .ok (.aload_n 0, 1) := by decide +kernel
theorem dX12_book_1 : decode cX12_book 1 = .ok (.iload_n 1, 1) := by decide +kernel
theorem dX12_book_2 : decode cX12_book 2 = .ok (.invokevirtual 305, 3) := by decide +kernel
theorem dX12_book_5 : decode cX12_book 5 = .ok (.istore_n 3, 1) := by decide +kernel
theorem dX12_book_6 : decode cX12_book 6 = .ok (.iload_n 3, 1) := by decide +kernel
theorem dX12_book_7 : decode cX12_book 7 = .ok (.ifCond .eq 9, 3) := by decide +kernel
theorem dX12_book_10 : decode cX12_book 10 = .ok (.aload_n 0, 1) := by decide +kernel
theorem dX12_book_11 : decode cX12_book 11 = .ok (.iload_n 3, 1) := by decide +kernel
theorem dX12_book_12 : decode cX12_book 12 = .ok (.invokevirtual 63, 3) := by decide +kernel
theorem dX12_book_15 : decode cX12_book 15 = .ok (.ireturn, 1) := by decide +kernel
theorem dX12_book_16 : decode cX12_book 16 = .ok (.aload_n 0, 1) := by decide +kernel
theorem dX12_book_17 : decode cX12_book 17 = .ok (.iload_n 2, 1) := by decide +kernel
theorem dX12_book_18 : decode cX12_book 18 = .ok (.invokevirtual 103, 3) := by decide +kernel
theorem dX12_book_21 : decode cX12_book 21 = .ok (.ifCond .ne 10, 3) := by decide +kernel
theorem dX12_book_24 : decode cX12_book 24 = .ok (.aload_n 0, 1) := by decide +kernel
theorem dX12_book_25 : decode cX12_book 25 = .ok (.ldc 41, 2) := by decide +kernel
theorem dX12_book_27 : decode cX12_book 27 = .ok (.invokevirtual 63, 3) := by decide +kernel
theorem dX12_book_30 : decode cX12_book 30 = .ok (.ireturn, 1) := by decide +kernel
theorem dX12_book_31 : decode cX12_book 31 = .ok (.aload_n 0, 1) := by decide +kernel
theorem dX12_book_32 : decode cX12_book 32 = .ok (.invokevirtual 168, 3) := by decide +kernel
theorem dX12_book_35 : decode cX12_book 35 = .ok (.iconst 0, 1) := by decide +kernel
theorem dX12_book_36 : decode cX12_book 36 = .ok (.istore 4, 2) := by decide +kernel
theorem dX12_book_38 : decode cX12_book 38 = .ok (.iload 4, 2) := by decide +kernel
theorem dX12_book_40 : decode cX12_book 40 = .ok (.aload_n 0, 1) := by decide +kernel
theorem dX12_book_41 : decode cX12_book 41 = .ok (.getfield 31, 3) := by decide +kernel
theorem dX12_book_44 : decode cX12_book 44 = .ok (.iload_n 1, 1) := by decide +kernel
theorem dX12_book_45 : decode cX12_book 45 = .ok (.iaload, 1) := by decide +kernel
theorem dX12_book_46 : decode cX12_book 46 = .ok (.if_icmp .ge 43, 3) := by decide +kernel
theorem dX12_book_49 : decode cX12_book 49 = .ok (.aload_n 0, 1) := by decide +kernel
theorem dX12_book_50 : decode cX12_book 50 = .ok (.getfield 34, 3) := by decide +kernel
theorem dX12_book_53 : decode cX12_book 53 = .ok (.bipush 40, 2) := by decide +kernel
theorem dX12_book_55 : decode cX12_book 55 = .ok (.iload_n 1, 1) := by decide +kernel
theorem dX12_book_56 : decode cX12_book 56 = .ok (.imul, 1) := by decide +kernel
theorem dX12_book_57 : decode cX12_book 57 = .ok (.iload 4, 2) := by decide +kernel
theorem dX12_book_59 : decode cX12_book 59 = .ok (.iadd, 1) := by decide +kernel
theorem dX12_book_60 : decode cX12_book 60 = .ok (.aload_n 0, 1) := by decide +kernel
theorem dX12_book_61 : decode cX12_book 61 = .ok (.getfield 28, 3) := by decide +kernel
theorem dX12_book_64 : decode cX12_book 64 = .ok (.iload_n 1, 1) := by decide +kernel
theorem dX12_book_65 : decode cX12_book 65 = .ok (.iaload, 1) := by decide +kernel
theorem dX12_book_66 : decode cX12_book 66 = .ok (.aload_n 0, 1) := by decide +kernel
theorem dX12_book_67 : decode cX12_book 67 = .ok (.iload_n 2, 1) := by decide +kernel
theorem dX12_book_68 : decode cX12_book 68 = .ok (.iconst 1, 1) := by decide +kernel
theorem dX12_book_69 : decode cX12_book 69 = .ok (.invokevirtual 67, 3) := by decide +kernel
theorem dX12_book_72 : decode cX12_book 72 = .ok (.i2l, 1) := by decide +kernel
theorem dX12_book_73 : decode cX12_book 73 = .ok (.invokestatic 308, 3) := by decide +kernel
theorem dX12_book_76 : decode cX12_book 76 = .ok (.lastore, 1) := by decide +kernel
theorem dX12_book_77 : decode cX12_book 77 = .ok (.aload_n 0, 1) := by decide +kernel
theorem dX12_book_78 : decode cX12_book 78 = .ok (.iload_n 2, 1) := by decide +kernel
theorem dX12_book_79 : decode cX12_book 79 = .ok (.invokevirtual 134, 3) := by decide +kernel
theorem dX12_book_82 : decode cX12_book 82 = .ok (.pop, 1) := by decide +kernel
theorem dX12_book_83 : decode cX12_book 83 = .ok (.iinc 4 1, 3) := by decide +kernel
theorem dX12_book_86 : decode cX12_book 86 = .ok (.goto (-48), 3) := by decide +kernel
theorem dX12_book_89 : decode cX12_book 89 = .ok (.aload_n 0, 1) := by decide +kernel
theorem dX12_book_90 : decode cX12_book 90 = .ok (.aload_n 0, 1) := by decide +kernel
theorem dX12_book_91 : decode cX12_book 91 = .ok (.getfield 31, 3) := by decide +kernel
theorem dX12_book_94 : decode cX12_book 94 = .ok (.iload_n 1, 1) := by decide +kernel
theorem dX12_book_95 : decode cX12_book 95 = .ok (.iaload, 1) := by decide +kernel
theorem dX12_book_96 : decode cX12_book 96 = .ok (.invokevirtual 171, 3) := by decide +kernel
theorem dX12_book_99 : decode cX12_book 99 = .ok (.ireturn, 1) := by decide +kernel
theorem dX12_isBook_0 : decode cX12_isBook 0 = .ok (.iconst 0, 1) := by decide +kernel
theorem dX12_isBook_1 : decode cX12_isBook 1 = .ok (.istore_n 3, 1) := by decide +kernel
theorem dX12_isBook_2 : decode cX12_isBook 2 = .ok (.iload_n 3, 1) := by decide +kernel
theorem dX12_isBook_3 : decode cX12_isBook 3 = .ok (.aload_n 0, 1) := by decide +kernel
theorem dX12_isBook_4 : decode cX12_isBook 4 = .ok (.getfield 31, 3) := by decide +kernel
theorem dX12_isBook_7 : decode cX12_isBook 7 = .ok (.iload_n 1, 1) := by decide +kernel
theorem dX12_isBook_8 : decode cX12_isBook 8 = .ok (.iaload, 1) := by decide +kernel
theorem dX12_isBook_9 : decode cX12_isBook 9 = .ok (.if_icmp .ge 39, 3) := by decide +kernel
theorem dX12_isBook_12 : decode cX12_isBook 12 = .ok (.aload_n 0, 1) := by decide +kernel
theorem dX12_isBook_13 : decode cX12_isBook 13 = .ok (.getfield 34, 3) := by decide +kernel
theorem dX12_isBook_16 : decode cX12_isBook 16 = .ok (.bipush 40, 2) := by decide +kernel
theorem dX12_isBook_18 : decode cX12_isBook 18 = .ok (.iload_n 1, 1) := by decide +kernel
theorem dX12_isBook_19 : decode cX12_isBook 19 = .ok (.imul, 1) := by decide +kernel
theorem dX12_isBook_20 : decode cX12_isBook 20 = .ok (.iload_n 3, 1) := by decide +kernel
theorem dX12_isBook_21 : decode cX12_isBook 21 = .ok (.iadd, 1) := by decide +kernel
theorem dX12_isBook_22 : decode cX12_isBook 22 = .ok (.laload, 1) := by decide +kernel
theorem dX12_isBook_23 : decode cX12_isBook 23 = .ok (.aload_n 0, 1) := by decide +kernel
theorem dX12_isBook_24 : decode cX12_isBook 24 = .ok (.iload_n 2, 1) := by decide +kernel
theorem dX12_isBook_25 : decode cX12_isBook 25 = .ok (.iconst 1, 1) := by decide +kernel
theorem dX12_isBook_26 : decode cX12_isBook 26 = .ok (.invokevirtual 67, 3) := by decide +kernel
theorem dX12_isBook_29 : decode cX12_isBook 29 = .ok (.i2l, 1) := by decide +kernel
theorem dX12_isBook_30 : decode cX12_isBook 30 = .ok (.lcmp, 1) := by decide +kernel
theorem dX12_isBook_31 : decode cX12_isBook 31 = .ok (.ifCond .eq 5, 3) := by decide +kernel
theorem dX12_isBook_34 : decode cX12_isBook 34 = .ok (.iconst 0, 1) := by decide +kernel
theorem dX12_isBook_35 : decode cX12_isBook 35 = .ok (.ireturn, 1) := by decide +kernel
theorem dX12_isBook_36 : decode cX12_isBook 36 = .ok (.aload_n 0, 1) := by decide +kernel
theorem dX12_isBook_37 : decode cX12_isBook 37 = .ok (.iload_n 2, 1) := by decide +kernel
theorem dX12_isBook_38 : decode cX12_isBook 38 = .ok (.invokevirtual 134, 3) := by decide +kernel
theorem dX12_isBook_41 : decode cX12_isBook 41 = .ok (.pop, 1) := by decide +kernel
theorem dX12_isBook_42 : decode cX12_isBook 42 = .ok (.iinc 3 1, 3) := by decide +kernel
theorem dX12_isBook_45 : decode cX12_isBook 45 = .ok (.goto (-43), 3) := by decide +kernel
theorem dX12_isBook_48 : decode cX12_isBook 48 = .ok (.iconst 1, 1) := by decide +kernel
theorem dX12_isBook_49 : decode cX12_isBook 49 = .ok (.ireturn, 1) := by decide +kernel
theorem dX12_read_0 : decode cX12_read 0 = .ok (.aload_n 0, 1) := by decide +kernel
theorem dX12_read_1 : decode cX12_read 1 = .ok (.iload_n 1, 1) := by decide +kernel
theorem dX12_read_2 : decode cX12_read 2 = .ok (.invokevirtual 305, 3) := by decide +kernel
theorem dX12_read_5 : decode cX12_read 5 = .ok (.istore_n 3, 1) := by decide +kernel
theorem dX12_read_6 : decode cX12_read 6 = .ok (.iload_n 3, 1) := by decide +kernel
theorem dX12_read_7 : decode cX12_read 7 = .ok (.ifCond .eq 9, 3) := by decide +kernel
theorem dX12_read_10 : decode cX12_read 10 = .ok (.aload_n 0, 1) := by decide +kernel
theorem dX12_read_11 : decode cX12_read 11 = .ok (.iload_n 3, 1) := by decide +kernel
theorem dX12_read_12 : decode cX12_read 12 = .ok (.invokevirtual 63, 3) := by decide +kernel
theorem dX12_read_15 : decode cX12_read 15 = .ok (.ireturn, 1) := by decide +kernel
theorem dX12_read_16 : decode cX12_read 16 = .ok (.aload_n 0, 1) := by decide +kernel
theorem dX12_read_17 : decode cX12_read 17 = .ok (.iload_n 2, 1) := by decide +kernel
theorem dX12_read_18 : decode cX12_read 18 = .ok (.invokevirtual 103, 3) := by decide +kernel
theorem dX12_read_21 : decode cX12_read 21 = .ok (.ifCond .ne 10, 3) := by decide +kernel
theorem dX12_read_24 : decode cX12_read 24 = .ok (.aload_n 0, 1) := by decide +kernel
theorem dX12_read_25 : decode cX12_read 25 = .ok (.ldc 41, 2) := by decide +kernel
theorem dX12_read_27 : decode cX12_read 27 = .ok (.invokevirtual 63, 3) := by decide +kernel
theorem dX12_read_30 : decode cX12_read 30 = .ok (.ireturn, 1) := by decide +kernel
theorem dX12_read_31 : decode cX12_read 31 = .ok (.aload_n 0, 1) := by decide +kernel
theorem dX12_read_32 : decode cX12_read 32 = .ok (.invokevirtual 168, 3) := by decide +kernel
theorem dX12_read_35 : decode cX12_read 35 = .ok (.iconst 0, 1) := by decide +kernel
theorem dX12_read_36 : decode cX12_read 36 = .ok (.istore 4, 2) := by decide +kernel
theorem dX12_read_38 : decode cX12_read 38 = .ok (.iconst 0, 1) := by decide +kernel
theorem dX12_read_39 : decode cX12_read 39 = .ok (.istore 5, 2) := by decide +kernel
theorem dX12_read_41 : decode cX12_read 41 = .ok (.iload 5, 2) := by decide +kernel
theorem dX12_read_43 : decode cX12_read 43 = .ok (.sipush 456, 3) := by decide +kernel
theorem dX12_read_46 : decode cX12_read 46 = .ok (.if_icmp .ge 61, 3) := by decide +kernel
theorem dX12_read_49 : decode cX12_read 49 = .ok (.aload_n 0, 1) := by decide +kernel
theorem dX12_read_50 : decode cX12_read 50 = .ok (.getfield 7, 3) := by decide +kernel
theorem dX12_read_53 : decode cX12_read 53 = .ok (.iload_n 2, 1) := by decide +kernel
theorem dX12_read_54 : decode cX12_read 54 = .ok (.iconst 0, 1) := by decide +kernel
theorem dX12_read_55 : decode cX12_read 55 = .ok (.invokestatic 42, 3) := by decide +kernel
theorem dX12_read_58 : decode cX12_read 58 = .ok (.iload 5, 2) := by decide +kernel
theorem dX12_read_60 : decode cX12_read 60 = .ok (.bipush 76, 2) := by decide +kernel
theorem dX12_read_62 : decode cX12_read 62 = .ok (.idiv, 1) := by decide +kernel
theorem dX12_read_63 : decode cX12_read 63 = .ok (.iastore, 1) := by decide +kernel
theorem dX12_read_64 : decode cX12_read 64 = .ok (.aload_n 0, 1) := by decide +kernel
theorem dX12_read_65 : decode cX12_read 65 = .ok (.getfield 7, 3) := by decide +kernel
theorem dX12_read_68 : decode cX12_read 68 = .ok (.iconst 3, 1) := by decide +kernel
theorem dX12_read_69 : decode cX12_read 69 = .ok (.iload 5, 2) := by decide +kernel
theorem dX12_read_71 : decode cX12_read 71 = .ok (.bipush 76, 2) := by decide +kernel
theorem dX12_read_73 : decode cX12_read 73 = .ok (.irem, 1) := by decide +kernel
theorem dX12_read_74 : decode cX12_read 74 = .ok (.bipush 20, 2) := by decide +kernel
theorem dX12_read_76 : decode cX12_read 76 = .ok (.iadd, 1) := by decide +kernel
theorem dX12_read_77 : decode cX12_read 77 = .ok (.iastore, 1) := by decide +kernel
theorem dX12_read_78 : decode cX12_read 78 = .ok (.aload_n 0, 1) := by decide +kernel
theorem dX12_read_79 : decode cX12_read 79 = .ok (.iload 4, 2) := by decide +kernel
theorem dX12_read_81 : decode cX12_read 81 = .ok (.aload_n 0, 1) := by decide +kernel
theorem dX12_read_82 : decode cX12_read 82 = .ok (.iload_n 1, 1) := by decide +kernel
theorem dX12_read_83 : decode cX12_read 83 = .ok (.iload_n 2, 1) := by decide +kernel
theorem dX12_read_84 : decode cX12_read 84 = .ok (.invokevirtual 312, 3) := by decide +kernel
theorem dX12_read_87 : decode cX12_read 87 = .ok (.ifCond .eq 7, 3) := by decide +kernel
theorem dX12_read_90 : decode cX12_read 90 = .ok (.iconst 1, 1) := by decide +kernel
theorem dX12_read_91 : decode cX12_read 91 = .ok (.goto 4, 3) := by decide +kernel
theorem dX12_read_94 : decode cX12_read 94 = .ok (.iconst 0, 1) := by decide +kernel
theorem dX12_read_95 : decode cX12_read 95 = .ok (.iadd, 1) := by decide +kernel
theorem dX12_read_96 : decode cX12_read 96 = .ok (.invokevirtual 171, 3) := by decide +kernel
theorem dX12_read_99 : decode cX12_read 99 = .ok (.istore 4, 2) := by decide +kernel
theorem dX12_read_101 : decode cX12_read 101 = .ok (.iinc 5 1, 3) := by decide +kernel
theorem dX12_read_104 : decode cX12_read 104 = .ok (.goto (-63), 3) := by decide +kernel
theorem dX12_read_107 : decode cX12_read 107 = .ok (.iload 4, 2) := by decide +kernel
theorem dX12_read_109 : decode cX12_read 109 = .ok (.ireturn, 1) := by decide +kernel
theorem dX12_image_0 : decode cX12_image 0 = .ok (.iconst 0, 1) := by decide +kernel
theorem dX12_image_1 : decode cX12_image 1 = .ok (.istore_n 1, 1) := by decide +kernel
theorem dX12_image_2 : decode cX12_image 2 = .ok (.iload_n 1, 1) := by decide +kernel
theorem dX12_image_3 : decode cX12_image 3 = .ok (.bipush 73, 2) := by decide +kernel
theorem dX12_image_5 : decode cX12_image 5 = .ok (.if_icmp .ge 21, 3) := by decide +kernel
theorem dX12_image_8 : decode cX12_image 8 = .ok (.aload_n 0, 1) := by decide +kernel
theorem dX12_image_9 : decode cX12_image 9 = .ok (.getfield 13, 3) := by decide +kernel
theorem dX12_image_12 : decode cX12_image 12 = .ok (.iload_n 1, 1) := by decide +kernel
theorem dX12_image_13 : decode cX12_image 13 = .ok (.aload_n 0, 1) := by decide +kernel
theorem dX12_image_14 : decode cX12_image 14 = .ok (.getfield 7, 3) := by decide +kernel
theorem dX12_image_17 : decode cX12_image 17 = .ok (.iload_n 1, 1) := by decide +kernel
theorem dX12_image_18 : decode cX12_image 18 = .ok (.iaload, 1) := by decide +kernel
theorem dX12_image_19 : decode cX12_image 19 = .ok (.iastore, 1) := by decide +kernel
theorem dX12_image_20 : decode cX12_image 20 = .ok (.iinc 1 1, 3) := by decide +kernel
theorem dX12_image_23 : decode cX12_image 23 = .ok (.goto (-21), 3) := by decide +kernel
theorem dX12_image_26 : decode cX12_image 26 = .ok (.aload_n 0, 1) := by decide +kernel
theorem dX12_image_27 : decode cX12_image 27 = .ok (.iconst 1, 1) := by decide +kernel
theorem dX12_image_28 : decode cX12_image 28 = .ok (.putfield 315, 3) := by decide +kernel
theorem dX12_image_31 : decode cX12_image 31 = .ok (.iconst 1, 1) := by decide +kernel
theorem dX12_image_32 : decode cX12_image 32 = .ok (.ireturn, 1) := by decide +kernel
theorem dX12_undo_0 : decode cX12_undo 0 = .ok (.aload_n 0, 1) := by decide +kernel
theorem dX12_undo_1 : decode cX12_undo 1 = .ok (.getfield 315, 3) := by decide +kernel
theorem dX12_undo_4 : decode cX12_undo 4 = .ok (.ifCond .ne 10, 3) := by decide +kernel
theorem dX12_undo_7 : decode cX12_undo 7 = .ok (.aload_n 0, 1) := by decide +kernel
theorem dX12_undo_8 : decode cX12_undo 8 = .ok (.ldc 187, 2) := by decide +kernel
theorem dX12_undo_10 : decode cX12_undo 10 = .ok (.invokevirtual 63, 3) := by decide +kernel
theorem dX12_undo_13 : decode cX12_undo 13 = .ok (.ireturn, 1) := by decide +kernel
theorem dX12_undo_14 : decode cX12_undo 14 = .ok (.iconst 0, 1) := by decide +kernel
theorem dX12_undo_15 : decode cX12_undo 15 = .ok (.istore_n 1, 1) := by decide +kernel
theorem dX12_undo_16 : decode cX12_undo 16 = .ok (.iload_n 1, 1) := by decide +kernel
theorem dX12_undo_17 : decode cX12_undo 17 = .ok (.bipush 73, 2) := by decide +kernel
theorem dX12_undo_19 : decode cX12_undo 19 = .ok (.if_icmp .ge 21, 3) := by decide +kernel
theorem dX12_undo_22 : decode cX12_undo 22 = .ok (.aload_n 0, 1) := by decide +kernel
theorem dX12_undo_23 : decode cX12_undo 23 = .ok (.getfield 7, 3) := by decide +kernel
theorem dX12_undo_26 : decode cX12_undo 26 = .ok (.iload_n 1, 1) := by decide +kernel
theorem dX12_undo_27 : decode cX12_undo 27 = .ok (.aload_n 0, 1) := by decide +kernel
theorem dX12_undo_28 : decode cX12_undo 28 = .ok (.getfield 13, 3) := by decide +kernel
theorem dX12_undo_31 : decode cX12_undo 31 = .ok (.iload_n 1, 1) := by decide +kernel
theorem dX12_undo_32 : decode cX12_undo 32 = .ok (.iaload, 1) := by decide +kernel
theorem dX12_undo_33 : decode cX12_undo 33 = .ok (.iastore, 1) := by decide +kernel
theorem dX12_undo_34 : decode cX12_undo 34 = .ok (.iinc 1 1, 3) := by decide +kernel
theorem dX12_undo_37 : decode cX12_undo 37 = .ok (.goto (-21), 3) := by decide +kernel
theorem dX12_undo_40 : decode cX12_undo 40 = .ok (.aload_n 0, 1) := by decide +kernel
theorem dX12_undo_41 : decode cX12_undo 41 = .ok (.getfield 7, 3) := by decide +kernel
theorem dX12_undo_44 : decode cX12_undo 44 = .ok (.iconst 1, 1) := by decide +kernel
theorem dX12_undo_45 : decode cX12_undo 45 = .ok (.iaload, 1) := by decide +kernel
theorem dX12_undo_46 : decode cX12_undo 46 = .ok (.ireturn, 1) := by decide +kernel
theorem dX12_tear_0 : decode cX12_tear 0 = .ok (.aload_n 0, 1) := by decide +kernel
theorem dX12_tear_1 : decode cX12_tear 1 = .ok (.getfield 315, 3) := by decide +kernel
theorem dX12_tear_4 : decode cX12_tear 4 = .ok (.ifCond .eq 7, 3) := by decide +kernel
theorem dX12_tear_7 : decode cX12_tear 7 = .ok (.iconst 1, 1) := by decide +kernel
theorem dX12_tear_8 : decode cX12_tear 8 = .ok (.goto 4, 3) := by decide +kernel
theorem dX12_tear_11 : decode cX12_tear 11 = .ok (.iconst 0, 1) := by decide +kernel
theorem dX12_tear_12 : decode cX12_tear 12 = .ok (.istore_n 1, 1) := by decide +kernel
theorem dX12_tear_13 : decode cX12_tear 13 = .ok (.aload_n 0, 1) := by decide +kernel
theorem dX12_tear_14 : decode cX12_tear 14 = .ok (.iconst 0, 1) := by decide +kernel
theorem dX12_tear_15 : decode cX12_tear 15 = .ok (.putfield 315, 3) := by decide +kernel
theorem dX12_tear_18 : decode cX12_tear 18 = .ok (.iload_n 1, 1) := by decide +kernel
theorem dX12_tear_19 : decode cX12_tear 19 = .ok (.ireturn, 1) := by decide +kernel
theorem dX12_holes_0 : decode cX12_holes 0 = .ok (.iconst 0, 1) := by decide +kernel
theorem dX12_holes_1 : decode cX12_holes 1 = .ok (.istore_n 1, 1) := by decide +kernel
theorem dX12_holes_2 : decode cX12_holes 2 = .ok (.iconst 0, 1) := by decide +kernel
theorem dX12_holes_3 : decode cX12_holes 3 = .ok (.istore_n 2, 1) := by decide +kernel
theorem dX12_holes_4 : decode cX12_holes 4 = .ok (.iload_n 2, 1) := by decide +kernel
theorem dX12_holes_5 : decode cX12_holes 5 = .ok (.aload_n 0, 1) := by decide +kernel
theorem dX12_holes_6 : decode cX12_holes 6 = .ok (.getfield 7, 3) := by decide +kernel
theorem dX12_holes_9 : decode cX12_holes 9 = .ok (.iconst 1, 1) := by decide +kernel
theorem dX12_holes_10 : decode cX12_holes 10 = .ok (.iaload, 1) := by decide +kernel
theorem dX12_holes_11 : decode cX12_holes 11 = .ok (.if_icmp .ge 19, 3) := by decide +kernel
theorem dX12_holes_14 : decode cX12_holes 14 = .ok (.iload_n 1, 1) := by decide +kernel
theorem dX12_holes_15 : decode cX12_holes 15 = .ok (.aload_n 0, 1) := by decide +kernel
theorem dX12_holes_16 : decode cX12_holes 16 = .ok (.iload_n 2, 1) := by decide +kernel
theorem dX12_holes_17 : decode cX12_holes 17 = .ok (.bipush 6, 2) := by decide +kernel
theorem dX12_holes_19 : decode cX12_holes 19 = .ok (.invokevirtual 67, 3) := by decide +kernel
theorem dX12_holes_22 : decode cX12_holes 22 = .ok (.iadd, 1) := by decide +kernel
theorem dX12_holes_23 : decode cX12_holes 23 = .ok (.istore_n 1, 1) := by decide +kernel
theorem dX12_holes_24 : decode cX12_holes 24 = .ok (.iinc 2 1, 3) := by decide +kernel
theorem dX12_holes_27 : decode cX12_holes 27 = .ok (.goto (-23), 3) := by decide +kernel
theorem dX12_holes_30 : decode cX12_holes 30 = .ok (.iload_n 1, 1) := by decide +kernel
theorem dX12_holes_31 : decode cX12_holes 31 = .ok (.ireturn, 1) := by decide +kernel
theorem dX12_count_0 : decode cX12_count 0 = .ok (.iload_n 1, 1) := by decide +kernel
theorem dX12_count_1 : decode cX12_count 1 = .ok (.tableswitch 55 0 3 #[31, 38, 45, 50], 31) := by decide +kernel
theorem dX12_count_32 : decode cX12_count 32 = .ok (.aload_n 0, 1) := by decide +kernel
theorem dX12_count_33 : decode cX12_count 33 = .ok (.getfield 7, 3) := by decide +kernel
theorem dX12_count_36 : decode cX12_count 36 = .ok (.iconst 1, 1) := by decide +kernel
theorem dX12_count_37 : decode cX12_count 37 = .ok (.iaload, 1) := by decide +kernel
theorem dX12_count_38 : decode cX12_count 38 = .ok (.ireturn, 1) := by decide +kernel
theorem dX12_count_39 : decode cX12_count 39 = .ok (.aload_n 0, 1) := by decide +kernel
theorem dX12_count_40 : decode cX12_count 40 = .ok (.getfield 7, 3) := by decide +kernel
theorem dX12_count_43 : decode cX12_count 43 = .ok (.iconst 2, 1) := by decide +kernel
theorem dX12_count_44 : decode cX12_count 44 = .ok (.iaload, 1) := by decide +kernel
theorem dX12_count_45 : decode cX12_count 45 = .ok (.ireturn, 1) := by decide +kernel
theorem dX12_count_46 : decode cX12_count 46 = .ok (.aload_n 0, 1) := by decide +kernel
theorem dX12_count_47 : decode cX12_count 47 = .ok (.getfield 193, 3) := by decide +kernel
theorem dX12_count_50 : decode cX12_count 50 = .ok (.ireturn, 1) := by decide +kernel
theorem dX12_count_51 : decode cX12_count 51 = .ok (.aload_n 0, 1) := by decide +kernel
theorem dX12_count_52 : decode cX12_count 52 = .ok (.invokevirtual 318, 3) := by decide +kernel
theorem dX12_count_55 : decode cX12_count 55 = .ok (.ireturn, 1) := by decide +kernel
theorem dX12_count_56 : decode cX12_count 56 = .ok (.aload_n 0, 1) := by decide +kernel
theorem dX12_count_57 : decode cX12_count 57 = .ok (.ldc 41, 2) := by decide +kernel
theorem dX12_count_59 : decode cX12_count 59 = .ok (.invokevirtual 63, 3) := by decide +kernel
theorem dX12_count_62 : decode cX12_count 62 = .ok (.ireturn, 1) := by decide +kernel
theorem dX12_status_0 : decode cX12_status 0 = .ok (.iload_n 1, 1) := by decide +kernel
theorem dX12_status_1 : decode cX12_status 1 = .ok (.i2l, 1) := by decide +kernel
theorem dX12_status_2 : decode cX12_status 2 = .ok (.ldc2_w 321, 3) := by decide +kernel
theorem dX12_status_5 : decode cX12_status 5 = .ok (.ldc2_w 323, 3) := by decide +kernel
theorem dX12_status_8 : decode cX12_status 8 = .ok (.invokestatic 46, 3) := by decide +kernel
theorem dX12_status_11 : decode cX12_status 11 = .ok (.ifCond .ne 10, 3) := by decide +kernel
theorem dX12_status_14 : decode cX12_status 14 = .ok (.aload_n 0, 1) := by decide +kernel
theorem dX12_status_15 : decode cX12_status 15 = .ok (.ldc 41, 2) := by decide +kernel
theorem dX12_status_17 : decode cX12_status 17 = .ok (.invokevirtual 63, 3) := by decide +kernel
theorem dX12_status_20 : decode cX12_status 20 = .ok (.ireturn, 1) := by decide +kernel
theorem dX12_status_21 : decode cX12_status 21 = .ok (.iconst 0, 1) := by decide +kernel
theorem dX12_status_22 : decode cX12_status 22 = .ok (.istore_n 2, 1) := by decide +kernel
theorem dX12_status_23 : decode cX12_status 23 = .ok (.iconst 0, 1) := by decide +kernel
theorem dX12_status_24 : decode cX12_status 24 = .ok (.istore_n 3, 1) := by decide +kernel
theorem dX12_status_25 : decode cX12_status 25 = .ok (.iload_n 3, 1) := by decide +kernel
theorem dX12_status_26 : decode cX12_status 26 = .ok (.bipush 7, 2) := by decide +kernel
theorem dX12_status_28 : decode cX12_status 28 = .ok (.if_icmp .ge 31, 3) := by decide +kernel
theorem dX12_status_31 : decode cX12_status 31 = .ok (.iload_n 2, 1) := by decide +kernel
theorem dX12_status_32 : decode cX12_status 32 = .ok (.iload_n 1, 1) := by decide +kernel
theorem dX12_status_33 : decode cX12_status 33 = .ok (.ifCond .lt 8, 3) := by decide +kernel
theorem dX12_status_36 : decode cX12_status 36 = .ok (.iload_n 3, 1) := by decide +kernel
theorem dX12_status_37 : decode cX12_status 37 = .ok (.iload_n 1, 1) := by decide +kernel
theorem dX12_status_38 : decode cX12_status 38 = .ok (.if_icmp .ne 12, 3) := by decide +kernel
theorem dX12_status_41 : decode cX12_status 41 = .ok (.aload_n 0, 1) := by decide +kernel
theorem dX12_status_42 : decode cX12_status 42 = .ok (.getfield 22, 3) := by decide +kernel
theorem dX12_status_45 : decode cX12_status 45 = .ok (.iload_n 3, 1) := by decide +kernel
theorem dX12_status_46 : decode cX12_status 46 = .ok (.iaload, 1) := by decide +kernel
theorem dX12_status_47 : decode cX12_status 47 = .ok (.goto 4, 3) := by decide +kernel
theorem dX12_status_50 : decode cX12_status 50 = .ok (.iconst 0, 1) := by decide +kernel
theorem dX12_status_51 : decode cX12_status 51 = .ok (.iadd, 1) := by decide +kernel
theorem dX12_status_52 : decode cX12_status 52 = .ok (.istore_n 2, 1) := by decide +kernel
theorem dX12_status_53 : decode cX12_status 53 = .ok (.iinc 3 1, 3) := by decide +kernel
theorem dX12_status_56 : decode cX12_status 56 = .ok (.goto (-31), 3) := by decide +kernel
theorem dX12_status_59 : decode cX12_status 59 = .ok (.iload_n 2, 1) := by decide +kernel
theorem dX12_status_60 : decode cX12_status 60 = .ok (.ireturn, 1) := by decide +kernel
