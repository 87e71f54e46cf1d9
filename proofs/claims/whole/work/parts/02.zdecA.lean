theorem dX0_init_0 : decode cX0_init 0 = .ok (.aload_n 0, 1) := by decide +kernel
theorem dX0_init_1 : decode cX0_init 1 = .ok (.invokespecial 3, 3) := by decide +kernel
theorem dX0_init_4 : decode cX0_init 4 = .ok (.aload_n 0, 1) := by decide +kernel
theorem dX0_init_5 : decode cX0_init 5 = .ok (.aload_n 1, 1) := by decide +kernel
theorem dX0_init_6 : decode cX0_init 6 = .ok (.putfield 9, 3) := by decide +kernel
theorem dX0_init_9 : decode cX0_init 9 = .ok (.aload_n 0, 1) := by decide +kernel
theorem dX0_init_10 : decode cX0_init 10 = .ok (.bipush 8, 2) := by decide +kernel
theorem dX0_init_12 : decode cX0_init 12 = .ok (.anewarray 15, 3) := by decide +kernel
theorem dX0_init_15 : decode cX0_init 15 = .ok (.putfield 17, 3) := by decide +kernel
theorem dX0_init_18 : decode cX0_init 18 = .ok (.iconst 0, 1) := by decide +kernel
theorem dX0_init_19 : decode cX0_init 19 = .ok (.istore_n 2, 1) := by decide +kernel
theorem dX0_init_20 : decode cX0_init 20 = .ok (.iload_n 2, 1) := by decide +kernel
theorem dX0_init_21 : decode cX0_init 21 = .ok (.bipush 8, 2) := by decide +kernel
theorem dX0_init_23 : decode cX0_init 23 = .ok (.if_icmp .ge 25, 3) := by decide +kernel
theorem dX0_init_26 : decode cX0_init 26 = .ok (.aload_n 0, 1) := by decide +kernel
theorem dX0_init_27 : decode cX0_init 27 = .ok (.getfield 17, 3) := by decide +kernel
theorem dX0_init_30 : decode cX0_init 30 = .ok (.iload_n 2, 1) := by decide +kernel
theorem dX0_init_31 : decode cX0_init 31 = .ok (.new 15, 3) := by decide +kernel
theorem dX0_init_34 : decode cX0_init 34 = .ok (.dup, 1) := by decide +kernel
theorem dX0_init_35 : decode cX0_init 35 = .ok (.aload_n 1, 1) := by decide +kernel
theorem dX0_init_36 : decode cX0_init 36 = .ok (.iconst 0, 1) := by decide +kernel
theorem dX0_init_37 : decode cX0_init 37 = .ok (.aaload, 1) := by decide +kernel
theorem dX0_init_38 : decode cX0_init 38 = .ok (.invokespecial 21, 3) := by decide +kernel
theorem dX0_init_41 : decode cX0_init 41 = .ok (.aastore, 1) := by decide +kernel
theorem dX0_init_42 : decode cX0_init 42 = .ok (.iinc 2 1, 3) := by decide +kernel
theorem dX0_init_45 : decode cX0_init 45 = .ok (.goto (-25), 3) := by decide +kernel
theorem dX0_init_48 : decode cX0_init 48 = .ok (.aload_n 0, 1) := by decide +kernel
theorem dX0_init_49 : decode cX0_init 49 = .ok (.bipush 6, 2) := by decide +kernel
theorem dX0_init_51 : decode cX0_init 51 = .ok (.anewarray 24, 3) := by decide +kernel
theorem dX0_init_54 : decode cX0_init 54 = .ok (.putfield 26, 3) := by decide +kernel
theorem dX0_init_57 : decode cX0_init 57 = .ok (.iconst 0, 1) := by decide +kernel
theorem dX0_init_58 : decode cX0_init 58 = .ok (.istore_n 2, 1) := by decide +kernel
theorem dX0_init_59 : decode cX0_init 59 = .ok (.iload_n 2, 1) := by decide +kernel
theorem dX0_init_60 : decode cX0_init 60 = .ok (.bipush 6, 2) := by decide +kernel
theorem dX0_init_62 : decode cX0_init 62 = .ok (.if_icmp .ge 22, 3) := by decide +kernel
theorem dX0_init_65 : decode cX0_init 65 = .ok (.aload_n 0, 1) := by decide +kernel
theorem dX0_init_66 : decode cX0_init 66 = .ok (.getfield 26, 3) := by decide +kernel
theorem dX0_init_69 : decode cX0_init 69 = .ok (.iload_n 2, 1) := by decide +kernel
theorem dX0_init_70 : decode cX0_init 70 = .ok (.new 24, 3) := by decide +kernel
theorem dX0_init_73 : decode cX0_init 73 = .ok (.dup, 1) := by decide +kernel
theorem dX0_init_74 : decode cX0_init 74 = .ok (.invokespecial 30, 3) := by decide +kernel
theorem dX0_init_77 : decode cX0_init 77 = .ok (.aastore, 1) := by decide +kernel
theorem dX0_init_78 : decode cX0_init 78 = .ok (.iinc 2 1, 3) := by decide +kernel
theorem dX0_init_81 : decode cX0_init 81 = .ok (.goto (-22), 3) := by decide +kernel
theorem dX0_init_84 : decode cX0_init 84 = .ok (.aload_n 0, 1) := by decide +kernel
theorem dX0_init_85 : decode cX0_init 85 = .ok (.bipush 40, 2) := by decide +kernel
theorem dX0_init_87 : decode cX0_init 87 = .ok (.putfield 31, 3) := by decide +kernel
theorem dX0_init_90 : decode cX0_init 90 = .ok (.return_, 1) := by decide +kernel
theorem dX0_become_0 : decode cX0_become 0 = .ok (.aload_n 0, 1) := by decide +kernel
theorem dX0_become_1 : decode cX0_become 1 = .ok (.aload_n 1, 1) := by decide +kernel
theorem dX0_become_2 : decode cX0_become 2 = .ok (.getfield 35, 3) := by decide +kernel
theorem dX0_become_5 : decode cX0_become 5 = .ok (.putfield 35, 3) := by decide +kernel
theorem dX0_become_8 : decode cX0_become 8 = .ok (.aload_n 0, 1) := by decide +kernel
theorem dX0_become_9 : decode cX0_become 9 = .ok (.aload_n 1, 1) := by decide +kernel
theorem dX0_become_10 : decode cX0_become 10 = .ok (.getfield 38, 3) := by decide +kernel
theorem dX0_become_13 : decode cX0_become 13 = .ok (.putfield 38, 3) := by decide +kernel
theorem dX0_become_16 : decode cX0_become 16 = .ok (.aload_n 0, 1) := by decide +kernel
theorem dX0_become_17 : decode cX0_become 17 = .ok (.aload_n 1, 1) := by decide +kernel
theorem dX0_become_18 : decode cX0_become 18 = .ok (.getfield 41, 3) := by decide +kernel
theorem dX0_become_21 : decode cX0_become 21 = .ok (.putfield 41, 3) := by decide +kernel
theorem dX0_become_24 : decode cX0_become 24 = .ok (.aload_n 0, 1) := by decide +kernel
theorem dX0_become_25 : decode cX0_become 25 = .ok (.aload_n 1, 1) := by decide +kernel
theorem dX0_become_26 : decode cX0_become 26 = .ok (.getfield 31, 3) := by decide +kernel
theorem dX0_become_29 : decode cX0_become 29 = .ok (.putfield 31, 3) := by decide +kernel
theorem dX0_become_32 : decode cX0_become 32 = .ok (.aload_n 0, 1) := by decide +kernel
theorem dX0_become_33 : decode cX0_become 33 = .ok (.aload_n 1, 1) := by decide +kernel
theorem dX0_become_34 : decode cX0_become 34 = .ok (.getfield 44, 3) := by decide +kernel
theorem dX0_become_37 : decode cX0_become 37 = .ok (.putfield 44, 3) := by decide +kernel
theorem dX0_become_40 : decode cX0_become 40 = .ok (.iconst 0, 1) := by decide +kernel
theorem dX0_become_41 : decode cX0_become 41 = .ok (.istore_n 2, 1) := by decide +kernel
theorem dX0_become_42 : decode cX0_become 42 = .ok (.iload_n 2, 1) := by decide +kernel
theorem dX0_become_43 : decode cX0_become 43 = .ok (.bipush 8, 2) := by decide +kernel
theorem dX0_become_45 : decode cX0_become 45 = .ok (.if_icmp .ge 24, 3) := by decide +kernel
theorem dX0_become_48 : decode cX0_become 48 = .ok (.aload_n 0, 1) := by decide +kernel
theorem dX0_become_49 : decode cX0_become 49 = .ok (.getfield 17, 3) := by decide +kernel
theorem dX0_become_52 : decode cX0_become 52 = .ok (.iload_n 2, 1) := by decide +kernel
theorem dX0_become_53 : decode cX0_become 53 = .ok (.aaload, 1) := by decide +kernel
theorem dX0_become_54 : decode cX0_become 54 = .ok (.aload_n 1, 1) := by decide +kernel
theorem dX0_become_55 : decode cX0_become 55 = .ok (.getfield 17, 3) := by decide +kernel
theorem dX0_become_58 : decode cX0_become 58 = .ok (.iload_n 2, 1) := by decide +kernel
theorem dX0_become_59 : decode cX0_become 59 = .ok (.aaload, 1) := by decide +kernel
theorem dX0_become_60 : decode cX0_become 60 = .ok (.invokevirtual 47, 3) := by decide +kernel
theorem dX0_become_63 : decode cX0_become 63 = .ok (.iinc 2 1, 3) := by decide +kernel
theorem dX0_become_66 : decode cX0_become 66 = .ok (.goto (-24), 3) := by decide +kernel
theorem dX0_become_69 : decode cX0_become 69 = .ok (.iconst 0, 1) := by decide +kernel
theorem dX0_become_70 : decode cX0_become 70 = .ok (.istore_n 2, 1) := by decide +kernel
theorem dX0_become_71 : decode cX0_become 71 = .ok (.iload_n 2, 1) := by decide +kernel
theorem dX0_become_72 : decode cX0_become 72 = .ok (.bipush 6, 2) := by decide +kernel
theorem dX0_become_74 : decode cX0_become 74 = .ok (.if_icmp .ge 45, 3) := by decide +kernel
theorem dX0_become_77 : decode cX0_become 77 = .ok (.aload_n 0, 1) := by decide +kernel
theorem dX0_become_78 : decode cX0_become 78 = .ok (.getfield 26, 3) := by decide +kernel
theorem dX0_become_81 : decode cX0_become 81 = .ok (.iload_n 2, 1) := by decide +kernel
theorem dX0_become_82 : decode cX0_become 82 = .ok (.aaload, 1) := by decide +kernel
theorem dX0_become_83 : decode cX0_become 83 = .ok (.aload_n 1, 1) := by decide +kernel
theorem dX0_become_84 : decode cX0_become 84 = .ok (.getfield 26, 3) := by decide +kernel
theorem dX0_become_87 : decode cX0_become 87 = .ok (.iload_n 2, 1) := by decide +kernel
theorem dX0_become_88 : decode cX0_become 88 = .ok (.aaload, 1) := by decide +kernel
theorem dX0_become_89 : decode cX0_become 89 = .ok (.getfield 51, 3) := by decide +kernel
theorem dX0_become_92 : decode cX0_become 92 = .ok (.putfield 51, 3) := by decide +kernel
theorem dX0_become_95 : decode cX0_become 95 = .ok (.aload_n 0, 1) := by decide +kernel
theorem dX0_become_96 : decode cX0_become 96 = .ok (.getfield 26, 3) := by decide +kernel
theorem dX0_become_99 : decode cX0_become 99 = .ok (.iload_n 2, 1) := by decide +kernel
theorem dX0_become_100 : decode cX0_become 100 = .ok (.aaload, 1) := by decide +kernel
theorem dX0_become_101 : decode cX0_become 101 = .ok (.aload_n 1, 1) := by decide +kernel
theorem dX0_become_102 : decode cX0_become 102 = .ok (.getfield 26, 3) := by decide +kernel
theorem dX0_become_105 : decode cX0_become 105 = .ok (.iload_n 2, 1) := by decide +kernel
theorem dX0_become_106 : decode cX0_become 106 = .ok (.aaload, 1) := by decide +kernel
theorem dX0_become_107 : decode cX0_become 107 = .ok (.getfield 54, 3) := by decide +kernel
theorem dX0_become_110 : decode cX0_become 110 = .ok (.putfield 54, 3) := by decide +kernel
theorem dX0_become_113 : decode cX0_become 113 = .ok (.iinc 2 1, 3) := by decide +kernel
theorem dX0_become_116 : decode cX0_become 116 = .ok (.goto (-45), 3) := by decide +kernel
theorem dX0_become_119 : decode cX0_become 119 = .ok (.return_, 1) := by decide +kernel
theorem dX0_kindAt_0 : decode cX0_kindAt 0 = .ok (.iload_n 1, 1) := by decide +kernel
theorem dX0_kindAt_1 : decode cX0_kindAt 1 = .ok (.ifCond .lt 21, 3) := by decide +kernel
theorem dX0_kindAt_4 : decode cX0_kindAt 4 = .ok (.iload_n 1, 1) := by decide +kernel
theorem dX0_kindAt_5 : decode cX0_kindAt 5 = .ok (.aload_n 0, 1) := by decide +kernel
theorem dX0_kindAt_6 : decode cX0_kindAt 6 = .ok (.getfield 9, 3) := by decide +kernel
theorem dX0_kindAt_9 : decode cX0_kindAt 9 = .ok (.arraylength, 1) := by decide +kernel
theorem dX0_kindAt_10 : decode cX0_kindAt 10 = .ok (.if_icmp .ge 12, 3) := by decide +kernel
theorem dX0_kindAt_13 : decode cX0_kindAt 13 = .ok (.aload_n 0, 1) := by decide +kernel
theorem dX0_kindAt_14 : decode cX0_kindAt 14 = .ok (.getfield 9, 3) := by decide +kernel
theorem dX0_kindAt_17 : decode cX0_kindAt 17 = .ok (.iload_n 1, 1) := by decide +kernel
theorem dX0_kindAt_18 : decode cX0_kindAt 18 = .ok (.aaload, 1) := by decide +kernel
theorem dX0_kindAt_19 : decode cX0_kindAt 19 = .ok (.goto 4, 3) := by decide +kernel
theorem dX0_kindAt_22 : decode cX0_kindAt 22 = .ok (.aconst_null, 1) := by decide +kernel
theorem dX0_kindAt_23 : decode cX0_kindAt 23 = .ok (.areturn, 1) := by decide +kernel
theorem dX0_garmentAt_0 : decode cX0_garmentAt 0 = .ok (.iload_n 1, 1) := by decide +kernel
theorem dX0_garmentAt_1 : decode cX0_garmentAt 1 = .ok (.ifCond .lt 29, 3) := by decide +kernel
theorem dX0_garmentAt_4 : decode cX0_garmentAt 4 = .ok (.iload_n 1, 1) := by decide +kernel
theorem dX0_garmentAt_5 : decode cX0_garmentAt 5 = .ok (.aload_n 0, 1) := by decide +kernel
theorem dX0_garmentAt_6 : decode cX0_garmentAt 6 = .ok (.getfield 35, 3) := by decide +kernel
theorem dX0_garmentAt_9 : decode cX0_garmentAt 9 = .ok (.if_icmp .ge 21, 3) := by decide +kernel
theorem dX0_garmentAt_12 : decode cX0_garmentAt 12 = .ok (.iload_n 1, 1) := by decide +kernel
theorem dX0_garmentAt_13 : decode cX0_garmentAt 13 = .ok (.aload_n 0, 1) := by decide +kernel
theorem dX0_garmentAt_14 : decode cX0_garmentAt 14 = .ok (.getfield 17, 3) := by decide +kernel
theorem dX0_garmentAt_17 : decode cX0_garmentAt 17 = .ok (.arraylength, 1) := by decide +kernel
theorem dX0_garmentAt_18 : decode cX0_garmentAt 18 = .ok (.if_icmp .ge 12, 3) := by decide +kernel
theorem dX0_garmentAt_21 : decode cX0_garmentAt 21 = .ok (.aload_n 0, 1) := by decide +kernel
theorem dX0_garmentAt_22 : decode cX0_garmentAt 22 = .ok (.getfield 17, 3) := by decide +kernel
theorem dX0_garmentAt_25 : decode cX0_garmentAt 25 = .ok (.iload_n 1, 1) := by decide +kernel
theorem dX0_garmentAt_26 : decode cX0_garmentAt 26 = .ok (.aaload, 1) := by decide +kernel
theorem dX0_garmentAt_27 : decode cX0_garmentAt 27 = .ok (.goto 4, 3) := by decide +kernel
theorem dX0_garmentAt_30 : decode cX0_garmentAt 30 = .ok (.aconst_null, 1) := by decide +kernel
theorem dX0_garmentAt_31 : decode cX0_garmentAt 31 = .ok (.areturn, 1) := by decide +kernel
theorem dX0_personAt_0 : decode cX0_personAt 0 = .ok (.iload_n 1, 1) := by decide +kernel
theorem dX0_personAt_1 : decode cX0_personAt 1 = .ok (.ifCond .lt 29, 3) := by decide +kernel
theorem dX0_personAt_4 : decode cX0_personAt 4 = .ok (.iload_n 1, 1) := by decide +kernel
theorem dX0_personAt_5 : decode cX0_personAt 5 = .ok (.aload_n 0, 1) := by decide +kernel
theorem dX0_personAt_6 : decode cX0_personAt 6 = .ok (.getfield 38, 3) := by decide +kernel
theorem dX0_personAt_9 : decode cX0_personAt 9 = .ok (.if_icmp .ge 21, 3) := by decide +kernel
theorem dX0_personAt_12 : decode cX0_personAt 12 = .ok (.iload_n 1, 1) := by decide +kernel
theorem dX0_personAt_13 : decode cX0_personAt 13 = .ok (.aload_n 0, 1) := by decide +kernel
theorem dX0_personAt_14 : decode cX0_personAt 14 = .ok (.getfield 26, 3) := by decide +kernel
theorem dX0_personAt_17 : decode cX0_personAt 17 = .ok (.arraylength, 1) := by decide +kernel
theorem dX0_personAt_18 : decode cX0_personAt 18 = .ok (.if_icmp .ge 12, 3) := by decide +kernel
theorem dX0_personAt_21 : decode cX0_personAt 21 = .ok (.aload_n 0, 1) := by decide +kernel
theorem dX0_personAt_22 : decode cX0_personAt 22 = .ok (.getfield 26, 3) := by decide +kernel
theorem dX0_personAt_25 : decode cX0_personAt 25 = .ok (.iload_n 1, 1) := by decide +kernel
theorem dX0_personAt_26 : decode cX0_personAt 26 = .ok (.aaload, 1) := by decide +kernel
theorem dX0_personAt_27 : decode cX0_personAt 27 = .ok (.goto 4, 3) := by decide +kernel
theorem dX0_personAt_30 : decode cX0_personAt 30 = .ok (.aconst_null, 1) := by decide +kernel
theorem dX0_personAt_31 : decode cX0_personAt 31 = .ok (.areturn, 1) := by decide +kernel
theorem dX0_addGarment_0 : decode cX0_addGarment 0 = .ok (.aload_n 0, 1) := by decide +kernel
theorem dX0_addGarment_1 : decode cX0_addGarment 1 = .ok (.iload_n 1, 1) := by decide +kernel
theorem dX0_addGarment_2 : decode cX0_addGarment 2 = .ok (.invokevirtual 57, 3) := by decide +kernel
theorem dX0_addGarment_5 : decode cX0_addGarment 5 = .ok (.astore_n 2, 1) := by decide +kernel
theorem dX0_addGarment_6 : decode cX0_addGarment 6 = .ok (.aload_n 2, 1) := by decide +kernel
theorem dX0_addGarment_7 : decode cX0_addGarment 7 = .ok (.ifnull 12, 3) := by decide +kernel
theorem dX0_addGarment_10 : decode cX0_addGarment 10 = .ok (.aload_n 0, 1) := by decide +kernel
theorem dX0_addGarment_11 : decode cX0_addGarment 11 = .ok (.getfield 35, 3) := by decide +kernel
theorem dX0_addGarment_14 : decode cX0_addGarment 14 = .ok (.bipush 8, 2) := by decide +kernel
theorem dX0_addGarment_16 : decode cX0_addGarment 16 = .ok (.if_icmp .lt 5, 3) := by decide +kernel
theorem dX0_addGarment_19 : decode cX0_addGarment 19 = .ok (.aconst_null, 1) := by decide +kernel
theorem dX0_addGarment_20 : decode cX0_addGarment 20 = .ok (.areturn, 1) := by decide +kernel
theorem dX0_addGarment_21 : decode cX0_addGarment 21 = .ok (.aload_n 0, 1) := by decide +kernel
theorem dX0_addGarment_22 : decode cX0_addGarment 22 = .ok (.getfield 17, 3) := by decide +kernel
theorem dX0_addGarment_25 : decode cX0_addGarment 25 = .ok (.aload_n 0, 1) := by decide +kernel
theorem dX0_addGarment_26 : decode cX0_addGarment 26 = .ok (.getfield 35, 3) := by decide +kernel
theorem dX0_addGarment_29 : decode cX0_addGarment 29 = .ok (.aaload, 1) := by decide +kernel
theorem dX0_addGarment_30 : decode cX0_addGarment 30 = .ok (.astore_n 3, 1) := by decide +kernel
theorem dX0_addGarment_31 : decode cX0_addGarment 31 = .ok (.aload_n 3, 1) := by decide +kernel
theorem dX0_addGarment_32 : decode cX0_addGarment 32 = .ok (.aload_n 2, 1) := by decide +kernel
theorem dX0_addGarment_33 : decode cX0_addGarment 33 = .ok (.invokevirtual 61, 3) := by decide +kernel
theorem dX0_addGarment_36 : decode cX0_addGarment 36 = .ok (.aload_n 0, 1) := by decide +kernel
theorem dX0_addGarment_37 : decode cX0_addGarment 37 = .ok (.dup, 1) := by decide +kernel
theorem dX0_addGarment_38 : decode cX0_addGarment 38 = .ok (.getfield 35, 3) := by decide +kernel
theorem dX0_addGarment_41 : decode cX0_addGarment 41 = .ok (.iconst 1, 1) := by decide +kernel
theorem dX0_addGarment_42 : decode cX0_addGarment 42 = .ok (.iadd, 1) := by decide +kernel
theorem dX0_addGarment_43 : decode cX0_addGarment 43 = .ok (.putfield 35, 3) := by decide +kernel
theorem dX0_addGarment_46 : decode cX0_addGarment 46 = .ok (.aload_n 3, 1) := by decide +kernel
theorem dX0_addGarment_47 : decode cX0_addGarment 47 = .ok (.areturn, 1) := by decide +kernel
theorem dX0_addPerson_0 : decode cX0_addPerson 0 = .ok (.aload_n 0, 1) := by decide +kernel
theorem dX0_addPerson_1 : decode cX0_addPerson 1 = .ok (.getfield 38, 3) := by decide +kernel
theorem dX0_addPerson_4 : decode cX0_addPerson 4 = .ok (.bipush 6, 2) := by decide +kernel
theorem dX0_addPerson_6 : decode cX0_addPerson 6 = .ok (.if_icmp .lt 5, 3) := by decide +kernel
theorem dX0_addPerson_9 : decode cX0_addPerson 9 = .ok (.aconst_null, 1) := by decide +kernel
theorem dX0_addPerson_10 : decode cX0_addPerson 10 = .ok (.areturn, 1) := by decide +kernel
theorem dX0_addPerson_11 : decode cX0_addPerson 11 = .ok (.aload_n 0, 1) := by decide +kernel
theorem dX0_addPerson_12 : decode cX0_addPerson 12 = .ok (.getfield 26, 3) := by decide +kernel
theorem dX0_addPerson_15 : decode cX0_addPerson 15 = .ok (.aload_n 0, 1) := by decide +kernel
theorem dX0_addPerson_16 : decode cX0_addPerson 16 = .ok (.getfield 38, 3) := by decide +kernel
theorem dX0_addPerson_19 : decode cX0_addPerson 19 = .ok (.aaload, 1) := by decide +kernel
theorem dX0_addPerson_20 : decode cX0_addPerson 20 = .ok (.astore_n 3, 1) := by decide +kernel
theorem dX0_addPerson_21 : decode cX0_addPerson 21 = .ok (.aload_n 3, 1) := by decide +kernel
theorem dX0_addPerson_22 : decode cX0_addPerson 22 = .ok (.iload_n 1, 1) := by decide +kernel
theorem dX0_addPerson_23 : decode cX0_addPerson 23 = .ok (.putfield 51, 3) := by decide +kernel
theorem dX0_addPerson_26 : decode cX0_addPerson 26 = .ok (.aload_n 3, 1) := by decide +kernel
theorem dX0_addPerson_27 : decode cX0_addPerson 27 = .ok (.iload_n 2, 1) := by decide +kernel
theorem dX0_addPerson_28 : decode cX0_addPerson 28 = .ok (.putfield 54, 3) := by decide +kernel
theorem dX0_addPerson_31 : decode cX0_addPerson 31 = .ok (.aload_n 0, 1) := by decide +kernel
theorem dX0_addPerson_32 : decode cX0_addPerson 32 = .ok (.dup, 1) := by decide +kernel
theorem dX0_addPerson_33 : decode cX0_addPerson 33 = .ok (.getfield 38, 3) := by decide +kernel
theorem dX0_addPerson_36 : decode cX0_addPerson 36 = .ok (.iconst 1, 1) := by decide +kernel
theorem dX0_addPerson_37 : decode cX0_addPerson 37 = .ok (.iadd, 1) := by decide +kernel
theorem dX0_addPerson_38 : decode cX0_addPerson 38 = .ok (.putfield 38, 3) := by decide +kernel
theorem dX0_addPerson_41 : decode cX0_addPerson 41 = .ok (.aload_n 3, 1) := by decide +kernel
theorem dX0_addPerson_42 : decode cX0_addPerson 42 = .ok (.areturn, 1) := by decide +kernel
theorem dX0_letDaysGo_0 : decode cX0_letDaysGo 0 = .ok (.iconst 0, 1) := by decide +kernel
theorem dX0_letDaysGo_1 : decode cX0_letDaysGo 1 = .ok (.istore_n 2, 1) := by decide +kernel
theorem dX0_letDaysGo_2 : decode cX0_letDaysGo 2 = .ok (.iload_n 2, 1) := by decide +kernel
theorem dX0_letDaysGo_3 : decode cX0_letDaysGo 3 = .ok (.aload_n 0, 1) := by decide +kernel
theorem dX0_letDaysGo_4 : decode cX0_letDaysGo 4 = .ok (.getfield 35, 3) := by decide +kernel
theorem dX0_letDaysGo_7 : decode cX0_letDaysGo 7 = .ok (.if_icmp .ge 19, 3) := by decide +kernel
theorem dX0_letDaysGo_10 : decode cX0_letDaysGo 10 = .ok (.aload_n 0, 1) := by decide +kernel
theorem dX0_letDaysGo_11 : decode cX0_letDaysGo 11 = .ok (.getfield 17, 3) := by decide +kernel
theorem dX0_letDaysGo_14 : decode cX0_letDaysGo 14 = .ok (.iload_n 2, 1) := by decide +kernel
theorem dX0_letDaysGo_15 : decode cX0_letDaysGo 15 = .ok (.aaload, 1) := by decide +kernel
theorem dX0_letDaysGo_16 : decode cX0_letDaysGo 16 = .ok (.iload_n 1, 1) := by decide +kernel
theorem dX0_letDaysGo_17 : decode cX0_letDaysGo 17 = .ok (.invokevirtual 64, 3) := by decide +kernel
theorem dX0_letDaysGo_20 : decode cX0_letDaysGo 20 = .ok (.iinc 2 1, 3) := by decide +kernel
theorem dX0_letDaysGo_23 : decode cX0_letDaysGo 23 = .ok (.goto (-21), 3) := by decide +kernel
theorem dX0_letDaysGo_26 : decode cX0_letDaysGo 26 = .ok (.aload_n 0, 1) := by decide +kernel
theorem dX0_letDaysGo_27 : decode cX0_letDaysGo 27 = .ok (.dup, 1) := by decide +kernel
theorem dX0_letDaysGo_28 : decode cX0_letDaysGo 28 = .ok (.getfield 41, 3) := by decide +kernel
theorem dX0_letDaysGo_31 : decode cX0_letDaysGo 31 = .ok (.iload_n 1, 1) := by decide +kernel
theorem dX0_letDaysGo_32 : decode cX0_letDaysGo 32 = .ok (.iadd, 1) := by decide +kernel
theorem dX0_letDaysGo_33 : decode cX0_letDaysGo 33 = .ok (.putfield 41, 3) := by decide +kernel
theorem dX0_letDaysGo_36 : decode cX0_letDaysGo 36 = .ok (.return_, 1) := by decide +kernel
theorem dX0_wetOnes_0 : decode cX0_wetOnes 0 = .ok (.iconst 0, 1) := by decide +kernel
theorem dX0_wetOnes_1 : decode cX0_wetOnes 1 = .ok (.istore_n 1, 1) := by decide +kernel
theorem dX0_wetOnes_2 : decode cX0_wetOnes 2 = .ok (.iconst 0, 1) := by decide +kernel
theorem dX0_wetOnes_3 : decode cX0_wetOnes 3 = .ok (.istore_n 2, 1) := by decide +kernel
theorem dX0_wetOnes_4 : decode cX0_wetOnes 4 = .ok (.iload_n 2, 1) := by decide +kernel
theorem dX0_wetOnes_5 : decode cX0_wetOnes 5 = .ok (.aload_n 0, 1) := by decide +kernel
theorem dX0_wetOnes_6 : decode cX0_wetOnes 6 = .ok (.getfield 35, 3) := by decide +kernel
theorem dX0_wetOnes_9 : decode cX0_wetOnes 9 = .ok (.if_icmp .ge 27, 3) := by decide +kernel
theorem dX0_wetOnes_12 : decode cX0_wetOnes 12 = .ok (.aload_n 0, 1) := by decide +kernel
theorem dX0_wetOnes_13 : decode cX0_wetOnes 13 = .ok (.getfield 17, 3) := by decide +kernel
theorem dX0_wetOnes_16 : decode cX0_wetOnes 16 = .ok (.iload_n 2, 1) := by decide +kernel
theorem dX0_wetOnes_17 : decode cX0_wetOnes 17 = .ok (.aaload, 1) := by decide +kernel
theorem dX0_wetOnes_18 : decode cX0_wetOnes 18 = .ok (.getfield 68, 3) := by decide +kernel
theorem dX0_wetOnes_21 : decode cX0_wetOnes 21 = .ok (.ifCond .le 9, 3) := by decide +kernel
theorem dX0_wetOnes_24 : decode cX0_wetOnes 24 = .ok (.iload_n 1, 1) := by decide +kernel
theorem dX0_wetOnes_25 : decode cX0_wetOnes 25 = .ok (.iconst 1, 1) := by decide +kernel
theorem dX0_wetOnes_26 : decode cX0_wetOnes 26 = .ok (.iload_n 2, 1) := by decide +kernel
theorem dX0_wetOnes_27 : decode cX0_wetOnes 27 = .ok (.ishl, 1) := by decide +kernel
theorem dX0_wetOnes_28 : decode cX0_wetOnes 28 = .ok (.ior, 1) := by decide +kernel
theorem dX0_wetOnes_29 : decode cX0_wetOnes 29 = .ok (.istore_n 1, 1) := by decide +kernel
theorem dX0_wetOnes_30 : decode cX0_wetOnes 30 = .ok (.iinc 2 1, 3) := by decide +kernel
theorem dX0_wetOnes_33 : decode cX0_wetOnes 33 = .ok (.goto (-29), 3) := by decide +kernel
theorem dX0_wetOnes_36 : decode cX0_wetOnes 36 = .ok (.iload_n 1, 1) := by decide +kernel
theorem dX0_wetOnes_37 : decode cX0_wetOnes 37 = .ok (.ireturn, 1) := by decide +kernel
theorem dX0_onesWithHoles_0 : decode cX0_onesWithHoles 0 = .ok (.iconst 0, 1) := by decide +kernel
theorem dX0_onesWithHoles_1 : decode cX0_onesWithHoles 1 = .ok (.istore_n 1, 1) := by decide +kernel
theorem dX0_onesWithHoles_2 : decode cX0_onesWithHoles 2 = .ok (.iconst 0, 1) := by decide +kernel
theorem dX0_onesWithHoles_3 : decode cX0_onesWithHoles 3 = .ok (.istore_n 2, 1) := by decide +kernel
theorem dX0_onesWithHoles_4 : decode cX0_onesWithHoles 4 = .ok (.iload_n 2, 1) := by decide +kernel
theorem dX0_onesWithHoles_5 : decode cX0_onesWithHoles 5 = .ok (.aload_n 0, 1) := by decide +kernel
theorem dX0_onesWithHoles_6 : decode cX0_onesWithHoles 6 = .ok (.getfield 35, 3) := by decide +kernel
theorem dX0_onesWithHoles_9 : decode cX0_onesWithHoles 9 = .ok (.if_icmp .ge 27, 3) := by decide +kernel
theorem dX0_onesWithHoles_12 : decode cX0_onesWithHoles 12 = .ok (.aload_n 0, 1) := by decide +kernel
theorem dX0_onesWithHoles_13 : decode cX0_onesWithHoles 13 = .ok (.getfield 17, 3) := by decide +kernel
theorem dX0_onesWithHoles_16 : decode cX0_onesWithHoles 16 = .ok (.iload_n 2, 1) := by decide +kernel
theorem dX0_onesWithHoles_17 : decode cX0_onesWithHoles 17 = .ok (.aaload, 1) := by decide +kernel
theorem dX0_onesWithHoles_18 : decode cX0_onesWithHoles 18 = .ok (.getfield 71, 3) := by decide +kernel
theorem dX0_onesWithHoles_21 : decode cX0_onesWithHoles 21 = .ok (.ifCond .le 9, 3) := by decide +kernel
theorem dX0_onesWithHoles_24 : decode cX0_onesWithHoles 24 = .ok (.iload_n 1, 1) := by decide +kernel
theorem dX0_onesWithHoles_25 : decode cX0_onesWithHoles 25 = .ok (.iconst 1, 1) := by decide +kernel
theorem dX0_onesWithHoles_26 : decode cX0_onesWithHoles 26 = .ok (.iload_n 2, 1) := by decide +kernel
theorem dX0_onesWithHoles_27 : decode cX0_onesWithHoles 27 = .ok (.ishl, 1) := by decide +kernel
theorem dX0_onesWithHoles_28 : decode cX0_onesWithHoles 28 = .ok (.ior, 1) := by decide +kernel
theorem dX0_onesWithHoles_29 : decode cX0_onesWithHoles 29 = .ok (.istore_n 1, 1) := by decide +kernel
theorem dX0_onesWithHoles_30 : decode cX0_onesWithHoles 30 = .ok (.iinc 2 1, 3) := by decide +kernel
theorem dX0_onesWithHoles_33 : decode cX0_onesWithHoles 33 = .ok (.goto (-29), 3) := by decide +kernel
theorem dX0_onesWithHoles_36 : decode cX0_onesWithHoles 36 = .ok (.iload_n 1, 1) := by decide +kernel
theorem dX0_onesWithHoles_37 : decode cX0_onesWithHoles 37 = .ok (.ireturn, 1) := by decide +kernel
theorem dX0_onesFor_0 : decode cX0_onesFor 0 = .ok (.iconst 0, 1) := by decide +kernel
theorem dX0_onesFor_1 : decode cX0_onesFor 1 = .ok (.istore_n 2, 1) := by decide +kernel
theorem dX0_onesFor_2 : decode cX0_onesFor 2 = .ok (.iconst 0, 1) := by decide +kernel
theorem dX0_onesFor_3 : decode cX0_onesFor 3 = .ok (.istore_n 3, 1) := by decide +kernel
theorem dX0_onesFor_4 : decode cX0_onesFor 4 = .ok (.iload_n 3, 1) := by decide +kernel
theorem dX0_onesFor_5 : decode cX0_onesFor 5 = .ok (.aload_n 0, 1) := by decide +kernel
theorem dX0_onesFor_6 : decode cX0_onesFor 6 = .ok (.getfield 35, 3) := by decide +kernel
theorem dX0_onesFor_9 : decode cX0_onesFor 9 = .ok (.if_icmp .ge 28, 3) := by decide +kernel
theorem dX0_onesFor_12 : decode cX0_onesFor 12 = .ok (.aload_n 0, 1) := by decide +kernel
theorem dX0_onesFor_13 : decode cX0_onesFor 13 = .ok (.getfield 17, 3) := by decide +kernel
theorem dX0_onesFor_16 : decode cX0_onesFor 16 = .ok (.iload_n 3, 1) := by decide +kernel
theorem dX0_onesFor_17 : decode cX0_onesFor 17 = .ok (.aaload, 1) := by decide +kernel
theorem dX0_onesFor_18 : decode cX0_onesFor 18 = .ok (.aload_n 1, 1) := by decide +kernel
theorem dX0_onesFor_19 : decode cX0_onesFor 19 = .ok (.invokevirtual 74, 3) := by decide +kernel
theorem dX0_onesFor_22 : decode cX0_onesFor 22 = .ok (.ifCond .eq 9, 3) := by decide +kernel
theorem dX0_onesFor_25 : decode cX0_onesFor 25 = .ok (.iload_n 2, 1) := by decide +kernel
theorem dX0_onesFor_26 : decode cX0_onesFor 26 = .ok (.iconst 1, 1) := by decide +kernel
theorem dX0_onesFor_27 : decode cX0_onesFor 27 = .ok (.iload_n 3, 1) := by decide +kernel
theorem dX0_onesFor_28 : decode cX0_onesFor 28 = .ok (.ishl, 1) := by decide +kernel
theorem dX0_onesFor_29 : decode cX0_onesFor 29 = .ok (.ior, 1) := by decide +kernel
theorem dX0_onesFor_30 : decode cX0_onesFor 30 = .ok (.istore_n 2, 1) := by decide +kernel
theorem dX0_onesFor_31 : decode cX0_onesFor 31 = .ok (.iinc 3 1, 3) := by decide +kernel
theorem dX0_onesFor_34 : decode cX0_onesFor 34 = .ok (.goto (-30), 3) := by decide +kernel
theorem dX0_onesFor_37 : decode cX0_onesFor 37 = .ok (.iload_n 2, 1) := by decide +kernel
theorem dX0_onesFor_38 : decode cX0_onesFor 38 = .ok (.ireturn, 1) := by decide +kernel
theorem dX0_onesForAnybody_0 : decode cX0_onesForAnybody 0 = .ok (.iconst 0, 1) := by decide +kernel
theorem dX0_onesForAnybody_1 : decode cX0_onesForAnybody 1 = .ok (.istore_n 1, 1) := by decide +kernel
theorem dX0_onesForAnybody_2 : decode cX0_onesForAnybody 2 = .ok (.iconst 0, 1) := by decide +kernel
theorem dX0_onesForAnybody_3 : decode cX0_onesForAnybody 3 = .ok (.istore_n 2, 1) := by decide +kernel
theorem dX0_onesForAnybody_4 : decode cX0_onesForAnybody 4 = .ok (.iload_n 2, 1) := by decide +kernel
theorem dX0_onesForAnybody_5 : decode cX0_onesForAnybody 5 = .ok (.aload_n 0, 1) := by decide +kernel
theorem dX0_onesForAnybody_6 : decode cX0_onesForAnybody 6 = .ok (.getfield 38, 3) := by decide +kernel
theorem dX0_onesForAnybody_9 : decode cX0_onesForAnybody 9 = .ok (.if_icmp .ge 22, 3) := by decide +kernel
theorem dX0_onesForAnybody_12 : decode cX0_onesForAnybody 12 = .ok (.iload_n 1, 1) := by decide +kernel
theorem dX0_onesForAnybody_13 : decode cX0_onesForAnybody 13 = .ok (.aload_n 0, 1) := by decide +kernel
theorem dX0_onesForAnybody_14 : decode cX0_onesForAnybody 14 = .ok (.aload_n 0, 1) := by decide +kernel
theorem dX0_onesForAnybody_15 : decode cX0_onesForAnybody 15 = .ok (.getfield 26, 3) := by decide +kernel
theorem dX0_onesForAnybody_18 : decode cX0_onesForAnybody 18 = .ok (.iload_n 2, 1) := by decide +kernel
theorem dX0_onesForAnybody_19 : decode cX0_onesForAnybody 19 = .ok (.aaload, 1) := by decide +kernel
theorem dX0_onesForAnybody_20 : decode cX0_onesForAnybody 20 = .ok (.invokevirtual 78, 3) := by decide +kernel
theorem dX0_onesForAnybody_23 : decode cX0_onesForAnybody 23 = .ok (.ior, 1) := by decide +kernel
theorem dX0_onesForAnybody_24 : decode cX0_onesForAnybody 24 = .ok (.istore_n 1, 1) := by decide +kernel
theorem dX0_onesForAnybody_25 : decode cX0_onesForAnybody 25 = .ok (.iinc 2 1, 3) := by decide +kernel
theorem dX0_onesForAnybody_28 : decode cX0_onesForAnybody 28 = .ok (.goto (-24), 3) := by decide +kernel
theorem dX0_onesForAnybody_31 : decode cX0_onesForAnybody 31 = .ok (.iload_n 1, 1) := by decide +kernel
theorem dX0_onesForAnybody_32 : decode cX0_onesForAnybody 32 = .ok (.ireturn, 1) := by decide +kernel
theorem dX0_bestDressed_0 : decode cX0_bestDressed 0 = .ok (.iconst 0, 1) := by decide +kernel
theorem dX0_bestDressed_1 : decode cX0_bestDressed 1 = .ok (.istore_n 1, 1) := by decide +kernel
theorem dX0_bestDressed_2 : decode cX0_bestDressed 2 = .ok (.iconst (-1), 1) := by decide +kernel
theorem dX0_bestDressed_3 : decode cX0_bestDressed 3 = .ok (.istore_n 2, 1) := by decide +kernel
theorem dX0_bestDressed_4 : decode cX0_bestDressed 4 = .ok (.iconst 0, 1) := by decide +kernel
theorem dX0_bestDressed_5 : decode cX0_bestDressed 5 = .ok (.istore_n 3, 1) := by decide +kernel
theorem dX0_bestDressed_6 : decode cX0_bestDressed 6 = .ok (.iload_n 3, 1) := by decide +kernel
theorem dX0_bestDressed_7 : decode cX0_bestDressed 7 = .ok (.aload_n 0, 1) := by decide +kernel
theorem dX0_bestDressed_8 : decode cX0_bestDressed 8 = .ok (.getfield 38, 3) := by decide +kernel
theorem dX0_bestDressed_11 : decode cX0_bestDressed 11 = .ok (.if_icmp .ge 35, 3) := by decide +kernel
theorem dX0_bestDressed_14 : decode cX0_bestDressed 14 = .ok (.aload_n 0, 1) := by decide +kernel
theorem dX0_bestDressed_15 : decode cX0_bestDressed 15 = .ok (.aload_n 0, 1) := by decide +kernel
theorem dX0_bestDressed_16 : decode cX0_bestDressed 16 = .ok (.getfield 26, 3) := by decide +kernel
theorem dX0_bestDressed_19 : decode cX0_bestDressed 19 = .ok (.iload_n 3, 1) := by decide +kernel
theorem dX0_bestDressed_20 : decode cX0_bestDressed 20 = .ok (.aaload, 1) := by decide +kernel
theorem dX0_bestDressed_21 : decode cX0_bestDressed 21 = .ok (.invokevirtual 78, 3) := by decide +kernel
theorem dX0_bestDressed_24 : decode cX0_bestDressed 24 = .ok (.invokestatic 82, 3) := by decide +kernel
theorem dX0_bestDressed_27 : decode cX0_bestDressed 27 = .ok (.istore 4, 2) := by decide +kernel
theorem dX0_bestDressed_29 : decode cX0_bestDressed 29 = .ok (.iload 4, 2) := by decide +kernel
theorem dX0_bestDressed_31 : decode cX0_bestDressed 31 = .ok (.iload_n 2, 1) := by decide +kernel
theorem dX0_bestDressed_32 : decode cX0_bestDressed 32 = .ok (.if_icmp .le 8, 3) := by decide +kernel
theorem dX0_bestDressed_35 : decode cX0_bestDressed 35 = .ok (.iload 4, 2) := by decide +kernel
theorem dX0_bestDressed_37 : decode cX0_bestDressed 37 = .ok (.istore_n 2, 1) := by decide +kernel
theorem dX0_bestDressed_38 : decode cX0_bestDressed 38 = .ok (.iload_n 3, 1) := by decide +kernel
theorem dX0_bestDressed_39 : decode cX0_bestDressed 39 = .ok (.istore_n 1, 1) := by decide +kernel
theorem dX0_bestDressed_40 : decode cX0_bestDressed 40 = .ok (.iinc 3 1, 3) := by decide +kernel
theorem dX0_bestDressed_43 : decode cX0_bestDressed 43 = .ok (.goto (-37), 3) := by decide +kernel
theorem dX0_bestDressed_46 : decode cX0_bestDressed 46 = .ok (.iload_n 1, 1) := by decide +kernel
theorem dX0_bestDressed_47 : decode cX0_bestDressed 47 = .ok (.ireturn, 1) := by decide +kernel
theorem dX0_allHoles_0 : decode cX0_allHoles 0 = .ok (.iconst 0, 1) := by decide +kernel
theorem dX0_allHoles_1 : decode cX0_allHoles 1 = .ok (.istore_n 1, 1) := by decide +kernel
theorem dX0_allHoles_2 : decode cX0_allHoles 2 = .ok (.iconst 0, 1) := by decide +kernel
theorem dX0_allHoles_3 : decode cX0_allHoles 3 = .ok (.istore_n 2, 1) := by decide +kernel
theorem dX0_allHoles_4 : decode cX0_allHoles 4 = .ok (.iload_n 2, 1) := by decide +kernel
theorem dX0_allHoles_5 : decode cX0_allHoles 5 = .ok (.aload_n 0, 1) := by decide +kernel
theorem dX0_allHoles_6 : decode cX0_allHoles 6 = .ok (.getfield 35, 3) := by decide +kernel
theorem dX0_allHoles_9 : decode cX0_allHoles 9 = .ok (.if_icmp .ge 21, 3) := by decide +kernel
theorem dX0_allHoles_12 : decode cX0_allHoles 12 = .ok (.iload_n 1, 1) := by decide +kernel
theorem dX0_allHoles_13 : decode cX0_allHoles 13 = .ok (.aload_n 0, 1) := by decide +kernel
theorem dX0_allHoles_14 : decode cX0_allHoles 14 = .ok (.getfield 17, 3) := by decide +kernel
theorem dX0_allHoles_17 : decode cX0_allHoles 17 = .ok (.iload_n 2, 1) := by decide +kernel
theorem dX0_allHoles_18 : decode cX0_allHoles 18 = .ok (.aaload, 1) := by decide +kernel
theorem dX0_allHoles_19 : decode cX0_allHoles 19 = .ok (.getfield 71, 3) := by decide +kernel
theorem dX0_allHoles_22 : decode cX0_allHoles 22 = .ok (.iadd, 1) := by decide +kernel
theorem dX0_allHoles_23 : decode cX0_allHoles 23 = .ok (.istore_n 1, 1) := by decide +kernel
theorem dX0_allHoles_24 : decode cX0_allHoles 24 = .ok (.iinc 2 1, 3) := by decide +kernel
theorem dX0_allHoles_27 : decode cX0_allHoles 27 = .ok (.goto (-23), 3) := by decide +kernel
theorem dX0_allHoles_30 : decode cX0_allHoles 30 = .ok (.iload_n 1, 1) := by decide +kernel
theorem dX0_allHoles_31 : decode cX0_allHoles 31 = .ok (.ireturn, 1) := by decide +kernel
theorem dX1_init_0 : decode cX1_init 0 = .ok (.aload_n 0, 1) := by decide +kernel
theorem dX1_init_1 : decode cX1_init 1 = .ok (.iload_n 1, 1) := by decide +kernel
theorem dX1_init_2 : decode cX1_init 2 = .ok (.aload_n 2, 1) := by decide +kernel
theorem dX1_init_3 : decode cX1_init 3 = .ok (.invokespecial 1, 3) := by decide +kernel
theorem dX1_init_6 : decode cX1_init 6 = .ok (.return_, 1) := by decide +kernel
theorem dX1_shrinks_0 : decode cX1_shrinks 0 = .ok (.iload_n 1, 1) := by decide +kernel
theorem dX1_shrinks_1 : decode cX1_shrinks 1 = .ok (.bipush 20, 2) := by decide +kernel
theorem dX1_shrinks_3 : decode cX1_shrinks 3 = .ok (.idiv, 1) := by decide +kernel
theorem dX1_shrinks_4 : decode cX1_shrinks 4 = .ok (.ireturn, 1) := by decide +kernel
theorem dX1_bears_0 : decode cX1_bears 0 = .ok (.iconst 5, 1) := by decide +kernel
theorem dX1_bears_1 : decode cX1_bears 1 = .ok (.ireturn, 1) := by decide +kernel
theorem dX1_keeps_0 : decode cX1_keeps 0 = .ok (.bipush 20, 2) := by decide +kernel
theorem dX1_keeps_2 : decode cX1_keeps 2 = .ok (.ireturn, 1) := by decide +kernel
theorem dX2_init_0 : decode cX2_init 0 = .ok (.aload_n 0, 1) := by decide +kernel
theorem dX2_init_1 : decode cX2_init 1 = .ok (.invokespecial 3, 3) := by decide +kernel
theorem dX2_init_4 : decode cX2_init 4 = .ok (.aload_n 0, 1) := by decide +kernel
theorem dX2_init_5 : decode cX2_init 5 = .ok (.aload_n 1, 1) := by decide +kernel
theorem dX2_init_6 : decode cX2_init 6 = .ok (.putfield 9, 3) := by decide +kernel
theorem dX2_init_9 : decode cX2_init 9 = .ok (.return_, 1) := by decide +kernel
theorem dX2_beNew_0 : decode cX2_beNew 0 = .ok (.aload_n 0, 1) := by decide +kernel
theorem dX2_beNew_1 : decode cX2_beNew 1 = .ok (.aload_n 1, 1) := by decide +kernel
theorem dX2_beNew_2 : decode cX2_beNew 2 = .ok (.putfield 9, 3) := by decide +kernel
theorem dX2_beNew_5 : decode cX2_beNew 5 = .ok (.aload_n 0, 1) := by decide +kernel
theorem dX2_beNew_6 : decode cX2_beNew 6 = .ok (.bipush 100, 2) := by decide +kernel
theorem dX2_beNew_8 : decode cX2_beNew 8 = .ok (.putfield 15, 3) := by decide +kernel
theorem dX2_beNew_11 : decode cX2_beNew 11 = .ok (.aload_n 0, 1) := by decide +kernel
theorem dX2_beNew_12 : decode cX2_beNew 12 = .ok (.bipush 100, 2) := by decide +kernel
theorem dX2_beNew_14 : decode cX2_beNew 14 = .ok (.putfield 19, 3) := by decide +kernel
theorem dX2_beNew_17 : decode cX2_beNew 17 = .ok (.aload_n 0, 1) := by decide +kernel
theorem dX2_beNew_18 : decode cX2_beNew 18 = .ok (.bipush 10, 2) := by decide +kernel
theorem dX2_beNew_20 : decode cX2_beNew 20 = .ok (.putfield 22, 3) := by decide +kernel
theorem dX2_beNew_23 : decode cX2_beNew 23 = .ok (.aload_n 0, 1) := by decide +kernel
theorem dX2_beNew_24 : decode cX2_beNew 24 = .ok (.iconst 0, 1) := by decide +kernel
theorem dX2_beNew_25 : decode cX2_beNew 25 = .ok (.putfield 25, 3) := by decide +kernel
theorem dX2_beNew_28 : decode cX2_beNew 28 = .ok (.aload_n 0, 1) := by decide +kernel
theorem dX2_beNew_29 : decode cX2_beNew 29 = .ok (.iconst 0, 1) := by decide +kernel
theorem dX2_beNew_30 : decode cX2_beNew 30 = .ok (.putfield 28, 3) := by decide +kernel
theorem dX2_beNew_33 : decode cX2_beNew 33 = .ok (.aload_n 0, 1) := by decide +kernel
theorem dX2_beNew_34 : decode cX2_beNew 34 = .ok (.iconst 0, 1) := by decide +kernel
theorem dX2_beNew_35 : decode cX2_beNew 35 = .ok (.putfield 31, 3) := by decide +kernel
theorem dX2_beNew_38 : decode cX2_beNew 38 = .ok (.return_, 1) := by decide +kernel
theorem dX2_become_0 : decode cX2_become 0 = .ok (.aload_n 0, 1) := by decide +kernel
theorem dX2_become_1 : decode cX2_become 1 = .ok (.aload_n 1, 1) := by decide +kernel
theorem dX2_become_2 : decode cX2_become 2 = .ok (.getfield 9, 3) := by decide +kernel
theorem dX2_become_5 : decode cX2_become 5 = .ok (.putfield 9, 3) := by decide +kernel
theorem dX2_become_8 : decode cX2_become 8 = .ok (.aload_n 0, 1) := by decide +kernel
theorem dX2_become_9 : decode cX2_become 9 = .ok (.aload_n 1, 1) := by decide +kernel
theorem dX2_become_10 : decode cX2_become 10 = .ok (.getfield 15, 3) := by decide +kernel
theorem dX2_become_13 : decode cX2_become 13 = .ok (.putfield 15, 3) := by decide +kernel
theorem dX2_become_16 : decode cX2_become 16 = .ok (.aload_n 0, 1) := by decide +kernel
theorem dX2_become_17 : decode cX2_become 17 = .ok (.aload_n 1, 1) := by decide +kernel
theorem dX2_become_18 : decode cX2_become 18 = .ok (.getfield 19, 3) := by decide +kernel
theorem dX2_become_21 : decode cX2_become 21 = .ok (.putfield 19, 3) := by decide +kernel
theorem dX2_become_24 : decode cX2_become 24 = .ok (.aload_n 0, 1) := by decide +kernel
theorem dX2_become_25 : decode cX2_become 25 = .ok (.aload_n 1, 1) := by decide +kernel
theorem dX2_become_26 : decode cX2_become 26 = .ok (.getfield 22, 3) := by decide +kernel
theorem dX2_become_29 : decode cX2_become 29 = .ok (.putfield 22, 3) := by decide +kernel
theorem dX2_become_32 : decode cX2_become 32 = .ok (.aload_n 0, 1) := by decide +kernel
theorem dX2_become_33 : decode cX2_become 33 = .ok (.aload_n 1, 1) := by decide +kernel
theorem dX2_become_34 : decode cX2_become 34 = .ok (.getfield 25, 3) := by decide +kernel
theorem dX2_become_37 : decode cX2_become 37 = .ok (.putfield 25, 3) := by decide +kernel
theorem dX2_become_40 : decode cX2_become 40 = .ok (.aload_n 0, 1) := by decide +kernel
theorem dX2_become_41 : decode cX2_become 41 = .ok (.aload_n 1, 1) := by decide +kernel
theorem dX2_become_42 : decode cX2_become 42 = .ok (.getfield 28, 3) := by decide +kernel
theorem dX2_become_45 : decode cX2_become 45 = .ok (.putfield 28, 3) := by decide +kernel
theorem dX2_become_48 : decode cX2_become 48 = .ok (.aload_n 0, 1) := by decide +kernel
theorem dX2_become_49 : decode cX2_become 49 = .ok (.aload_n 1, 1) := by decide +kernel
theorem dX2_become_50 : decode cX2_become 50 = .ok (.getfield 31, 3) := by decide +kernel
theorem dX2_become_53 : decode cX2_become 53 = .ok (.putfield 31, 3) := by decide +kernel
theorem dX2_become_56 : decode cX2_become 56 = .ok (.return_, 1) := by decide +kernel
theorem dX2_goThroughWash_0 : decode cX2_goThroughWash 0 = .ok (.aload_n 0, 1) := by decide +kernel
theorem dX2_goThroughWash_1 : decode cX2_goThroughWash 1 = .ok (.getfield 9, 3) := by decide +kernel
theorem dX2_goThroughWash_4 : decode cX2_goThroughWash 4 = .ok (.iload_n 1, 1) := by decide +kernel
theorem dX2_goThroughWash_5 : decode cX2_goThroughWash 5 = .ok (.iload_n 2, 1) := by decide +kernel
theorem dX2_goThroughWash_6 : decode cX2_goThroughWash 6 = .ok (.invokevirtual 34, 3) := by decide +kernel
theorem dX2_goThroughWash_9 : decode cX2_goThroughWash 9 = .ok (.istore_n 3, 1) := by decide +kernel
theorem dX2_goThroughWash_10 : decode cX2_goThroughWash 10 = .ok (.aload_n 0, 1) := by decide +kernel
theorem dX2_goThroughWash_11 : decode cX2_goThroughWash 11 = .ok (.bipush 10, 2) := by decide +kernel
theorem dX2_goThroughWash_13 : decode cX2_goThroughWash 13 = .ok (.aload_n 0, 1) := by decide +kernel
theorem dX2_goThroughWash_14 : decode cX2_goThroughWash 14 = .ok (.getfield 15, 3) := by decide +kernel
theorem dX2_goThroughWash_17 : decode cX2_goThroughWash 17 = .ok (.aload_n 0, 1) := by decide +kernel
theorem dX2_goThroughWash_18 : decode cX2_goThroughWash 18 = .ok (.getfield 15, 3) := by decide +kernel
theorem dX2_goThroughWash_21 : decode cX2_goThroughWash 21 = .ok (.iload_n 3, 1) := by decide +kernel
theorem dX2_goThroughWash_22 : decode cX2_goThroughWash 22 = .ok (.imul, 1) := by decide +kernel
theorem dX2_goThroughWash_23 : decode cX2_goThroughWash 23 = .ok (.bipush 100, 2) := by decide +kernel
theorem dX2_goThroughWash_25 : decode cX2_goThroughWash 25 = .ok (.idiv, 1) := by decide +kernel
theorem dX2_goThroughWash_26 : decode cX2_goThroughWash 26 = .ok (.isub, 1) := by decide +kernel
theorem dX2_goThroughWash_27 : decode cX2_goThroughWash 27 = .ok (.invokestatic 40, 3) := by decide +kernel
theorem dX2_goThroughWash_30 : decode cX2_goThroughWash 30 = .ok (.putfield 15, 3) := by decide +kernel
theorem dX2_goThroughWash_33 : decode cX2_goThroughWash 33 = .ok (.aload_n 0, 1) := by decide +kernel
theorem dX2_goThroughWash_34 : decode cX2_goThroughWash 34 = .ok (.bipush 10, 2) := by decide +kernel
theorem dX2_goThroughWash_36 : decode cX2_goThroughWash 36 = .ok (.aload_n 0, 1) := by decide +kernel
theorem dX2_goThroughWash_37 : decode cX2_goThroughWash 37 = .ok (.getfield 19, 3) := by decide +kernel
theorem dX2_goThroughWash_40 : decode cX2_goThroughWash 40 = .ok (.aload_n 0, 1) := by decide +kernel
theorem dX2_goThroughWash_41 : decode cX2_goThroughWash 41 = .ok (.getfield 19, 3) := by decide +kernel
theorem dX2_goThroughWash_44 : decode cX2_goThroughWash 44 = .ok (.iload_n 3, 1) := by decide +kernel
theorem dX2_goThroughWash_45 : decode cX2_goThroughWash 45 = .ok (.imul, 1) := by decide +kernel
theorem dX2_goThroughWash_46 : decode cX2_goThroughWash 46 = .ok (.bipush 100, 2) := by decide +kernel
theorem dX2_goThroughWash_48 : decode cX2_goThroughWash 48 = .ok (.idiv, 1) := by decide +kernel
theorem dX2_goThroughWash_49 : decode cX2_goThroughWash 49 = .ok (.isub, 1) := by decide +kernel
theorem dX2_goThroughWash_50 : decode cX2_goThroughWash 50 = .ok (.invokestatic 40, 3) := by decide +kernel
theorem dX2_goThroughWash_53 : decode cX2_goThroughWash 53 = .ok (.putfield 19, 3) := by decide +kernel
theorem dX2_goThroughWash_56 : decode cX2_goThroughWash 56 = .ok (.aload_n 0, 1) := by decide +kernel
theorem dX2_goThroughWash_57 : decode cX2_goThroughWash 57 = .ok (.bipush 99, 2) := by decide +kernel
theorem dX2_goThroughWash_59 : decode cX2_goThroughWash 59 = .ok (.aload_n 0, 1) := by decide +kernel
theorem dX2_goThroughWash_60 : decode cX2_goThroughWash 60 = .ok (.getfield 22, 3) := by decide +kernel
theorem dX2_goThroughWash_63 : decode cX2_goThroughWash 63 = .ok (.aload_n 0, 1) := by decide +kernel
theorem dX2_goThroughWash_64 : decode cX2_goThroughWash 64 = .ok (.getfield 9, 3) := by decide +kernel
theorem dX2_goThroughWash_67 : decode cX2_goThroughWash 67 = .ok (.iload_n 3, 1) := by decide +kernel
theorem dX2_goThroughWash_68 : decode cX2_goThroughWash 68 = .ok (.invokevirtual 45, 3) := by decide +kernel
theorem dX2_goThroughWash_71 : decode cX2_goThroughWash 71 = .ok (.iadd, 1) := by decide +kernel
theorem dX2_goThroughWash_72 : decode cX2_goThroughWash 72 = .ok (.invokestatic 49, 3) := by decide +kernel
theorem dX2_goThroughWash_75 : decode cX2_goThroughWash 75 = .ok (.putfield 22, 3) := by decide +kernel
theorem dX2_goThroughWash_78 : decode cX2_goThroughWash 78 = .ok (.aload_n 0, 1) := by decide +kernel
theorem dX2_goThroughWash_79 : decode cX2_goThroughWash 79 = .ok (.iconst 3, 1) := by decide +kernel
theorem dX2_goThroughWash_80 : decode cX2_goThroughWash 80 = .ok (.putfield 25, 3) := by decide +kernel
theorem dX2_goThroughWash_83 : decode cX2_goThroughWash 83 = .ok (.aload_n 0, 1) := by decide +kernel
theorem dX2_goThroughWash_84 : decode cX2_goThroughWash 84 = .ok (.iconst 0, 1) := by decide +kernel
theorem dX2_goThroughWash_85 : decode cX2_goThroughWash 85 = .ok (.putfield 28, 3) := by decide +kernel
theorem dX2_goThroughWash_88 : decode cX2_goThroughWash 88 = .ok (.return_, 1) := by decide +kernel
theorem dX2_goThroughWashes_0 : decode cX2_goThroughWashes 0 = .ok (.iconst 0, 1) := by decide +kernel
theorem dX2_goThroughWashes_1 : decode cX2_goThroughWashes 1 = .ok (.istore 4, 2) := by decide +kernel
theorem dX2_goThroughWashes_3 : decode cX2_goThroughWashes 3 = .ok (.iload 4, 2) := by decide +kernel
theorem dX2_goThroughWashes_5 : decode cX2_goThroughWashes 5 = .ok (.iload_n 1, 1) := by decide +kernel
theorem dX2_goThroughWashes_6 : decode cX2_goThroughWashes 6 = .ok (.if_icmp .ge 15, 3) := by decide +kernel
theorem dX2_goThroughWashes_9 : decode cX2_goThroughWashes 9 = .ok (.aload_n 0, 1) := by decide +kernel
theorem dX2_goThroughWashes_10 : decode cX2_goThroughWashes 10 = .ok (.iload_n 2, 1) := by decide +kernel
theorem dX2_goThroughWashes_11 : decode cX2_goThroughWashes 11 = .ok (.iload_n 3, 1) := by decide +kernel
theorem dX2_goThroughWashes_12 : decode cX2_goThroughWashes 12 = .ok (.invokevirtual 52, 3) := by decide +kernel
theorem dX2_goThroughWashes_15 : decode cX2_goThroughWashes 15 = .ok (.iinc 4 1, 3) := by decide +kernel
theorem dX2_goThroughWashes_18 : decode cX2_goThroughWashes 18 = .ok (.goto (-15), 3) := by decide +kernel
theorem dX2_goThroughWashes_21 : decode cX2_goThroughWashes 21 = .ok (.return_, 1) := by decide +kernel
theorem dX2_stretch_0 : decode cX2_stretch 0 = .ok (.aload_n 0, 1) := by decide +kernel
theorem dX2_stretch_1 : decode cX2_stretch 1 = .ok (.sipush 200, 3) := by decide +kernel
theorem dX2_stretch_4 : decode cX2_stretch 4 = .ok (.aload_n 0, 1) := by decide +kernel
theorem dX2_stretch_5 : decode cX2_stretch 5 = .ok (.getfield 15, 3) := by decide +kernel
theorem dX2_stretch_8 : decode cX2_stretch 8 = .ok (.iload_n 1, 1) := by decide +kernel
theorem dX2_stretch_9 : decode cX2_stretch 9 = .ok (.iadd, 1) := by decide +kernel
theorem dX2_stretch_10 : decode cX2_stretch 10 = .ok (.invokestatic 49, 3) := by decide +kernel
theorem dX2_stretch_13 : decode cX2_stretch 13 = .ok (.putfield 15, 3) := by decide +kernel
theorem dX2_stretch_16 : decode cX2_stretch 16 = .ok (.aload_n 0, 1) := by decide +kernel
theorem dX2_stretch_17 : decode cX2_stretch 17 = .ok (.bipush 10, 2) := by decide +kernel
theorem dX2_stretch_19 : decode cX2_stretch 19 = .ok (.aload_n 0, 1) := by decide +kernel
theorem dX2_stretch_20 : decode cX2_stretch 20 = .ok (.getfield 19, 3) := by decide +kernel
theorem dX2_stretch_23 : decode cX2_stretch 23 = .ok (.iload_n 1, 1) := by decide +kernel
theorem dX2_stretch_24 : decode cX2_stretch 24 = .ok (.iconst 2, 1) := by decide +kernel
theorem dX2_stretch_25 : decode cX2_stretch 25 = .ok (.idiv, 1) := by decide +kernel
theorem dX2_stretch_26 : decode cX2_stretch 26 = .ok (.isub, 1) := by decide +kernel
theorem dX2_stretch_27 : decode cX2_stretch 27 = .ok (.invokestatic 40, 3) := by decide +kernel
theorem dX2_stretch_30 : decode cX2_stretch 30 = .ok (.putfield 19, 3) := by decide +kernel
theorem dX2_stretch_33 : decode cX2_stretch 33 = .ok (.aload_n 0, 1) := by decide +kernel
theorem dX2_stretch_34 : decode cX2_stretch 34 = .ok (.dup, 1) := by decide +kernel
theorem dX2_stretch_35 : decode cX2_stretch 35 = .ok (.getfield 28, 3) := by decide +kernel
theorem dX2_stretch_38 : decode cX2_stretch 38 = .ok (.iload_n 1, 1) := by decide +kernel
theorem dX2_stretch_39 : decode cX2_stretch 39 = .ok (.iadd, 1) := by decide +kernel
theorem dX2_stretch_40 : decode cX2_stretch 40 = .ok (.putfield 28, 3) := by decide +kernel
theorem dX2_stretch_43 : decode cX2_stretch 43 = .ok (.aload_n 0, 1) := by decide +kernel
theorem dX2_stretch_44 : decode cX2_stretch 44 = .ok (.getfield 28, 3) := by decide +kernel
theorem dX2_stretch_47 : decode cX2_stretch 47 = .ok (.aload_n 0, 1) := by decide +kernel
theorem dX2_stretch_48 : decode cX2_stretch 48 = .ok (.getfield 9, 3) := by decide +kernel
theorem dX2_stretch_51 : decode cX2_stretch 51 = .ok (.aload_n 0, 1) := by decide +kernel
theorem dX2_stretch_52 : decode cX2_stretch 52 = .ok (.getfield 22, 3) := by decide +kernel
theorem dX2_stretch_55 : decode cX2_stretch 55 = .ok (.aload_n 0, 1) := by decide +kernel
theorem dX2_stretch_56 : decode cX2_stretch 56 = .ok (.getfield 31, 3) := by decide +kernel
theorem dX2_stretch_59 : decode cX2_stretch 59 = .ok (.invokevirtual 56, 3) := by decide +kernel
theorem dX2_stretch_62 : decode cX2_stretch 62 = .ok (.if_icmp .le 19, 3) := by decide +kernel
theorem dX2_stretch_65 : decode cX2_stretch 65 = .ok (.aload_n 0, 1) := by decide +kernel
theorem dX2_stretch_66 : decode cX2_stretch 66 = .ok (.sipush 9999, 3) := by decide +kernel
theorem dX2_stretch_69 : decode cX2_stretch 69 = .ok (.aload_n 0, 1) := by decide +kernel
theorem dX2_stretch_70 : decode cX2_stretch 70 = .ok (.getfield 31, 3) := by decide +kernel
theorem dX2_stretch_73 : decode cX2_stretch 73 = .ok (.iconst 1, 1) := by decide +kernel
theorem dX2_stretch_74 : decode cX2_stretch 74 = .ok (.iadd, 1) := by decide +kernel
theorem dX2_stretch_75 : decode cX2_stretch 75 = .ok (.invokestatic 49, 3) := by decide +kernel
theorem dX2_stretch_78 : decode cX2_stretch 78 = .ok (.putfield 31, 3) := by decide +kernel
theorem dX2_stretch_81 : decode cX2_stretch 81 = .ok (.return_, 1) := by decide +kernel
theorem dX2_dryFor_0 : decode cX2_dryFor 0 = .ok (.iconst 0, 1) := by decide +kernel
theorem dX2_dryFor_1 : decode cX2_dryFor 1 = .ok (.istore_n 2, 1) := by decide +kernel
theorem dX2_dryFor_2 : decode cX2_dryFor 2 = .ok (.iload_n 2, 1) := by decide +kernel
theorem dX2_dryFor_3 : decode cX2_dryFor 3 = .ok (.iload_n 1, 1) := by decide +kernel
theorem dX2_dryFor_4 : decode cX2_dryFor 4 = .ok (.if_icmp .ge 13, 3) := by decide +kernel
theorem dX2_dryFor_7 : decode cX2_dryFor 7 = .ok (.aload_n 0, 1) := by decide +kernel
theorem dX2_dryFor_8 : decode cX2_dryFor 8 = .ok (.invokevirtual 59, 3) := by decide +kernel
theorem dX2_dryFor_11 : decode cX2_dryFor 11 = .ok (.iinc 2 1, 3) := by decide +kernel
theorem dX2_dryFor_14 : decode cX2_dryFor 14 = .ok (.goto (-12), 3) := by decide +kernel
theorem dX2_dryFor_17 : decode cX2_dryFor 17 = .ok (.return_, 1) := by decide +kernel
theorem dX2_dryOneDay_0 : decode cX2_dryOneDay 0 = .ok (.aload_n 0, 1) := by decide +kernel
theorem dX2_dryOneDay_1 : decode cX2_dryOneDay 1 = .ok (.getfield 25, 3) := by decide +kernel
theorem dX2_dryOneDay_4 : decode cX2_dryOneDay 4 = .ok (.ifCond .ne 4, 3) := by decide +kernel
theorem dX2_dryOneDay_7 : decode cX2_dryOneDay 7 = .ok (.return_, 1) := by decide +kernel
theorem dX2_dryOneDay_8 : decode cX2_dryOneDay 8 = .ok (.aload_n 0, 1) := by decide +kernel
theorem dX2_dryOneDay_9 : decode cX2_dryOneDay 9 = .ok (.dup, 1) := by decide +kernel
theorem dX2_dryOneDay_10 : decode cX2_dryOneDay 10 = .ok (.getfield 25, 3) := by decide +kernel
theorem dX2_dryOneDay_13 : decode cX2_dryOneDay 13 = .ok (.iconst 1, 1) := by decide +kernel
theorem dX2_dryOneDay_14 : decode cX2_dryOneDay 14 = .ok (.isub, 1) := by decide +kernel
theorem dX2_dryOneDay_15 : decode cX2_dryOneDay 15 = .ok (.putfield 25, 3) := by decide +kernel
theorem dX2_dryOneDay_18 : decode cX2_dryOneDay 18 = .ok (.aload_n 0, 1) := by decide +kernel
theorem dX2_dryOneDay_19 : decode cX2_dryOneDay 19 = .ok (.getfield 25, 3) := by decide +kernel
theorem dX2_dryOneDay_22 : decode cX2_dryOneDay 22 = .ok (.ifCond .ne 40, 3) := by decide +kernel
theorem dX2_dryOneDay_25 : decode cX2_dryOneDay 25 = .ok (.aload_n 0, 1) := by decide +kernel
theorem dX2_dryOneDay_26 : decode cX2_dryOneDay 26 = .ok (.bipush 10, 2) := by decide +kernel
theorem dX2_dryOneDay_28 : decode cX2_dryOneDay 28 = .ok (.aload_n 0, 1) := by decide +kernel
theorem dX2_dryOneDay_29 : decode cX2_dryOneDay 29 = .ok (.getfield 15, 3) := by decide +kernel
theorem dX2_dryOneDay_32 : decode cX2_dryOneDay 32 = .ok (.aload_n 0, 1) := by decide +kernel
theorem dX2_dryOneDay_33 : decode cX2_dryOneDay 33 = .ok (.getfield 28, 3) := by decide +kernel
theorem dX2_dryOneDay_36 : decode cX2_dryOneDay 36 = .ok (.bipush 100, 2) := by decide +kernel
theorem dX2_dryOneDay_38 : decode cX2_dryOneDay 38 = .ok (.aload_n 0, 1) := by decide +kernel
theorem dX2_dryOneDay_39 : decode cX2_dryOneDay 39 = .ok (.getfield 9, 3) := by decide +kernel
theorem dX2_dryOneDay_42 : decode cX2_dryOneDay 42 = .ok (.invokevirtual 62, 3) := by decide +kernel
theorem dX2_dryOneDay_45 : decode cX2_dryOneDay 45 = .ok (.isub, 1) := by decide +kernel
theorem dX2_dryOneDay_46 : decode cX2_dryOneDay 46 = .ok (.imul, 1) := by decide +kernel
theorem dX2_dryOneDay_47 : decode cX2_dryOneDay 47 = .ok (.bipush 100, 2) := by decide +kernel
theorem dX2_dryOneDay_49 : decode cX2_dryOneDay 49 = .ok (.idiv, 1) := by decide +kernel
theorem dX2_dryOneDay_50 : decode cX2_dryOneDay 50 = .ok (.isub, 1) := by decide +kernel
theorem dX2_dryOneDay_51 : decode cX2_dryOneDay 51 = .ok (.invokestatic 40, 3) := by decide +kernel
theorem dX2_dryOneDay_54 : decode cX2_dryOneDay 54 = .ok (.putfield 15, 3) := by decide +kernel
theorem dX2_dryOneDay_57 : decode cX2_dryOneDay 57 = .ok (.aload_n 0, 1) := by decide +kernel
theorem dX2_dryOneDay_58 : decode cX2_dryOneDay 58 = .ok (.iconst 0, 1) := by decide +kernel
theorem dX2_dryOneDay_59 : decode cX2_dryOneDay 59 = .ok (.putfield 28, 3) := by decide +kernel
theorem dX2_dryOneDay_62 : decode cX2_dryOneDay 62 = .ok (.return_, 1) := by decide +kernel
theorem dX2_suits_0 : decode cX2_suits 0 = .ok (.aload_n 0, 1) := by decide +kernel
theorem dX2_suits_1 : decode cX2_suits 1 = .ok (.getfield 25, 3) := by decide +kernel
theorem dX2_suits_4 : decode cX2_suits 4 = .ok (.ifCond .ne 56, 3) := by decide +kernel
theorem dX2_suits_7 : decode cX2_suits 7 = .ok (.aload_n 0, 1) := by decide +kernel
theorem dX2_suits_8 : decode cX2_suits 8 = .ok (.getfield 31, 3) := by decide +kernel
theorem dX2_suits_11 : decode cX2_suits 11 = .ok (.ifCond .ne 49, 3) := by decide +kernel
theorem dX2_suits_14 : decode cX2_suits 14 = .ok (.aload_n 0, 1) := by decide +kernel
theorem dX2_suits_15 : decode cX2_suits 15 = .ok (.getfield 15, 3) := by decide +kernel
theorem dX2_suits_18 : decode cX2_suits 18 = .ok (.aload_n 1, 1) := by decide +kernel
theorem dX2_suits_19 : decode cX2_suits 19 = .ok (.getfield 66, 3) := by decide +kernel
theorem dX2_suits_22 : decode cX2_suits 22 = .ok (.aload_n 1, 1) := by decide +kernel
theorem dX2_suits_23 : decode cX2_suits 23 = .ok (.getfield 66, 3) := by decide +kernel
theorem dX2_suits_26 : decode cX2_suits 26 = .ok (.bipush 10, 2) := by decide +kernel
theorem dX2_suits_28 : decode cX2_suits 28 = .ok (.iadd, 1) := by decide +kernel
theorem dX2_suits_29 : decode cX2_suits 29 = .ok (.invokestatic 69, 3) := by decide +kernel
theorem dX2_suits_32 : decode cX2_suits 32 = .ok (.ifCond .eq 28, 3) := by decide +kernel
theorem dX2_suits_35 : decode cX2_suits 35 = .ok (.aload_n 0, 1) := by decide +kernel
theorem dX2_suits_36 : decode cX2_suits 36 = .ok (.getfield 19, 3) := by decide +kernel
theorem dX2_suits_39 : decode cX2_suits 39 = .ok (.aload_n 1, 1) := by decide +kernel
theorem dX2_suits_40 : decode cX2_suits 40 = .ok (.getfield 73, 3) := by decide +kernel
theorem dX2_suits_43 : decode cX2_suits 43 = .ok (.aload_n 1, 1) := by decide +kernel
theorem dX2_suits_44 : decode cX2_suits 44 = .ok (.getfield 73, 3) := by decide +kernel
theorem dX2_suits_47 : decode cX2_suits 47 = .ok (.bipush 15, 2) := by decide +kernel
theorem dX2_suits_49 : decode cX2_suits 49 = .ok (.iadd, 1) := by decide +kernel
theorem dX2_suits_50 : decode cX2_suits 50 = .ok (.invokestatic 69, 3) := by decide +kernel
theorem dX2_suits_53 : decode cX2_suits 53 = .ok (.ifCond .eq 7, 3) := by decide +kernel
theorem dX2_suits_56 : decode cX2_suits 56 = .ok (.iconst 1, 1) := by decide +kernel
theorem dX2_suits_57 : decode cX2_suits 57 = .ok (.goto 4, 3) := by decide +kernel
theorem dX2_suits_60 : decode cX2_suits 60 = .ok (.iconst 0, 1) := by decide +kernel
theorem dX2_suits_61 : decode cX2_suits 61 = .ok (.ireturn, 1) := by decide +kernel
theorem dX3_init_0 : decode cX3_init 0 = .ok (.aload_n 0, 1) := by decide +kernel
theorem dX3_init_1 : decode cX3_init 1 = .ok (.iload_n 1, 1) := by decide +kernel
theorem dX3_init_2 : decode cX3_init 2 = .ok (.aload_n 2, 1) := by decide +kernel
theorem dX3_init_3 : decode cX3_init 3 = .ok (.invokespecial 1, 3) := by decide +kernel
theorem dX3_init_6 : decode cX3_init 6 = .ok (.return_, 1) := by decide +kernel
theorem dX3_shrinks_0 : decode cX3_shrinks 0 = .ok (.aload_n 0, 1) := by decide +kernel
theorem dX3_shrinks_1 : decode cX3_shrinks 1 = .ok (.iload_n 1, 1) := by decide +kernel
theorem dX3_shrinks_2 : decode cX3_shrinks 2 = .ok (.iload_n 2, 1) := by decide +kernel
theorem dX3_shrinks_3 : decode cX3_shrinks 3 = .ok (.invokespecial 7, 3) := by decide +kernel
theorem dX3_shrinks_6 : decode cX3_shrinks 6 = .ok (.istore_n 3, 1) := by decide +kernel
theorem dX3_shrinks_7 : decode cX3_shrinks 7 = .ok (.iload_n 2, 1) := by decide +kernel
theorem dX3_shrinks_8 : decode cX3_shrinks 8 = .ok (.iconst 1, 1) := by decide +kernel
theorem dX3_shrinks_9 : decode cX3_shrinks 9 = .ok (.if_icmp .ne 9, 3) := by decide +kernel
theorem dX3_shrinks_12 : decode cX3_shrinks 12 = .ok (.iload_n 3, 1) := by decide +kernel
theorem dX3_shrinks_13 : decode cX3_shrinks 13 = .ok (.iload_n 3, 1) := by decide +kernel
theorem dX3_shrinks_14 : decode cX3_shrinks 14 = .ok (.iadd, 1) := by decide +kernel
theorem dX3_shrinks_15 : decode cX3_shrinks 15 = .ok (.goto 4, 3) := by decide +kernel
theorem dX3_shrinks_18 : decode cX3_shrinks 18 = .ok (.iload_n 3, 1) := by decide +kernel
theorem dX3_shrinks_19 : decode cX3_shrinks 19 = .ok (.ireturn, 1) := by decide +kernel
theorem dX3_felts_0 : decode cX3_felts 0 = .ok (.aload_n 0, 1) := by decide +kernel
theorem dX3_felts_1 : decode cX3_felts 1 = .ok (.iload_n 1, 1) := by decide +kernel
theorem dX3_felts_2 : decode cX3_felts 2 = .ok (.invokespecial 11, 3) := by decide +kernel
theorem dX3_felts_5 : decode cX3_felts 5 = .ok (.iload_n 1, 1) := by decide +kernel
theorem dX3_felts_6 : decode cX3_felts 6 = .ok (.ifCond .le 7, 3) := by decide +kernel
theorem dX3_felts_9 : decode cX3_felts 9 = .ok (.iconst 1, 1) := by decide +kernel
theorem dX3_felts_10 : decode cX3_felts 10 = .ok (.goto 4, 3) := by decide +kernel
theorem dX3_felts_13 : decode cX3_felts 13 = .ok (.iconst 0, 1) := by decide +kernel
theorem dX3_felts_14 : decode cX3_felts 14 = .ok (.iadd, 1) := by decide +kernel
theorem dX3_felts_15 : decode cX3_felts 15 = .ok (.ireturn, 1) := by decide +kernel
theorem dX3_bears_0 : decode cX3_bears 0 = .ok (.iconst 2, 1) := by decide +kernel
theorem dX3_bears_1 : decode cX3_bears 1 = .ok (.aload_n 0, 1) := by decide +kernel
theorem dX3_bears_2 : decode cX3_bears 2 = .ok (.iload_n 1, 1) := by decide +kernel
theorem dX3_bears_3 : decode cX3_bears 3 = .ok (.iload_n 2, 1) := by decide +kernel
theorem dX3_bears_4 : decode cX3_bears 4 = .ok (.invokespecial 15, 3) := by decide +kernel
theorem dX3_bears_7 : decode cX3_bears 7 = .ok (.imul, 1) := by decide +kernel
theorem dX3_bears_8 : decode cX3_bears 8 = .ok (.ireturn, 1) := by decide +kernel
theorem dX3_keeps_0 : decode cX3_keeps 0 = .ok (.aload_n 0, 1) := by decide +kernel
theorem dX3_keeps_1 : decode cX3_keeps 1 = .ok (.invokespecial 18, 3) := by decide +kernel
theorem dX3_keeps_4 : decode cX3_keeps 4 = .ok (.bipush 10, 2) := by decide +kernel
theorem dX3_keeps_6 : decode cX3_keeps 6 = .ok (.isub, 1) := by decide +kernel
theorem dX3_keeps_7 : decode cX3_keeps 7 = .ok (.ireturn, 1) := by decide +kernel
theorem dX4_init_0 : decode cX4_init 0 = .ok (.aload_n 0, 1) := by decide +kernel
theorem dX4_init_1 : decode cX4_init 1 = .ok (.invokespecial 3, 3) := by decide +kernel
theorem dX4_init_4 : decode cX4_init 4 = .ok (.aload_n 0, 1) := by decide +kernel
theorem dX4_init_5 : decode cX4_init 5 = .ok (.iload_n 1, 1) := by decide +kernel
theorem dX4_init_6 : decode cX4_init 6 = .ok (.putfield 9, 3) := by decide +kernel
theorem dX4_init_9 : decode cX4_init 9 = .ok (.aload_n 0, 1) := by decide +kernel
theorem dX4_init_10 : decode cX4_init 10 = .ok (.aload_n 2, 1) := by decide +kernel
theorem dX4_init_11 : decode cX4_init 11 = .ok (.putfield 15, 3) := by decide +kernel
theorem dX4_init_14 : decode cX4_init 14 = .ok (.return_, 1) := by decide +kernel
theorem dX4_inOrder_0 : decode cX4_inOrder 0 = .ok (.new 10, 3) := by decide +kernel
theorem dX4_inOrder_3 : decode cX4_inOrder 3 = .ok (.dup, 1) := by decide +kernel
theorem dX4_inOrder_4 : decode cX4_inOrder 4 = .ok (.iconst 0, 1) := by decide +kernel
theorem dX4_inOrder_5 : decode cX4_inOrder 5 = .ok (.aconst_null, 1) := by decide +kernel
theorem dX4_inOrder_6 : decode cX4_inOrder 6 = .ok (.invokespecial 19, 3) := by decide +kernel
theorem dX4_inOrder_9 : decode cX4_inOrder 9 = .ok (.astore_n 0, 1) := by decide +kernel
theorem dX4_inOrder_10 : decode cX4_inOrder 10 = .ok (.new 22, 3) := by decide +kernel
theorem dX4_inOrder_13 : decode cX4_inOrder 13 = .ok (.dup, 1) := by decide +kernel
theorem dX4_inOrder_14 : decode cX4_inOrder 14 = .ok (.iconst 1, 1) := by decide +kernel
theorem dX4_inOrder_15 : decode cX4_inOrder 15 = .ok (.aload_n 0, 1) := by decide +kernel
theorem dX4_inOrder_16 : decode cX4_inOrder 16 = .ok (.invokespecial 24, 3) := by decide +kernel
theorem dX4_inOrder_19 : decode cX4_inOrder 19 = .ok (.astore_n 1, 1) := by decide +kernel
theorem dX4_inOrder_20 : decode cX4_inOrder 20 = .ok (.new 25, 3) := by decide +kernel
theorem dX4_inOrder_23 : decode cX4_inOrder 23 = .ok (.dup, 1) := by decide +kernel
theorem dX4_inOrder_24 : decode cX4_inOrder 24 = .ok (.iconst 2, 1) := by decide +kernel
theorem dX4_inOrder_25 : decode cX4_inOrder 25 = .ok (.aload_n 0, 1) := by decide +kernel
theorem dX4_inOrder_26 : decode cX4_inOrder 26 = .ok (.invokespecial 27, 3) := by decide +kernel
theorem dX4_inOrder_29 : decode cX4_inOrder 29 = .ok (.astore_n 2, 1) := by decide +kernel
theorem dX4_inOrder_30 : decode cX4_inOrder 30 = .ok (.new 28, 3) := by decide +kernel
theorem dX4_inOrder_33 : decode cX4_inOrder 33 = .ok (.dup, 1) := by decide +kernel
theorem dX4_inOrder_34 : decode cX4_inOrder 34 = .ok (.iconst 3, 1) := by decide +kernel
theorem dX4_inOrder_35 : decode cX4_inOrder 35 = .ok (.aload_n 0, 1) := by decide +kernel
theorem dX4_inOrder_36 : decode cX4_inOrder 36 = .ok (.invokespecial 30, 3) := by decide +kernel
theorem dX4_inOrder_39 : decode cX4_inOrder 39 = .ok (.astore_n 3, 1) := by decide +kernel
theorem dX4_inOrder_40 : decode cX4_inOrder 40 = .ok (.bipush 6, 2) := by decide +kernel
theorem dX4_inOrder_42 : decode cX4_inOrder 42 = .ok (.anewarray 10, 3) := by decide +kernel
theorem dX4_inOrder_45 : decode cX4_inOrder 45 = .ok (.astore 4, 2) := by decide +kernel
theorem dX4_inOrder_47 : decode cX4_inOrder 47 = .ok (.aload 4, 2) := by decide +kernel
theorem dX4_inOrder_49 : decode cX4_inOrder 49 = .ok (.iconst 0, 1) := by decide +kernel
theorem dX4_inOrder_50 : decode cX4_inOrder 50 = .ok (.aload_n 0, 1) := by decide +kernel
theorem dX4_inOrder_51 : decode cX4_inOrder 51 = .ok (.aastore, 1) := by decide +kernel
theorem dX4_inOrder_52 : decode cX4_inOrder 52 = .ok (.aload 4, 2) := by decide +kernel
theorem dX4_inOrder_54 : decode cX4_inOrder 54 = .ok (.iconst 1, 1) := by decide +kernel
theorem dX4_inOrder_55 : decode cX4_inOrder 55 = .ok (.aload_n 1, 1) := by decide +kernel
theorem dX4_inOrder_56 : decode cX4_inOrder 56 = .ok (.aastore, 1) := by decide +kernel
theorem dX4_inOrder_57 : decode cX4_inOrder 57 = .ok (.aload 4, 2) := by decide +kernel
theorem dX4_inOrder_59 : decode cX4_inOrder 59 = .ok (.iconst 2, 1) := by decide +kernel
theorem dX4_inOrder_60 : decode cX4_inOrder 60 = .ok (.aload_n 2, 1) := by decide +kernel
theorem dX4_inOrder_61 : decode cX4_inOrder 61 = .ok (.aastore, 1) := by decide +kernel
theorem dX4_inOrder_62 : decode cX4_inOrder 62 = .ok (.aload 4, 2) := by decide +kernel
theorem dX4_inOrder_64 : decode cX4_inOrder 64 = .ok (.iconst 3, 1) := by decide +kernel
theorem dX4_inOrder_65 : decode cX4_inOrder 65 = .ok (.aload_n 3, 1) := by decide +kernel
theorem dX4_inOrder_66 : decode cX4_inOrder 66 = .ok (.aastore, 1) := by decide +kernel
theorem dX4_inOrder_67 : decode cX4_inOrder 67 = .ok (.aload 4, 2) := by decide +kernel
theorem dX4_inOrder_69 : decode cX4_inOrder 69 = .ok (.iconst 4, 1) := by decide +kernel
theorem dX4_inOrder_70 : decode cX4_inOrder 70 = .ok (.new 31, 3) := by decide +kernel
theorem dX4_inOrder_73 : decode cX4_inOrder 73 = .ok (.dup, 1) := by decide +kernel
theorem dX4_inOrder_74 : decode cX4_inOrder 74 = .ok (.iconst 4, 1) := by decide +kernel
theorem dX4_inOrder_75 : decode cX4_inOrder 75 = .ok (.aload_n 1, 1) := by decide +kernel
theorem dX4_inOrder_76 : decode cX4_inOrder 76 = .ok (.invokespecial 33, 3) := by decide +kernel
theorem dX4_inOrder_79 : decode cX4_inOrder 79 = .ok (.aastore, 1) := by decide +kernel
theorem dX4_inOrder_80 : decode cX4_inOrder 80 = .ok (.aload 4, 2) := by decide +kernel
theorem dX4_inOrder_82 : decode cX4_inOrder 82 = .ok (.iconst 5, 1) := by decide +kernel
theorem dX4_inOrder_83 : decode cX4_inOrder 83 = .ok (.new 34, 3) := by decide +kernel
theorem dX4_inOrder_86 : decode cX4_inOrder 86 = .ok (.dup, 1) := by decide +kernel
theorem dX4_inOrder_87 : decode cX4_inOrder 87 = .ok (.iconst 5, 1) := by decide +kernel
theorem dX4_inOrder_88 : decode cX4_inOrder 88 = .ok (.aload_n 2, 1) := by decide +kernel
theorem dX4_inOrder_89 : decode cX4_inOrder 89 = .ok (.invokespecial 36, 3) := by decide +kernel
theorem dX4_inOrder_92 : decode cX4_inOrder 92 = .ok (.aastore, 1) := by decide +kernel
theorem dX4_inOrder_93 : decode cX4_inOrder 93 = .ok (.aload 4, 2) := by decide +kernel
theorem dX4_inOrder_95 : decode cX4_inOrder 95 = .ok (.areturn, 1) := by decide +kernel
theorem dX4_isOrIsUnder_0 : decode cX4_isOrIsUnder 0 = .ok (.aload_n 0, 1) := by decide +kernel
theorem dX4_isOrIsUnder_1 : decode cX4_isOrIsUnder 1 = .ok (.astore_n 2, 1) := by decide +kernel
theorem dX4_isOrIsUnder_2 : decode cX4_isOrIsUnder 2 = .ok (.aload_n 2, 1) := by decide +kernel
theorem dX4_isOrIsUnder_3 : decode cX4_isOrIsUnder 3 = .ok (.ifnull 21, 3) := by decide +kernel
theorem dX4_isOrIsUnder_6 : decode cX4_isOrIsUnder 6 = .ok (.aload_n 2, 1) := by decide +kernel
theorem dX4_isOrIsUnder_7 : decode cX4_isOrIsUnder 7 = .ok (.getfield 9, 3) := by decide +kernel
theorem dX4_isOrIsUnder_10 : decode cX4_isOrIsUnder 10 = .ok (.iload_n 1, 1) := by decide +kernel
theorem dX4_isOrIsUnder_11 : decode cX4_isOrIsUnder 11 = .ok (.if_icmp .ne 5, 3) := by decide +kernel
theorem dX4_isOrIsUnder_14 : decode cX4_isOrIsUnder 14 = .ok (.iconst 1, 1) := by decide +kernel
theorem dX4_isOrIsUnder_15 : decode cX4_isOrIsUnder 15 = .ok (.ireturn, 1) := by decide +kernel
theorem dX4_isOrIsUnder_16 : decode cX4_isOrIsUnder 16 = .ok (.aload_n 2, 1) := by decide +kernel
theorem dX4_isOrIsUnder_17 : decode cX4_isOrIsUnder 17 = .ok (.getfield 15, 3) := by decide +kernel
theorem dX4_isOrIsUnder_20 : decode cX4_isOrIsUnder 20 = .ok (.astore_n 2, 1) := by decide +kernel
theorem dX4_isOrIsUnder_21 : decode cX4_isOrIsUnder 21 = .ok (.goto (-19), 3) := by decide +kernel
theorem dX4_isOrIsUnder_24 : decode cX4_isOrIsUnder 24 = .ok (.iconst 0, 1) := by decide +kernel
theorem dX4_isOrIsUnder_25 : decode cX4_isOrIsUnder 25 = .ok (.ireturn, 1) := by decide +kernel
theorem dX4_shrinks_0 : decode cX4_shrinks 0 = .ok (.iconst 0, 1) := by decide +kernel
theorem dX4_shrinks_1 : decode cX4_shrinks 1 = .ok (.ireturn, 1) := by decide +kernel
theorem dX4_felts_0 : decode cX4_felts 0 = .ok (.iconst 0, 1) := by decide +kernel
theorem dX4_felts_1 : decode cX4_felts 1 = .ok (.ireturn, 1) := by decide +kernel
theorem dX4_bears_0 : decode cX4_bears 0 = .ok (.bipush 10, 2) := by decide +kernel
theorem dX4_bears_2 : decode cX4_bears 2 = .ok (.ireturn, 1) := by decide +kernel
theorem dX4_keeps_0 : decode cX4_keeps 0 = .ok (.bipush 50, 2) := by decide +kernel
theorem dX4_keeps_2 : decode cX4_keeps 2 = .ok (.ireturn, 1) := by decide +kernel
theorem dX5_init_0 : decode cX5_init 0 = .ok (.aload_n 0, 1) := by decide +kernel
theorem dX5_init_1 : decode cX5_init 1 = .ok (.invokespecial 1, 3) := by decide +kernel
theorem dX5_init_4 : decode cX5_init 4 = .ok (.return_, 1) := by decide +kernel
theorem dX6_init_0 : decode cX6_init 0 = .ok (.aload_n 0, 1) := by decide +kernel
theorem dX6_init_1 : decode cX6_init 1 = .ok (.invokespecial 3, 3) := by decide +kernel
theorem dX6_init_4 : decode cX6_init 4 = .ok (.aload_n 0, 1) := by decide +kernel
theorem dX6_init_5 : decode cX6_init 5 = .ok (.bipush 40, 2) := by decide +kernel
theorem dX6_init_7 : decode cX6_init 7 = .ok (.newarray .long, 2) := by decide +kernel
theorem dX6_init_9 : decode cX6_init 9 = .ok (.putfield 9, 3) := by decide +kernel
theorem dX6_init_12 : decode cX6_init 12 = .ok (.return_, 1) := by decide +kernel
theorem dX6_beginAnew_0 : decode cX6_beginAnew 0 = .ok (.aload_n 0, 1) := by decide +kernel
theorem dX6_beginAnew_1 : decode cX6_beginAnew 1 = .ok (.iload_n 1, 1) := by decide +kernel
theorem dX6_beginAnew_2 : decode cX6_beginAnew 2 = .ok (.putfield 15, 3) := by decide +kernel
theorem dX6_beginAnew_5 : decode cX6_beginAnew 5 = .ok (.aload_n 0, 1) := by decide +kernel
theorem dX6_beginAnew_6 : decode cX6_beginAnew 6 = .ok (.iload_n 1, 1) := by decide +kernel
theorem dX6_beginAnew_7 : decode cX6_beginAnew 7 = .ok (.ifCond .ne 7, 3) := by decide +kernel
theorem dX6_beginAnew_10 : decode cX6_beginAnew 10 = .ok (.iconst 0, 1) := by decide +kernel
theorem dX6_beginAnew_11 : decode cX6_beginAnew 11 = .ok (.goto 4, 3) := by decide +kernel
theorem dX6_beginAnew_14 : decode cX6_beginAnew 14 = .ok (.iload_n 2, 1) := by decide +kernel
theorem dX6_beginAnew_15 : decode cX6_beginAnew 15 = .ok (.putfield 19, 3) := by decide +kernel
theorem dX6_beginAnew_18 : decode cX6_beginAnew 18 = .ok (.iconst 0, 1) := by decide +kernel
theorem dX6_beginAnew_19 : decode cX6_beginAnew 19 = .ok (.istore_n 3, 1) := by decide +kernel
theorem dX6_beginAnew_20 : decode cX6_beginAnew 20 = .ok (.iload_n 3, 1) := by decide +kernel
theorem dX6_beginAnew_21 : decode cX6_beginAnew 21 = .ok (.bipush 40, 2) := by decide +kernel
theorem dX6_beginAnew_23 : decode cX6_beginAnew 23 = .ok (.if_icmp .ge 16, 3) := by decide +kernel
theorem dX6_beginAnew_26 : decode cX6_beginAnew 26 = .ok (.aload_n 0, 1) := by decide +kernel
theorem dX6_beginAnew_27 : decode cX6_beginAnew 27 = .ok (.getfield 9, 3) := by decide +kernel
theorem dX6_beginAnew_30 : decode cX6_beginAnew 30 = .ok (.iload_n 3, 1) := by decide +kernel
theorem dX6_beginAnew_31 : decode cX6_beginAnew 31 = .ok (.lconst 0, 1) := by decide +kernel
theorem dX6_beginAnew_32 : decode cX6_beginAnew 32 = .ok (.lastore, 1) := by decide +kernel
theorem dX6_beginAnew_33 : decode cX6_beginAnew 33 = .ok (.iinc 3 1, 3) := by decide +kernel
theorem dX6_beginAnew_36 : decode cX6_beginAnew 36 = .ok (.goto (-16), 3) := by decide +kernel
theorem dX6_beginAnew_39 : decode cX6_beginAnew 39 = .ok (.return_, 1) := by decide +kernel
theorem dX6_isMissing_0 : decode cX6_isMissing 0 = .ok (.aload_n 0, 1) := by decide +kernel
theorem dX6_isMissing_1 : decode cX6_isMissing 1 = .ok (.getfield 15, 3) := by decide +kernel
theorem dX6_isMissing_4 : decode cX6_isMissing 4 = .ok (.ifCond .ne 7, 3) := by decide +kernel
theorem dX6_isMissing_7 : decode cX6_isMissing 7 = .ok (.iconst 1, 1) := by decide +kernel
theorem dX6_isMissing_8 : decode cX6_isMissing 8 = .ok (.goto 4, 3) := by decide +kernel
theorem dX6_isMissing_11 : decode cX6_isMissing 11 = .ok (.iconst 0, 1) := by decide +kernel
theorem dX6_isMissing_12 : decode cX6_isMissing 12 = .ok (.ireturn, 1) := by decide +kernel
theorem dX6_hasRun_0 : decode cX6_hasRun 0 = .ok (.iload_n 1, 1) := by decide +kernel
theorem dX6_hasRun_1 : decode cX6_hasRun 1 = .ok (.ifCond .lt 21, 3) := by decide +kernel
theorem dX6_hasRun_4 : decode cX6_hasRun 4 = .ok (.iload_n 2, 1) := by decide +kernel
theorem dX6_hasRun_5 : decode cX6_hasRun 5 = .ok (.ifCond .lt 17, 3) := by decide +kernel
theorem dX6_hasRun_8 : decode cX6_hasRun 8 = .ok (.iload_n 2, 1) := by decide +kernel
theorem dX6_hasRun_9 : decode cX6_hasRun 9 = .ok (.aload_n 0, 1) := by decide +kernel
theorem dX6_hasRun_10 : decode cX6_hasRun 10 = .ok (.getfield 19, 3) := by decide +kernel
theorem dX6_hasRun_13 : decode cX6_hasRun 13 = .ok (.iload_n 1, 1) := by decide +kernel
theorem dX6_hasRun_14 : decode cX6_hasRun 14 = .ok (.isub, 1) := by decide +kernel
theorem dX6_hasRun_15 : decode cX6_hasRun 15 = .ok (.if_icmp .gt 7, 3) := by decide +kernel
theorem dX6_hasRun_18 : decode cX6_hasRun 18 = .ok (.iconst 1, 1) := by decide +kernel
theorem dX6_hasRun_19 : decode cX6_hasRun 19 = .ok (.goto 4, 3) := by decide +kernel
theorem dX6_hasRun_22 : decode cX6_hasRun 22 = .ok (.iconst 0, 1) := by decide +kernel
theorem dX6_hasRun_23 : decode cX6_hasRun 23 = .ok (.ireturn, 1) := by decide +kernel
theorem dX6_put_0 : decode cX6_put 0 = .ok (.iload_n 1, 1) := by decide +kernel
theorem dX6_put_1 : decode cX6_put 1 = .ok (.ifCond .lt 22, 3) := by decide +kernel
theorem dX6_put_4 : decode cX6_put 4 = .ok (.iload_n 1, 1) := by decide +kernel
theorem dX6_put_5 : decode cX6_put 5 = .ok (.aload_n 0, 1) := by decide +kernel
theorem dX6_put_6 : decode cX6_put 6 = .ok (.getfield 19, 3) := by decide +kernel
theorem dX6_put_9 : decode cX6_put 9 = .ok (.if_icmp .ge 14, 3) := by decide +kernel
theorem dX6_put_12 : decode cX6_put 12 = .ok (.aload_n 0, 1) := by decide +kernel
theorem dX6_put_13 : decode cX6_put 13 = .ok (.getfield 9, 3) := by decide +kernel
theorem dX6_put_16 : decode cX6_put 16 = .ok (.iload_n 1, 1) := by decide +kernel
theorem dX6_put_17 : decode cX6_put 17 = .ok (.aload_n 0, 1) := by decide +kernel
theorem dX6_put_18 : decode cX6_put 18 = .ok (.lload_n 2, 1) := by decide +kernel
theorem dX6_put_19 : decode cX6_put 19 = .ok (.invokevirtual 22, 3) := by decide +kernel
theorem dX6_put_22 : decode cX6_put 22 = .ok (.lastore, 1) := by decide +kernel
theorem dX6_put_23 : decode cX6_put 23 = .ok (.return_, 1) := by decide +kernel
theorem dX6_lowestBits_0 : decode cX6_lowestBits 0 = .ok (.aload_n 0, 1) := by decide +kernel
theorem dX6_lowestBits_1 : decode cX6_lowestBits 1 = .ok (.getfield 15, 3) := by decide +kernel
theorem dX6_lowestBits_4 : decode cX6_lowestBits 4 = .ok (.lookupswitch 38 #[(8, 28), (16, 33)], 28) := by decide +kernel
theorem dX6_lowestBits_32 : decode cX6_lowestBits 32 = .ok (.lload_n 1, 1) := by decide +kernel
theorem dX6_lowestBits_33 : decode cX6_lowestBits 33 = .ok (.l2i, 1) := by decide +kernel
theorem dX6_lowestBits_34 : decode cX6_lowestBits 34 = .ok (.i2b, 1) := by decide +kernel
theorem dX6_lowestBits_35 : decode cX6_lowestBits 35 = .ok (.i2l, 1) := by decide +kernel
theorem dX6_lowestBits_36 : decode cX6_lowestBits 36 = .ok (.lreturn, 1) := by decide +kernel
theorem dX6_lowestBits_37 : decode cX6_lowestBits 37 = .ok (.lload_n 1, 1) := by decide +kernel
theorem dX6_lowestBits_38 : decode cX6_lowestBits 38 = .ok (.l2i, 1) := by decide +kernel
theorem dX6_lowestBits_39 : decode cX6_lowestBits 39 = .ok (.i2s, 1) := by decide +kernel
theorem dX6_lowestBits_40 : decode cX6_lowestBits 40 = .ok (.i2l, 1) := by decide +kernel
theorem dX6_lowestBits_41 : decode cX6_lowestBits 41 = .ok (.lreturn, 1) := by decide +kernel
theorem dX6_lowestBits_42 : decode cX6_lowestBits 42 = .ok (.lload_n 1, 1) := by decide +kernel
theorem dX6_lowestBits_43 : decode cX6_lowestBits 43 = .ok (.lreturn, 1) := by decide +kernel
theorem dX7_init_0 : decode cX7_init 0 = .ok (.aload_n 0, 1) := by decide +kernel
theorem dX7_init_1 : decode cX7_init 1 = .ok (.iload_n 1, 1) := by decide +kernel
theorem dX7_init_2 : decode cX7_init 2 = .ok (.aload_n 2, 1) := by decide +kernel
theorem dX7_init_3 : decode cX7_init 3 = .ok (.invokespecial 1, 3) := by decide +kernel
theorem dX7_init_6 : decode cX7_init 6 = .ok (.return_, 1) := by decide +kernel
theorem dX7_shrinks_0 : decode cX7_shrinks 0 = .ok (.iload_n 1, 1) := by decide +kernel
theorem dX7_shrinks_1 : decode cX7_shrinks 1 = .ok (.bipush 60, 2) := by decide +kernel
theorem dX7_shrinks_3 : decode cX7_shrinks 3 = .ok (.if_icmp .le 8, 3) := by decide +kernel
theorem dX7_shrinks_6 : decode cX7_shrinks 6 = .ok (.bipush 50, 2) := by decide +kernel
theorem dX7_shrinks_8 : decode cX7_shrinks 8 = .ok (.goto 4, 3) := by decide +kernel
theorem dX7_shrinks_11 : decode cX7_shrinks 11 = .ok (.iconst 0, 1) := by decide +kernel
theorem dX7_shrinks_12 : decode cX7_shrinks 12 = .ok (.ireturn, 1) := by decide +kernel
theorem dX7_bears_0 : decode cX7_bears 0 = .ok (.aload_n 0, 1) := by decide +kernel
theorem dX7_bears_1 : decode cX7_bears 1 = .ok (.iload_n 1, 1) := by decide +kernel
theorem dX7_bears_2 : decode cX7_bears 2 = .ok (.iload_n 2, 1) := by decide +kernel
theorem dX7_bears_3 : decode cX7_bears 3 = .ok (.invokespecial 7, 3) := by decide +kernel
theorem dX7_bears_6 : decode cX7_bears 6 = .ok (.bipush 7, 2) := by decide +kernel
theorem dX7_bears_8 : decode cX7_bears 8 = .ok (.isub, 1) := by decide +kernel
theorem dX7_bears_9 : decode cX7_bears 9 = .ok (.ireturn, 1) := by decide +kernel
theorem dX7_keeps_0 : decode cX7_keeps 0 = .ok (.aload_n 0, 1) := by decide +kernel
theorem dX7_keeps_1 : decode cX7_keeps 1 = .ok (.invokespecial 11, 3) := by decide +kernel
theorem dX7_keeps_4 : decode cX7_keeps 4 = .ok (.bipush 50, 2) := by decide +kernel
theorem dX7_keeps_6 : decode cX7_keeps 6 = .ok (.iadd, 1) := by decide +kernel
theorem dX7_keeps_7 : decode cX7_keeps 7 = .ok (.ireturn, 1) := by decide +kernel
theorem dX8_init_0 : decode cX8_init 0 = .ok (.aload_n 0, 1) := by decide +kernel
theorem dX8_init_1 : decode cX8_init 1 = .ok (.iload_n 1, 1) := by decide +kernel
theorem dX8_init_2 : decode cX8_init 2 = .ok (.aload_n 2, 1) := by decide +kernel
theorem dX8_init_3 : decode cX8_init 3 = .ok (.invokespecial 1, 3) := by decide +kernel
theorem dX8_init_6 : decode cX8_init 6 = .ok (.return_, 1) := by decide +kernel
theorem dX8_shrinks_0 : decode cX8_shrinks 0 = .ok (.aload_n 0, 1) := by decide +kernel
theorem dX8_shrinks_1 : decode cX8_shrinks 1 = .ok (.iload_n 1, 1) := by decide +kernel
theorem dX8_shrinks_2 : decode cX8_shrinks 2 = .ok (.iload_n 2, 1) := by decide +kernel
theorem dX8_shrinks_3 : decode cX8_shrinks 3 = .ok (.invokespecial 7, 3) := by decide +kernel
theorem dX8_shrinks_6 : decode cX8_shrinks 6 = .ok (.iload_n 1, 1) := by decide +kernel
theorem dX8_shrinks_7 : decode cX8_shrinks 7 = .ok (.bipush 60, 2) := by decide +kernel
theorem dX8_shrinks_9 : decode cX8_shrinks 9 = .ok (.if_icmp .lt 7, 3) := by decide +kernel
theorem dX8_shrinks_12 : decode cX8_shrinks 12 = .ok (.iconst 1, 1) := by decide +kernel
theorem dX8_shrinks_13 : decode cX8_shrinks 13 = .ok (.goto 4, 3) := by decide +kernel
theorem dX8_shrinks_16 : decode cX8_shrinks 16 = .ok (.iconst 0, 1) := by decide +kernel
theorem dX8_shrinks_17 : decode cX8_shrinks 17 = .ok (.iadd, 1) := by decide +kernel
theorem dX8_shrinks_18 : decode cX8_shrinks 18 = .ok (.ireturn, 1) := by decide +kernel
theorem dX8_felts_0 : decode cX8_felts 0 = .ok (.aload_n 0, 1) := by decide +kernel
theorem dX8_felts_1 : decode cX8_felts 1 = .ok (.iload_n 1, 1) := by decide +kernel
theorem dX8_felts_2 : decode cX8_felts 2 = .ok (.invokespecial 11, 3) := by decide +kernel
theorem dX8_felts_5 : decode cX8_felts 5 = .ok (.iconst 2, 1) := by decide +kernel
theorem dX8_felts_6 : decode cX8_felts 6 = .ok (.iadd, 1) := by decide +kernel
theorem dX8_felts_7 : decode cX8_felts 7 = .ok (.ireturn, 1) := by decide +kernel
theorem dX8_bears_0 : decode cX8_bears 0 = .ok (.aload_n 0, 1) := by decide +kernel
theorem dX8_bears_1 : decode cX8_bears 1 = .ok (.iload_n 1, 1) := by decide +kernel
theorem dX8_bears_2 : decode cX8_bears 2 = .ok (.iload_n 2, 1) := by decide +kernel
theorem dX8_bears_3 : decode cX8_bears 3 = .ok (.invokespecial 15, 3) := by decide +kernel
theorem dX8_bears_6 : decode cX8_bears 6 = .ok (.iload_n 2, 1) := by decide +kernel
theorem dX8_bears_7 : decode cX8_bears 7 = .ok (.iadd, 1) := by decide +kernel
theorem dX8_bears_8 : decode cX8_bears 8 = .ok (.ireturn, 1) := by decide +kernel
theorem dX9_init_0 : decode cX9_init 0 = .ok (.aload_n 0, 1) := by decide +kernel
theorem dX9_init_1 : decode cX9_init 1 = .ok (.invokespecial 3, 3) := by decide +kernel
theorem dX9_init_4 : decode cX9_init 4 = .ok (.aload_n 0, 1) := by decide +kernel
theorem dX9_init_5 : decode cX9_init 5 = .ok (.bipush 120, 2) := by decide +kernel
theorem dX9_init_7 : decode cX9_init 7 = .ok (.newarray .byte, 2) := by decide +kernel
theorem dX9_init_9 : decode cX9_init 9 = .ok (.putfield 9, 3) := by decide +kernel
theorem dX9_init_12 : decode cX9_init 12 = .ok (.return_, 1) := by decide +kernel
theorem dX9_append_0 : decode cX9_append 0 = .ok (.aload_n 0, 1) := by decide +kernel
theorem dX9_append_1 : decode cX9_append 1 = .ok (.getfield 15, 3) := by decide +kernel
theorem dX9_append_4 : decode cX9_append 4 = .ok (.bipush 120, 2) := by decide +kernel
theorem dX9_append_6 : decode cX9_append 6 = .ok (.if_icmp .ge 23, 3) := by decide +kernel
theorem dX9_append_9 : decode cX9_append 9 = .ok (.aload_n 0, 1) := by decide +kernel
theorem dX9_append_10 : decode cX9_append 10 = .ok (.getfield 9, 3) := by decide +kernel
theorem dX9_append_13 : decode cX9_append 13 = .ok (.aload_n 0, 1) := by decide +kernel
theorem dX9_append_14 : decode cX9_append 14 = .ok (.getfield 15, 3) := by decide +kernel
theorem dX9_append_17 : decode cX9_append 17 = .ok (.iload_n 1, 1) := by decide +kernel
theorem dX9_append_18 : decode cX9_append 18 = .ok (.bastore, 1) := by decide +kernel
theorem dX9_append_19 : decode cX9_append 19 = .ok (.aload_n 0, 1) := by decide +kernel
theorem dX9_append_20 : decode cX9_append 20 = .ok (.dup, 1) := by decide +kernel
theorem dX9_append_21 : decode cX9_append 21 = .ok (.getfield 15, 3) := by decide +kernel
theorem dX9_append_24 : decode cX9_append 24 = .ok (.iconst 1, 1) := by decide +kernel
theorem dX9_append_25 : decode cX9_append 25 = .ok (.iadd, 1) := by decide +kernel
theorem dX9_append_26 : decode cX9_append 26 = .ok (.putfield 15, 3) := by decide +kernel
theorem dX9_append_29 : decode cX9_append 29 = .ok (.return_, 1) := by decide +kernel
theorem dX9_clear_0 : decode cX9_clear 0 = .ok (.aload_n 0, 1) := by decide +kernel
theorem dX9_clear_1 : decode cX9_clear 1 = .ok (.getfield 15, 3) := by decide +kernel
theorem dX9_clear_4 : decode cX9_clear 4 = .ok (.istore_n 1, 1) := by decide +kernel
theorem dX9_clear_5 : decode cX9_clear 5 = .ok (.aload_n 0, 1) := by decide +kernel
theorem dX9_clear_6 : decode cX9_clear 6 = .ok (.iconst 0, 1) := by decide +kernel
theorem dX9_clear_7 : decode cX9_clear 7 = .ok (.putfield 15, 3) := by decide +kernel
theorem dX9_clear_10 : decode cX9_clear 10 = .ok (.iload_n 1, 1) := by decide +kernel
theorem dX9_clear_11 : decode cX9_clear 11 = .ok (.ireturn, 1) := by decide +kernel
theorem dX9_tellInto_0 : decode cX9_tellInto 0 = .ok (.aload_n 0, 1) := by decide +kernel
theorem dX9_tellInto_1 : decode cX9_tellInto 1 = .ok (.iconst 0, 1) := by decide +kernel
theorem dX9_tellInto_2 : decode cX9_tellInto 2 = .ok (.putfield 19, 3) := by decide +kernel
theorem dX9_tellInto_5 : decode cX9_tellInto 5 = .ok (.aload_n 0, 1) := by decide +kernel
theorem dX9_tellInto_6 : decode cX9_tellInto 6 = .ok (.invokevirtual 22, 3) := by decide +kernel
theorem dX9_tellInto_9 : decode cX9_tellInto 9 = .ok (.iconst 1, 1) := by decide +kernel
theorem dX9_tellInto_10 : decode cX9_tellInto 10 = .ok (.istore_n 2, 1) := by decide +kernel
theorem dX9_tellInto_11 : decode cX9_tellInto 11 = .ok (.iload_n 2, 1) := by decide +kernel
theorem dX9_tellInto_12 : decode cX9_tellInto 12 = .ok (.bipush 120, 2) := by decide +kernel
theorem dX9_tellInto_14 : decode cX9_tellInto 14 = .ok (.if_icmp .gt 44, 3) := by decide +kernel
theorem dX9_tellInto_17 : decode cX9_tellInto 17 = .ok (.aload_n 0, 1) := by decide +kernel
theorem dX9_tellInto_18 : decode cX9_tellInto 18 = .ok (.aload_n 1, 1) := by decide +kernel
theorem dX9_tellInto_19 : decode cX9_tellInto 19 = .ok (.invokevirtual 25, 3) := by decide +kernel
theorem dX9_tellInto_22 : decode cX9_tellInto 22 = .ok (.ifCond .ne 6, 3) := by decide +kernel
theorem dX9_tellInto_25 : decode cX9_tellInto 25 = .ok (.goto 33, 3) := by decide +kernel
theorem dX9_tellInto_28 : decode cX9_tellInto 28 = .ok (.aload_n 0, 1) := by decide +kernel
theorem dX9_tellInto_29 : decode cX9_tellInto 29 = .ok (.getfield 29, 3) := by decide +kernel
theorem dX9_tellInto_32 : decode cX9_tellInto 32 = .ok (.ifCond .ne 5, 3) := by decide +kernel
theorem dX9_tellInto_35 : decode cX9_tellInto 35 = .ok (.iload_n 2, 1) := by decide +kernel
theorem dX9_tellInto_36 : decode cX9_tellInto 36 = .ok (.ireturn, 1) := by decide +kernel
theorem dX9_tellInto_37 : decode cX9_tellInto 37 = .ok (.aload_n 0, 1) := by decide +kernel
theorem dX9_tellInto_38 : decode cX9_tellInto 38 = .ok (.getfield 29, 3) := by decide +kernel
theorem dX9_tellInto_41 : decode cX9_tellInto 41 = .ok (.iconst 3, 1) := by decide +kernel
theorem dX9_tellInto_42 : decode cX9_tellInto 42 = .ok (.if_icmp .eq 6, 3) := by decide +kernel
theorem dX9_tellInto_45 : decode cX9_tellInto 45 = .ok (.goto 13, 3) := by decide +kernel
theorem dX9_tellInto_48 : decode cX9_tellInto 48 = .ok (.aload_n 0, 1) := by decide +kernel
theorem dX9_tellInto_49 : decode cX9_tellInto 49 = .ok (.invokevirtual 22, 3) := by decide +kernel
theorem dX9_tellInto_52 : decode cX9_tellInto 52 = .ok (.iinc 2 1, 3) := by decide +kernel
theorem dX9_tellInto_55 : decode cX9_tellInto 55 = .ok (.goto (-44), 3) := by decide +kernel
theorem dX9_tellInto_58 : decode cX9_tellInto 58 = .ok (.iconst (-1), 1) := by decide +kernel
theorem dX9_tellInto_59 : decode cX9_tellInto 59 = .ok (.aload_n 0, 1) := by decide +kernel
theorem dX9_tellInto_60 : decode cX9_tellInto 60 = .ok (.getfield 32, 3) := by decide +kernel
theorem dX9_tellInto_63 : decode cX9_tellInto 63 = .ok (.isub, 1) := by decide +kernel
theorem dX9_tellInto_64 : decode cX9_tellInto 64 = .ok (.ireturn, 1) := by decide +kernel
theorem dX9_takeItem_0 : decode cX9_takeItem 0 = .ok (.aload_n 0, 1) := by decide +kernel
theorem dX9_takeItem_1 : decode cX9_takeItem 1 = .ok (.invokevirtual 35, 3) := by decide +kernel
theorem dX9_takeItem_4 : decode cX9_takeItem 4 = .ok (.istore_n 2, 1) := by decide +kernel
theorem dX9_takeItem_5 : decode cX9_takeItem 5 = .ok (.iload_n 2, 1) := by decide +kernel
theorem dX9_takeItem_6 : decode cX9_takeItem 6 = .ok (.ifCond .lt 41, 3) := by decide +kernel
theorem dX9_takeItem_9 : decode cX9_takeItem 9 = .ok (.aload_n 1, 1) := by decide +kernel
theorem dX9_takeItem_10 : decode cX9_takeItem 10 = .ok (.iload_n 2, 1) := by decide +kernel
theorem dX9_takeItem_11 : decode cX9_takeItem 11 = .ok (.invokevirtual 39, 3) := by decide +kernel
theorem dX9_takeItem_14 : decode cX9_takeItem 14 = .ok (.astore_n 3, 1) := by decide +kernel
theorem dX9_takeItem_15 : decode cX9_takeItem 15 = .ok (.aload_n 3, 1) := by decide +kernel
theorem dX9_takeItem_16 : decode cX9_takeItem 16 = .ok (.ifnonnull 5, 3) := by decide +kernel
theorem dX9_takeItem_19 : decode cX9_takeItem 19 = .ok (.iconst 0, 1) := by decide +kernel
theorem dX9_takeItem_20 : decode cX9_takeItem 20 = .ok (.ireturn, 1) := by decide +kernel
theorem dX9_takeItem_21 : decode cX9_takeItem 21 = .ok (.aload_n 0, 1) := by decide +kernel
theorem dX9_takeItem_22 : decode cX9_takeItem 22 = .ok (.invokevirtual 22, 3) := by decide +kernel
theorem dX9_takeItem_25 : decode cX9_takeItem 25 = .ok (.aload_n 0, 1) := by decide +kernel
theorem dX9_takeItem_26 : decode cX9_takeItem 26 = .ok (.aload_n 3, 1) := by decide +kernel
theorem dX9_takeItem_27 : decode cX9_takeItem 27 = .ok (.invokevirtual 45, 3) := by decide +kernel
theorem dX9_takeItem_30 : decode cX9_takeItem 30 = .ok (.ifCond .eq 15, 3) := by decide +kernel
theorem dX9_takeItem_33 : decode cX9_takeItem 33 = .ok (.aload_n 0, 1) := by decide +kernel
theorem dX9_takeItem_34 : decode cX9_takeItem 34 = .ok (.aload_n 3, 1) := by decide +kernel
theorem dX9_takeItem_35 : decode cX9_takeItem 35 = .ok (.invokevirtual 49, 3) := by decide +kernel
theorem dX9_takeItem_38 : decode cX9_takeItem 38 = .ok (.ifCond .eq 7, 3) := by decide +kernel
theorem dX9_takeItem_41 : decode cX9_takeItem 41 = .ok (.iconst 1, 1) := by decide +kernel
theorem dX9_takeItem_42 : decode cX9_takeItem 42 = .ok (.goto 4, 3) := by decide +kernel
theorem dX9_takeItem_45 : decode cX9_takeItem 45 = .ok (.iconst 0, 1) := by decide +kernel
theorem dX9_takeItem_46 : decode cX9_takeItem 46 = .ok (.ireturn, 1) := by decide +kernel
theorem dX9_takeItem_47 : decode cX9_takeItem 47 = .ok (.aload_n 0, 1) := by decide +kernel
theorem dX9_takeItem_48 : decode cX9_takeItem 48 = .ok (.ldc 52, 2) := by decide +kernel
theorem dX9_takeItem_50 : decode cX9_takeItem 50 = .ok (.invokevirtual 54, 3) := by decide +kernel
theorem dX9_takeItem_53 : decode cX9_takeItem 53 = .ok (.ifCond .eq 9, 3) := by decide +kernel
theorem dX9_takeItem_56 : decode cX9_takeItem 56 = .ok (.aload_n 0, 1) := by decide +kernel
theorem dX9_takeItem_57 : decode cX9_takeItem 57 = .ok (.aload_n 1, 1) := by decide +kernel
theorem dX9_takeItem_58 : decode cX9_takeItem 58 = .ok (.invokevirtual 58, 3) := by decide +kernel
theorem dX9_takeItem_61 : decode cX9_takeItem 61 = .ok (.ireturn, 1) := by decide +kernel
theorem dX9_takeItem_62 : decode cX9_takeItem 62 = .ok (.aload_n 0, 1) := by decide +kernel
theorem dX9_takeItem_63 : decode cX9_takeItem 63 = .ok (.ldc 61, 2) := by decide +kernel
theorem dX9_takeItem_65 : decode cX9_takeItem 65 = .ok (.invokevirtual 54, 3) := by decide +kernel
theorem dX9_takeItem_68 : decode cX9_takeItem 68 = .ok (.ifCond .eq 9, 3) := by decide +kernel
theorem dX9_takeItem_71 : decode cX9_takeItem 71 = .ok (.aload_n 0, 1) := by decide +kernel
theorem dX9_takeItem_72 : decode cX9_takeItem 72 = .ok (.aload_n 1, 1) := by decide +kernel
theorem dX9_takeItem_73 : decode cX9_takeItem 73 = .ok (.invokevirtual 63, 3) := by decide +kernel
theorem dX9_takeItem_76 : decode cX9_takeItem 76 = .ok (.ireturn, 1) := by decide +kernel
theorem dX9_takeItem_77 : decode cX9_takeItem 77 = .ok (.aload_n 0, 1) := by decide +kernel
theorem dX9_takeItem_78 : decode cX9_takeItem 78 = .ok (.ldc 66, 2) := by decide +kernel
theorem dX9_takeItem_80 : decode cX9_takeItem 80 = .ok (.invokevirtual 54, 3) := by decide +kernel
theorem dX9_takeItem_83 : decode cX9_takeItem 83 = .ok (.ifCond .eq 9, 3) := by decide +kernel
theorem dX9_takeItem_86 : decode cX9_takeItem 86 = .ok (.aload_n 0, 1) := by decide +kernel
theorem dX9_takeItem_87 : decode cX9_takeItem 87 = .ok (.aload_n 1, 1) := by decide +kernel
theorem dX9_takeItem_88 : decode cX9_takeItem 88 = .ok (.invokevirtual 68, 3) := by decide +kernel
theorem dX9_takeItem_91 : decode cX9_takeItem 91 = .ok (.ireturn, 1) := by decide +kernel
theorem dX9_takeItem_92 : decode cX9_takeItem 92 = .ok (.aload_n 0, 1) := by decide +kernel
theorem dX9_takeItem_93 : decode cX9_takeItem 93 = .ok (.ldc 71, 2) := by decide +kernel
theorem dX9_takeItem_95 : decode cX9_takeItem 95 = .ok (.invokevirtual 54, 3) := by decide +kernel
theorem dX9_takeItem_98 : decode cX9_takeItem 98 = .ok (.ifCond .eq 14, 3) := by decide +kernel
theorem dX9_takeItem_101 : decode cX9_takeItem 101 = .ok (.aload_n 1, 1) := by decide +kernel
theorem dX9_takeItem_102 : decode cX9_takeItem 102 = .ok (.iconst 1, 1) := by decide +kernel
theorem dX9_takeItem_103 : decode cX9_takeItem 103 = .ok (.putfield 73, 3) := by decide +kernel
theorem dX9_takeItem_106 : decode cX9_takeItem 106 = .ok (.aload_n 0, 1) := by decide +kernel
theorem dX9_takeItem_107 : decode cX9_takeItem 107 = .ok (.invokevirtual 22, 3) := by decide +kernel
theorem dX9_takeItem_110 : decode cX9_takeItem 110 = .ok (.iconst 1, 1) := by decide +kernel
theorem dX9_takeItem_111 : decode cX9_takeItem 111 = .ok (.ireturn, 1) := by decide +kernel
theorem dX9_takeItem_112 : decode cX9_takeItem 112 = .ok (.aload_n 0, 1) := by decide +kernel
theorem dX9_takeItem_113 : decode cX9_takeItem 113 = .ok (.ldc 75, 2) := by decide +kernel
theorem dX9_takeItem_115 : decode cX9_takeItem 115 = .ok (.invokevirtual 54, 3) := by decide +kernel
theorem dX9_takeItem_118 : decode cX9_takeItem 118 = .ok (.ifCond .eq 14, 3) := by decide +kernel
theorem dX9_takeItem_121 : decode cX9_takeItem 121 = .ok (.aload_n 1, 1) := by decide +kernel
theorem dX9_takeItem_122 : decode cX9_takeItem 122 = .ok (.iconst 0, 1) := by decide +kernel
theorem dX9_takeItem_123 : decode cX9_takeItem 123 = .ok (.putfield 73, 3) := by decide +kernel
theorem dX9_takeItem_126 : decode cX9_takeItem 126 = .ok (.aload_n 0, 1) := by decide +kernel
theorem dX9_takeItem_127 : decode cX9_takeItem 127 = .ok (.invokevirtual 22, 3) := by decide +kernel
theorem dX9_takeItem_130 : decode cX9_takeItem 130 = .ok (.iconst 1, 1) := by decide +kernel
theorem dX9_takeItem_131 : decode cX9_takeItem 131 = .ok (.ireturn, 1) := by decide +kernel
theorem dX9_takeItem_132 : decode cX9_takeItem 132 = .ok (.iconst 0, 1) := by decide +kernel
theorem dX9_takeItem_133 : decode cX9_takeItem 133 = .ok (.ireturn, 1) := by decide +kernel
theorem dX9_kindNamed_0 : decode cX9_kindNamed 0 = .ok (.aload_n 0, 1) := by decide +kernel
theorem dX9_kindNamed_1 : decode cX9_kindNamed 1 = .ok (.ldc 77, 2) := by decide +kernel
theorem dX9_kindNamed_3 : decode cX9_kindNamed 3 = .ok (.invokevirtual 54, 3) := by decide +kernel
theorem dX9_kindNamed_6 : decode cX9_kindNamed 6 = .ok (.ifCond .eq 5, 3) := by decide +kernel
theorem dX9_kindNamed_9 : decode cX9_kindNamed 9 = .ok (.iconst 0, 1) := by decide +kernel
theorem dX9_kindNamed_10 : decode cX9_kindNamed 10 = .ok (.ireturn, 1) := by decide +kernel
theorem dX9_kindNamed_11 : decode cX9_kindNamed 11 = .ok (.aload_n 0, 1) := by decide +kernel
theorem dX9_kindNamed_12 : decode cX9_kindNamed 12 = .ok (.ldc 79, 2) := by decide +kernel
theorem dX9_kindNamed_14 : decode cX9_kindNamed 14 = .ok (.invokevirtual 54, 3) := by decide +kernel
theorem dX9_kindNamed_17 : decode cX9_kindNamed 17 = .ok (.ifCond .eq 5, 3) := by decide +kernel
theorem dX9_kindNamed_20 : decode cX9_kindNamed 20 = .ok (.iconst 1, 1) := by decide +kernel
theorem dX9_kindNamed_21 : decode cX9_kindNamed 21 = .ok (.ireturn, 1) := by decide +kernel
theorem dX9_kindNamed_22 : decode cX9_kindNamed 22 = .ok (.aload_n 0, 1) := by decide +kernel
theorem dX9_kindNamed_23 : decode cX9_kindNamed 23 = .ok (.ldc 81, 2) := by decide +kernel
theorem dX9_kindNamed_25 : decode cX9_kindNamed 25 = .ok (.invokevirtual 54, 3) := by decide +kernel
theorem dX9_kindNamed_28 : decode cX9_kindNamed 28 = .ok (.ifCond .eq 5, 3) := by decide +kernel
theorem dX9_kindNamed_31 : decode cX9_kindNamed 31 = .ok (.iconst 2, 1) := by decide +kernel
theorem dX9_kindNamed_32 : decode cX9_kindNamed 32 = .ok (.ireturn, 1) := by decide +kernel
theorem dX9_kindNamed_33 : decode cX9_kindNamed 33 = .ok (.aload_n 0, 1) := by decide +kernel
theorem dX9_kindNamed_34 : decode cX9_kindNamed 34 = .ok (.ldc 83, 2) := by decide +kernel
theorem dX9_kindNamed_36 : decode cX9_kindNamed 36 = .ok (.invokevirtual 54, 3) := by decide +kernel
theorem dX9_kindNamed_39 : decode cX9_kindNamed 39 = .ok (.ifCond .eq 5, 3) := by decide +kernel
theorem dX9_kindNamed_42 : decode cX9_kindNamed 42 = .ok (.iconst 3, 1) := by decide +kernel
theorem dX9_kindNamed_43 : decode cX9_kindNamed 43 = .ok (.ireturn, 1) := by decide +kernel
theorem dX9_kindNamed_44 : decode cX9_kindNamed 44 = .ok (.aload_n 0, 1) := by decide +kernel
theorem dX9_kindNamed_45 : decode cX9_kindNamed 45 = .ok (.ldc 85, 2) := by decide +kernel
theorem dX9_kindNamed_47 : decode cX9_kindNamed 47 = .ok (.invokevirtual 54, 3) := by decide +kernel
theorem dX9_kindNamed_50 : decode cX9_kindNamed 50 = .ok (.ifCond .eq 5, 3) := by decide +kernel
theorem dX9_kindNamed_53 : decode cX9_kindNamed 53 = .ok (.iconst 4, 1) := by decide +kernel
theorem dX9_kindNamed_54 : decode cX9_kindNamed 54 = .ok (.ireturn, 1) := by decide +kernel
theorem dX9_kindNamed_55 : decode cX9_kindNamed 55 = .ok (.aload_n 0, 1) := by decide +kernel
theorem dX9_kindNamed_56 : decode cX9_kindNamed 56 = .ok (.ldc 87, 2) := by decide +kernel
theorem dX9_kindNamed_58 : decode cX9_kindNamed 58 = .ok (.invokevirtual 54, 3) := by decide +kernel
theorem dX9_kindNamed_61 : decode cX9_kindNamed 61 = .ok (.ifCond .eq 7, 3) := by decide +kernel
theorem dX9_kindNamed_64 : decode cX9_kindNamed 64 = .ok (.iconst 5, 1) := by decide +kernel
theorem dX9_kindNamed_65 : decode cX9_kindNamed 65 = .ok (.goto 4, 3) := by decide +kernel
theorem dX9_kindNamed_68 : decode cX9_kindNamed 68 = .ok (.iconst (-1), 1) := by decide +kernel
theorem dX9_kindNamed_69 : decode cX9_kindNamed 69 = .ok (.ireturn, 1) := by decide +kernel
theorem dX9_takeSpans_0 : decode cX9_takeSpans 0 = .ok (.aload_n 0, 1) := by decide +kernel
theorem dX9_takeSpans_1 : decode cX9_takeSpans 1 = .ok (.ldc 89, 2) := by decide +kernel
theorem dX9_takeSpans_3 : decode cX9_takeSpans 3 = .ok (.invokevirtual 54, 3) := by decide +kernel
theorem dX9_takeSpans_6 : decode cX9_takeSpans 6 = .ok (.ifCond .ne 5, 3) := by decide +kernel
theorem dX9_takeSpans_9 : decode cX9_takeSpans 9 = .ok (.iconst 1, 1) := by decide +kernel
theorem dX9_takeSpans_10 : decode cX9_takeSpans 10 = .ok (.ireturn, 1) := by decide +kernel
theorem dX9_takeSpans_11 : decode cX9_takeSpans 11 = .ok (.aload_n 0, 1) := by decide +kernel
theorem dX9_takeSpans_12 : decode cX9_takeSpans 12 = .ok (.invokevirtual 22, 3) := by decide +kernel
theorem dX9_takeSpans_15 : decode cX9_takeSpans 15 = .ok (.aload_n 0, 1) := by decide +kernel
theorem dX9_takeSpans_16 : decode cX9_takeSpans 16 = .ok (.invokevirtual 91, 3) := by decide +kernel
theorem dX9_takeSpans_19 : decode cX9_takeSpans 19 = .ok (.ifCond .ne 5, 3) := by decide +kernel
theorem dX9_takeSpans_22 : decode cX9_takeSpans 22 = .ok (.iconst 0, 1) := by decide +kernel
theorem dX9_takeSpans_23 : decode cX9_takeSpans 23 = .ok (.ireturn, 1) := by decide +kernel
theorem dX9_takeSpans_24 : decode cX9_takeSpans 24 = .ok (.aload_n 1, 1) := by decide +kernel
theorem dX9_takeSpans_25 : decode cX9_takeSpans 25 = .ok (.aload_n 0, 1) := by decide +kernel
theorem dX9_takeSpans_26 : decode cX9_takeSpans 26 = .ok (.getfield 95, 3) := by decide +kernel
theorem dX9_takeSpans_29 : decode cX9_takeSpans 29 = .ok (.putfield 98, 3) := by decide +kernel
theorem dX9_takeSpans_32 : decode cX9_takeSpans 32 = .ok (.aload_n 1, 1) := by decide +kernel
theorem dX9_takeSpans_33 : decode cX9_takeSpans 33 = .ok (.aload_n 0, 1) := by decide +kernel
theorem dX9_takeSpans_34 : decode cX9_takeSpans 34 = .ok (.getfield 103, 3) := by decide +kernel
theorem dX9_takeSpans_37 : decode cX9_takeSpans 37 = .ok (.putfield 106, 3) := by decide +kernel
theorem dX9_takeSpans_40 : decode cX9_takeSpans 40 = .ok (.iconst 1, 1) := by decide +kernel
theorem dX9_takeSpans_41 : decode cX9_takeSpans 41 = .ok (.ireturn, 1) := by decide +kernel
theorem dX9_takeThickness_0 : decode cX9_takeThickness 0 = .ok (.aload_n 0, 1) := by decide +kernel
theorem dX9_takeThickness_1 : decode cX9_takeThickness 1 = .ok (.ldc 109, 2) := by decide +kernel
theorem dX9_takeThickness_3 : decode cX9_takeThickness 3 = .ok (.invokevirtual 54, 3) := by decide +kernel
theorem dX9_takeThickness_6 : decode cX9_takeThickness 6 = .ok (.ifCond .ne 5, 3) := by decide +kernel
theorem dX9_takeThickness_9 : decode cX9_takeThickness 9 = .ok (.iconst 1, 1) := by decide +kernel
theorem dX9_takeThickness_10 : decode cX9_takeThickness 10 = .ok (.ireturn, 1) := by decide +kernel
theorem dX9_takeThickness_11 : decode cX9_takeThickness 11 = .ok (.aload_n 0, 1) := by decide +kernel
theorem dX9_takeThickness_12 : decode cX9_takeThickness 12 = .ok (.invokevirtual 22, 3) := by decide +kernel
theorem dX9_takeThickness_15 : decode cX9_takeThickness 15 = .ok (.aload_n 0, 1) := by decide +kernel
theorem dX9_takeThickness_16 : decode cX9_takeThickness 16 = .ok (.iconst 1, 1) := by decide +kernel
theorem dX9_takeThickness_17 : decode cX9_takeThickness 17 = .ok (.bipush 99, 2) := by decide +kernel
theorem dX9_takeThickness_19 : decode cX9_takeThickness 19 = .ok (.invokevirtual 111, 3) := by decide +kernel
theorem dX9_takeThickness_22 : decode cX9_takeThickness 22 = .ok (.ifCond .ne 5, 3) := by decide +kernel
theorem dX9_takeThickness_25 : decode cX9_takeThickness 25 = .ok (.iconst 0, 1) := by decide +kernel
theorem dX9_takeThickness_26 : decode cX9_takeThickness 26 = .ok (.ireturn, 1) := by decide +kernel
theorem dX9_takeThickness_27 : decode cX9_takeThickness 27 = .ok (.aload_n 1, 1) := by decide +kernel
theorem dX9_takeThickness_28 : decode cX9_takeThickness 28 = .ok (.aload_n 0, 1) := by decide +kernel
theorem dX9_takeThickness_29 : decode cX9_takeThickness 29 = .ok (.getfield 115, 3) := by decide +kernel
theorem dX9_takeThickness_32 : decode cX9_takeThickness 32 = .ok (.putfield 118, 3) := by decide +kernel
theorem dX9_takeThickness_35 : decode cX9_takeThickness 35 = .ok (.aload_n 0, 1) := by decide +kernel
theorem dX9_takeThickness_36 : decode cX9_takeThickness 36 = .ok (.invokevirtual 22, 3) := by decide +kernel
theorem dX9_takeThickness_39 : decode cX9_takeThickness 39 = .ok (.iconst 1, 1) := by decide +kernel
theorem dX9_takeThickness_40 : decode cX9_takeThickness 40 = .ok (.ireturn, 1) := by decide +kernel
theorem dX9_takePerson_0 : decode cX9_takePerson 0 = .ok (.aload_n 1, 1) := by decide +kernel
theorem dX9_takePerson_1 : decode cX9_takePerson 1 = .ok (.getfield 120, 3) := by decide +kernel
theorem dX9_takePerson_4 : decode cX9_takePerson 4 = .ok (.bipush 6, 2) := by decide +kernel
theorem dX9_takePerson_6 : decode cX9_takePerson 6 = .ok (.if_icmp .lt 5, 3) := by decide +kernel
theorem dX9_takePerson_9 : decode cX9_takePerson 9 = .ok (.iconst 0, 1) := by decide +kernel
theorem dX9_takePerson_10 : decode cX9_takePerson 10 = .ok (.ireturn, 1) := by decide +kernel
theorem dX9_takePerson_11 : decode cX9_takePerson 11 = .ok (.aload_n 0, 1) := by decide +kernel
theorem dX9_takePerson_12 : decode cX9_takePerson 12 = .ok (.invokevirtual 22, 3) := by decide +kernel
theorem dX9_takePerson_15 : decode cX9_takePerson 15 = .ok (.aload_n 0, 1) := by decide +kernel
theorem dX9_takePerson_16 : decode cX9_takePerson 16 = .ok (.invokevirtual 91, 3) := by decide +kernel
theorem dX9_takePerson_19 : decode cX9_takePerson 19 = .ok (.ifCond .eq 22, 3) := by decide +kernel
theorem dX9_takePerson_22 : decode cX9_takePerson 22 = .ok (.aload_n 1, 1) := by decide +kernel
theorem dX9_takePerson_23 : decode cX9_takePerson 23 = .ok (.aload_n 0, 1) := by decide +kernel
theorem dX9_takePerson_24 : decode cX9_takePerson 24 = .ok (.getfield 95, 3) := by decide +kernel
theorem dX9_takePerson_27 : decode cX9_takePerson 27 = .ok (.aload_n 0, 1) := by decide +kernel
theorem dX9_takePerson_28 : decode cX9_takePerson 28 = .ok (.getfield 103, 3) := by decide +kernel
theorem dX9_takePerson_31 : decode cX9_takePerson 31 = .ok (.invokevirtual 123, 3) := by decide +kernel
theorem dX9_takePerson_34 : decode cX9_takePerson 34 = .ok (.ifnull 7, 3) := by decide +kernel
theorem dX9_takePerson_37 : decode cX9_takePerson 37 = .ok (.iconst 1, 1) := by decide +kernel
theorem dX9_takePerson_38 : decode cX9_takePerson 38 = .ok (.goto 4, 3) := by decide +kernel
theorem dX9_takePerson_41 : decode cX9_takePerson 41 = .ok (.iconst 0, 1) := by decide +kernel
theorem dX9_takePerson_42 : decode cX9_takePerson 42 = .ok (.ireturn, 1) := by decide +kernel
theorem dX9_takeTwoSpans_0 : decode cX9_takeTwoSpans 0 = .ok (.aload_n 0, 1) := by decide +kernel
theorem dX9_takeTwoSpans_1 : decode cX9_takeTwoSpans 1 = .ok (.bipush 10, 2) := by decide +kernel
theorem dX9_takeTwoSpans_3 : decode cX9_takeTwoSpans 3 = .ok (.sipush 200, 3) := by decide +kernel
theorem dX9_takeTwoSpans_6 : decode cX9_takeTwoSpans 6 = .ok (.invokevirtual 111, 3) := by decide +kernel
theorem dX9_takeTwoSpans_9 : decode cX9_takeTwoSpans 9 = .ok (.ifCond .ne 5, 3) := by decide +kernel
theorem dX9_takeTwoSpans_12 : decode cX9_takeTwoSpans 12 = .ok (.iconst 0, 1) := by decide +kernel
theorem dX9_takeTwoSpans_13 : decode cX9_takeTwoSpans 13 = .ok (.ireturn, 1) := by decide +kernel
theorem dX9_takeTwoSpans_14 : decode cX9_takeTwoSpans 14 = .ok (.aload_n 0, 1) := by decide +kernel
theorem dX9_takeTwoSpans_15 : decode cX9_takeTwoSpans 15 = .ok (.aload_n 0, 1) := by decide +kernel
theorem dX9_takeTwoSpans_16 : decode cX9_takeTwoSpans 16 = .ok (.getfield 115, 3) := by decide +kernel
theorem dX9_takeTwoSpans_19 : decode cX9_takeTwoSpans 19 = .ok (.putfield 95, 3) := by decide +kernel
theorem dX9_takeTwoSpans_22 : decode cX9_takeTwoSpans 22 = .ok (.aload_n 0, 1) := by decide +kernel
theorem dX9_takeTwoSpans_23 : decode cX9_takeTwoSpans 23 = .ok (.invokevirtual 22, 3) := by decide +kernel
theorem dX9_takeTwoSpans_26 : decode cX9_takeTwoSpans 26 = .ok (.aload_n 0, 1) := by decide +kernel
theorem dX9_takeTwoSpans_27 : decode cX9_takeTwoSpans 27 = .ok (.bipush 10, 2) := by decide +kernel
theorem dX9_takeTwoSpans_29 : decode cX9_takeTwoSpans 29 = .ok (.sipush 200, 3) := by decide +kernel
theorem dX9_takeTwoSpans_32 : decode cX9_takeTwoSpans 32 = .ok (.invokevirtual 111, 3) := by decide +kernel
theorem dX9_takeTwoSpans_35 : decode cX9_takeTwoSpans 35 = .ok (.ifCond .ne 5, 3) := by decide +kernel
theorem dX9_takeTwoSpans_38 : decode cX9_takeTwoSpans 38 = .ok (.iconst 0, 1) := by decide +kernel
theorem dX9_takeTwoSpans_39 : decode cX9_takeTwoSpans 39 = .ok (.ireturn, 1) := by decide +kernel
theorem dX9_takeTwoSpans_40 : decode cX9_takeTwoSpans 40 = .ok (.aload_n 0, 1) := by decide +kernel
theorem dX9_takeTwoSpans_41 : decode cX9_takeTwoSpans 41 = .ok (.aload_n 0, 1) := by decide +kernel
theorem dX9_takeTwoSpans_42 : decode cX9_takeTwoSpans 42 = .ok (.getfield 115, 3) := by decide +kernel
theorem dX9_takeTwoSpans_45 : decode cX9_takeTwoSpans 45 = .ok (.putfield 103, 3) := by decide +kernel
theorem dX9_takeTwoSpans_48 : decode cX9_takeTwoSpans 48 = .ok (.aload_n 0, 1) := by decide +kernel
theorem dX9_takeTwoSpans_49 : decode cX9_takeTwoSpans 49 = .ok (.invokevirtual 22, 3) := by decide +kernel
theorem dX9_takeTwoSpans_52 : decode cX9_takeTwoSpans 52 = .ok (.iconst 1, 1) := by decide +kernel
theorem dX9_takeTwoSpans_53 : decode cX9_takeTwoSpans 53 = .ok (.ireturn, 1) := by decide +kernel
theorem dX9_takeDegrees_0 : decode cX9_takeDegrees 0 = .ok (.aload_n 0, 1) := by decide +kernel
theorem dX9_takeDegrees_1 : decode cX9_takeDegrees 1 = .ok (.invokevirtual 22, 3) := by decide +kernel
theorem dX9_takeDegrees_4 : decode cX9_takeDegrees 4 = .ok (.aload_n 0, 1) := by decide +kernel
theorem dX9_takeDegrees_5 : decode cX9_takeDegrees 5 = .ok (.bipush 20, 2) := by decide +kernel
theorem dX9_takeDegrees_7 : decode cX9_takeDegrees 7 = .ok (.bipush 95, 2) := by decide +kernel
theorem dX9_takeDegrees_9 : decode cX9_takeDegrees 9 = .ok (.invokevirtual 111, 3) := by decide +kernel
theorem dX9_takeDegrees_12 : decode cX9_takeDegrees 12 = .ok (.ifCond .ne 5, 3) := by decide +kernel
theorem dX9_takeDegrees_15 : decode cX9_takeDegrees 15 = .ok (.iconst 0, 1) := by decide +kernel
theorem dX9_takeDegrees_16 : decode cX9_takeDegrees 16 = .ok (.ireturn, 1) := by decide +kernel
theorem dX9_takeDegrees_17 : decode cX9_takeDegrees 17 = .ok (.aload_n 1, 1) := by decide +kernel
theorem dX9_takeDegrees_18 : decode cX9_takeDegrees 18 = .ok (.aload_n 0, 1) := by decide +kernel
theorem dX9_takeDegrees_19 : decode cX9_takeDegrees 19 = .ok (.getfield 115, 3) := by decide +kernel
theorem dX9_takeDegrees_22 : decode cX9_takeDegrees 22 = .ok (.putfield 127, 3) := by decide +kernel
theorem dX9_takeDegrees_25 : decode cX9_takeDegrees 25 = .ok (.aload_n 0, 1) := by decide +kernel
theorem dX9_takeDegrees_26 : decode cX9_takeDegrees 26 = .ok (.invokevirtual 22, 3) := by decide +kernel
theorem dX9_takeDegrees_29 : decode cX9_takeDegrees 29 = .ok (.iconst 1, 1) := by decide +kernel
theorem dX9_takeDegrees_30 : decode cX9_takeDegrees 30 = .ok (.ireturn, 1) := by decide +kernel
theorem dX9_takeWash_0 : decode cX9_takeWash 0 = .ok (.aload_n 0, 1) := by decide +kernel
theorem dX9_takeWash_1 : decode cX9_takeWash 1 = .ok (.invokevirtual 22, 3) := by decide +kernel
theorem dX9_takeWash_4 : decode cX9_takeWash 4 = .ok (.aload_n 0, 1) := by decide +kernel
theorem dX9_takeWash_5 : decode cX9_takeWash 5 = .ok (.getfield 29, 3) := by decide +kernel
theorem dX9_takeWash_8 : decode cX9_takeWash 8 = .ok (.iconst 2, 1) := by decide +kernel
theorem dX9_takeWash_9 : decode cX9_takeWash 9 = .ok (.if_icmp .eq 5, 3) := by decide +kernel
theorem dX9_takeWash_12 : decode cX9_takeWash 12 = .ok (.iconst 0, 1) := by decide +kernel
theorem dX9_takeWash_13 : decode cX9_takeWash 13 = .ok (.ireturn, 1) := by decide +kernel
theorem dX9_takeWash_14 : decode cX9_takeWash 14 = .ok (.aload_n 1, 1) := by decide +kernel
theorem dX9_takeWash_15 : decode cX9_takeWash 15 = .ok (.aload_n 0, 1) := by decide +kernel
theorem dX9_takeWash_16 : decode cX9_takeWash 16 = .ok (.getfield 115, 3) := by decide +kernel
theorem dX9_takeWash_19 : decode cX9_takeWash 19 = .ok (.invokevirtual 129, 3) := by decide +kernel
theorem dX9_takeWash_22 : decode cX9_takeWash 22 = .ok (.astore_n 2, 1) := by decide +kernel
theorem dX9_takeWash_23 : decode cX9_takeWash 23 = .ok (.aload_n 2, 1) := by decide +kernel
theorem dX9_takeWash_24 : decode cX9_takeWash 24 = .ok (.ifnonnull 5, 3) := by decide +kernel
theorem dX9_takeWash_27 : decode cX9_takeWash 27 = .ok (.iconst 0, 1) := by decide +kernel
theorem dX9_takeWash_28 : decode cX9_takeWash 28 = .ok (.ireturn, 1) := by decide +kernel
theorem dX9_takeWash_29 : decode cX9_takeWash 29 = .ok (.aload_n 2, 1) := by decide +kernel
theorem dX9_takeWash_30 : decode cX9_takeWash 30 = .ok (.aload_n 1, 1) := by decide +kernel
theorem dX9_takeWash_31 : decode cX9_takeWash 31 = .ok (.getfield 127, 3) := by decide +kernel
theorem dX9_takeWash_34 : decode cX9_takeWash 34 = .ok (.aload_n 1, 1) := by decide +kernel
theorem dX9_takeWash_35 : decode cX9_takeWash 35 = .ok (.getfield 73, 3) := by decide +kernel
theorem dX9_takeWash_38 : decode cX9_takeWash 38 = .ok (.invokevirtual 132, 3) := by decide +kernel
theorem dX9_takeWash_41 : decode cX9_takeWash 41 = .ok (.aload_n 0, 1) := by decide +kernel
theorem dX9_takeWash_42 : decode cX9_takeWash 42 = .ok (.invokevirtual 22, 3) := by decide +kernel
theorem dX9_takeWash_45 : decode cX9_takeWash 45 = .ok (.iconst 1, 1) := by decide +kernel
theorem dX9_takeWash_46 : decode cX9_takeWash 46 = .ok (.ireturn, 1) := by decide +kernel
theorem dX9_isNumber_0 : decode cX9_isNumber 0 = .ok (.aload_n 0, 1) := by decide +kernel
theorem dX9_isNumber_1 : decode cX9_isNumber 1 = .ok (.getfield 29, 3) := by decide +kernel
theorem dX9_isNumber_4 : decode cX9_isNumber 4 = .ok (.iconst 2, 1) := by decide +kernel
theorem dX9_isNumber_5 : decode cX9_isNumber 5 = .ok (.if_icmp .ne 19, 3) := by decide +kernel
theorem dX9_isNumber_8 : decode cX9_isNumber 8 = .ok (.aload_n 0, 1) := by decide +kernel
theorem dX9_isNumber_9 : decode cX9_isNumber 9 = .ok (.getfield 115, 3) := by decide +kernel
theorem dX9_isNumber_12 : decode cX9_isNumber 12 = .ok (.iload_n 1, 1) := by decide +kernel
theorem dX9_isNumber_13 : decode cX9_isNumber 13 = .ok (.iload_n 2, 1) := by decide +kernel
theorem dX9_isNumber_14 : decode cX9_isNumber 14 = .ok (.invokestatic 136, 3) := by decide +kernel
theorem dX9_isNumber_17 : decode cX9_isNumber 17 = .ok (.ifCond .eq 7, 3) := by decide +kernel
theorem dX9_isNumber_20 : decode cX9_isNumber 20 = .ok (.iconst 1, 1) := by decide +kernel
theorem dX9_isNumber_21 : decode cX9_isNumber 21 = .ok (.goto 4, 3) := by decide +kernel
theorem dX9_isNumber_24 : decode cX9_isNumber 24 = .ok (.iconst 0, 1) := by decide +kernel
theorem dX9_isNumber_25 : decode cX9_isNumber 25 = .ok (.ireturn, 1) := by decide +kernel
theorem dX9_isWord_0 : decode cX9_isWord 0 = .ok (.aload_n 0, 1) := by decide +kernel
theorem dX9_isWord_1 : decode cX9_isWord 1 = .ok (.getfield 29, 3) := by decide +kernel
theorem dX9_isWord_4 : decode cX9_isWord 4 = .ok (.iconst 1, 1) := by decide +kernel
theorem dX9_isWord_5 : decode cX9_isWord 5 = .ok (.if_icmp .ne 19, 3) := by decide +kernel
theorem dX9_isWord_8 : decode cX9_isWord 8 = .ok (.aload_n 0, 1) := by decide +kernel
theorem dX9_isWord_9 : decode cX9_isWord 9 = .ok (.getfield 19, 3) := by decide +kernel
theorem dX9_isWord_12 : decode cX9_isWord 12 = .ok (.aload_n 0, 1) := by decide +kernel
theorem dX9_isWord_13 : decode cX9_isWord 13 = .ok (.getfield 32, 3) := by decide +kernel
theorem dX9_isWord_16 : decode cX9_isWord 16 = .ok (.isub, 1) := by decide +kernel
theorem dX9_isWord_17 : decode cX9_isWord 17 = .ok (.aload_n 1, 1) := by decide +kernel
theorem dX9_isWord_18 : decode cX9_isWord 18 = .ok (.invokevirtual 140, 3) := by decide +kernel
theorem dX9_isWord_21 : decode cX9_isWord 21 = .ok (.if_icmp .eq 5, 3) := by decide +kernel
theorem dX9_isWord_24 : decode cX9_isWord 24 = .ok (.iconst 0, 1) := by decide +kernel
theorem dX9_isWord_25 : decode cX9_isWord 25 = .ok (.ireturn, 1) := by decide +kernel
theorem dX9_isWord_26 : decode cX9_isWord 26 = .ok (.iconst 0, 1) := by decide +kernel
theorem dX9_isWord_27 : decode cX9_isWord 27 = .ok (.istore_n 2, 1) := by decide +kernel
theorem dX9_isWord_28 : decode cX9_isWord 28 = .ok (.iload_n 2, 1) := by decide +kernel
theorem dX9_isWord_29 : decode cX9_isWord 29 = .ok (.aload_n 1, 1) := by decide +kernel
theorem dX9_isWord_30 : decode cX9_isWord 30 = .ok (.invokevirtual 140, 3) := by decide +kernel
theorem dX9_isWord_33 : decode cX9_isWord 33 = .ok (.if_icmp .ge 29, 3) := by decide +kernel
theorem dX9_isWord_36 : decode cX9_isWord 36 = .ok (.aload_n 0, 1) := by decide +kernel
theorem dX9_isWord_37 : decode cX9_isWord 37 = .ok (.aload_n 0, 1) := by decide +kernel
theorem dX9_isWord_38 : decode cX9_isWord 38 = .ok (.getfield 32, 3) := by decide +kernel
theorem dX9_isWord_41 : decode cX9_isWord 41 = .ok (.iload_n 2, 1) := by decide +kernel
theorem dX9_isWord_42 : decode cX9_isWord 42 = .ok (.iadd, 1) := by decide +kernel
theorem dX9_isWord_43 : decode cX9_isWord 43 = .ok (.invokevirtual 144, 3) := by decide +kernel
theorem dX9_isWord_46 : decode cX9_isWord 46 = .ok (.aload_n 1, 1) := by decide +kernel
theorem dX9_isWord_47 : decode cX9_isWord 47 = .ok (.iload_n 2, 1) := by decide +kernel
theorem dX9_isWord_48 : decode cX9_isWord 48 = .ok (.invokevirtual 148, 3) := by decide +kernel
theorem dX9_isWord_51 : decode cX9_isWord 51 = .ok (.if_icmp .eq 5, 3) := by decide +kernel
theorem dX9_isWord_54 : decode cX9_isWord 54 = .ok (.iconst 0, 1) := by decide +kernel
theorem dX9_isWord_55 : decode cX9_isWord 55 = .ok (.ireturn, 1) := by decide +kernel
theorem dX9_isWord_56 : decode cX9_isWord 56 = .ok (.iinc 2 1, 3) := by decide +kernel
theorem dX9_isWord_59 : decode cX9_isWord 59 = .ok (.goto (-31), 3) := by decide +kernel
theorem dX9_isWord_62 : decode cX9_isWord 62 = .ok (.iconst 1, 1) := by decide +kernel
theorem dX9_isWord_63 : decode cX9_isWord 63 = .ok (.ireturn, 1) := by decide +kernel
theorem dX9_nextToken_0 : decode cX9_nextToken 0 = .ok (.aload_n 0, 1) := by decide +kernel
theorem dX9_nextToken_1 : decode cX9_nextToken 1 = .ok (.aload_n 0, 1) := by decide +kernel
theorem dX9_nextToken_2 : decode cX9_nextToken 2 = .ok (.getfield 19, 3) := by decide +kernel
theorem dX9_nextToken_5 : decode cX9_nextToken 5 = .ok (.putfield 32, 3) := by decide +kernel
theorem dX9_nextToken_8 : decode cX9_nextToken 8 = .ok (.aload_n 0, 1) := by decide +kernel
theorem dX9_nextToken_9 : decode cX9_nextToken 9 = .ok (.getfield 32, 3) := by decide +kernel
theorem dX9_nextToken_12 : decode cX9_nextToken 12 = .ok (.aload_n 0, 1) := by decide +kernel
theorem dX9_nextToken_13 : decode cX9_nextToken 13 = .ok (.getfield 15, 3) := by decide +kernel
theorem dX9_nextToken_16 : decode cX9_nextToken 16 = .ok (.if_icmp .ge 29, 3) := by decide +kernel
theorem dX9_nextToken_19 : decode cX9_nextToken 19 = .ok (.aload_n 0, 1) := by decide +kernel
theorem dX9_nextToken_20 : decode cX9_nextToken 20 = .ok (.aload_n 0, 1) := by decide +kernel
theorem dX9_nextToken_21 : decode cX9_nextToken 21 = .ok (.getfield 32, 3) := by decide +kernel
theorem dX9_nextToken_24 : decode cX9_nextToken 24 = .ok (.invokevirtual 144, 3) := by decide +kernel
theorem dX9_nextToken_27 : decode cX9_nextToken 27 = .ok (.bipush 32, 2) := by decide +kernel
theorem dX9_nextToken_29 : decode cX9_nextToken 29 = .ok (.if_icmp .ne 16, 3) := by decide +kernel
theorem dX9_nextToken_32 : decode cX9_nextToken 32 = .ok (.aload_n 0, 1) := by decide +kernel
theorem dX9_nextToken_33 : decode cX9_nextToken 33 = .ok (.dup, 1) := by decide +kernel
theorem dX9_nextToken_34 : decode cX9_nextToken 34 = .ok (.getfield 32, 3) := by decide +kernel
theorem dX9_nextToken_37 : decode cX9_nextToken 37 = .ok (.iconst 1, 1) := by decide +kernel
theorem dX9_nextToken_38 : decode cX9_nextToken 38 = .ok (.iadd, 1) := by decide +kernel
theorem dX9_nextToken_39 : decode cX9_nextToken 39 = .ok (.putfield 32, 3) := by decide +kernel
theorem dX9_nextToken_42 : decode cX9_nextToken 42 = .ok (.goto (-34), 3) := by decide +kernel
theorem dX9_nextToken_45 : decode cX9_nextToken 45 = .ok (.aload_n 0, 1) := by decide +kernel
theorem dX9_nextToken_46 : decode cX9_nextToken 46 = .ok (.aload_n 0, 1) := by decide +kernel
theorem dX9_nextToken_47 : decode cX9_nextToken 47 = .ok (.getfield 32, 3) := by decide +kernel
theorem dX9_nextToken_50 : decode cX9_nextToken 50 = .ok (.putfield 19, 3) := by decide +kernel
theorem dX9_nextToken_53 : decode cX9_nextToken 53 = .ok (.aload_n 0, 1) := by decide +kernel
theorem dX9_nextToken_54 : decode cX9_nextToken 54 = .ok (.getfield 32, 3) := by decide +kernel
theorem dX9_nextToken_57 : decode cX9_nextToken 57 = .ok (.aload_n 0, 1) := by decide +kernel
theorem dX9_nextToken_58 : decode cX9_nextToken 58 = .ok (.getfield 15, 3) := by decide +kernel
theorem dX9_nextToken_61 : decode cX9_nextToken 61 = .ok (.if_icmp .lt 11, 3) := by decide +kernel
theorem dX9_nextToken_64 : decode cX9_nextToken 64 = .ok (.aload_n 0, 1) := by decide +kernel
theorem dX9_nextToken_65 : decode cX9_nextToken 65 = .ok (.iconst 0, 1) := by decide +kernel
theorem dX9_nextToken_66 : decode cX9_nextToken 66 = .ok (.putfield 29, 3) := by decide +kernel
theorem dX9_nextToken_69 : decode cX9_nextToken 69 = .ok (.goto 183, 3) := by decide +kernel
theorem dX9_nextToken_72 : decode cX9_nextToken 72 = .ok (.aload_n 0, 1) := by decide +kernel
theorem dX9_nextToken_73 : decode cX9_nextToken 73 = .ok (.aload_n 0, 1) := by decide +kernel
theorem dX9_nextToken_74 : decode cX9_nextToken 74 = .ok (.getfield 32, 3) := by decide +kernel
theorem dX9_nextToken_77 : decode cX9_nextToken 77 = .ok (.invokevirtual 144, 3) := by decide +kernel
theorem dX9_nextToken_80 : decode cX9_nextToken 80 = .ok (.invokestatic 152, 3) := by decide +kernel
theorem dX9_nextToken_83 : decode cX9_nextToken 83 = .ok (.ifCond .eq 46, 3) := by decide +kernel
theorem dX9_nextToken_86 : decode cX9_nextToken 86 = .ok (.aload_n 0, 1) := by decide +kernel
theorem dX9_nextToken_87 : decode cX9_nextToken 87 = .ok (.iconst 1, 1) := by decide +kernel
theorem dX9_nextToken_88 : decode cX9_nextToken 88 = .ok (.putfield 29, 3) := by decide +kernel
theorem dX9_nextToken_91 : decode cX9_nextToken 91 = .ok (.aload_n 0, 1) := by decide +kernel
theorem dX9_nextToken_92 : decode cX9_nextToken 92 = .ok (.getfield 19, 3) := by decide +kernel
theorem dX9_nextToken_95 : decode cX9_nextToken 95 = .ok (.aload_n 0, 1) := by decide +kernel
theorem dX9_nextToken_96 : decode cX9_nextToken 96 = .ok (.getfield 15, 3) := by decide +kernel
theorem dX9_nextToken_99 : decode cX9_nextToken 99 = .ok (.if_icmp .ge 153, 3) := by decide +kernel
theorem dX9_nextToken_102 : decode cX9_nextToken 102 = .ok (.aload_n 0, 1) := by decide +kernel
theorem dX9_nextToken_103 : decode cX9_nextToken 103 = .ok (.aload_n 0, 1) := by decide +kernel
theorem dX9_nextToken_104 : decode cX9_nextToken 104 = .ok (.getfield 19, 3) := by decide +kernel
theorem dX9_nextToken_107 : decode cX9_nextToken 107 = .ok (.invokevirtual 144, 3) := by decide +kernel
theorem dX9_nextToken_110 : decode cX9_nextToken 110 = .ok (.invokestatic 152, 3) := by decide +kernel
theorem dX9_nextToken_113 : decode cX9_nextToken 113 = .ok (.ifCond .eq 139, 3) := by decide +kernel
theorem dX9_nextToken_116 : decode cX9_nextToken 116 = .ok (.aload_n 0, 1) := by decide +kernel
theorem dX9_nextToken_117 : decode cX9_nextToken 117 = .ok (.dup, 1) := by decide +kernel
theorem dX9_nextToken_118 : decode cX9_nextToken 118 = .ok (.getfield 19, 3) := by decide +kernel
theorem dX9_nextToken_121 : decode cX9_nextToken 121 = .ok (.iconst 1, 1) := by decide +kernel
theorem dX9_nextToken_122 : decode cX9_nextToken 122 = .ok (.iadd, 1) := by decide +kernel
theorem dX9_nextToken_123 : decode cX9_nextToken 123 = .ok (.putfield 19, 3) := by decide +kernel
theorem dX9_nextToken_126 : decode cX9_nextToken 126 = .ok (.goto (-35), 3) := by decide +kernel
theorem dX9_nextToken_129 : decode cX9_nextToken 129 = .ok (.aload_n 0, 1) := by decide +kernel
theorem dX9_nextToken_130 : decode cX9_nextToken 130 = .ok (.aload_n 0, 1) := by decide +kernel
theorem dX9_nextToken_131 : decode cX9_nextToken 131 = .ok (.getfield 32, 3) := by decide +kernel
theorem dX9_nextToken_134 : decode cX9_nextToken 134 = .ok (.invokevirtual 144, 3) := by decide +kernel
theorem dX9_nextToken_137 : decode cX9_nextToken 137 = .ok (.invokestatic 156, 3) := by decide +kernel
theorem dX9_nextToken_140 : decode cX9_nextToken 140 = .ok (.ifCond .eq 80, 3) := by decide +kernel
theorem dX9_nextToken_143 : decode cX9_nextToken 143 = .ok (.aload_n 0, 1) := by decide +kernel
theorem dX9_nextToken_144 : decode cX9_nextToken 144 = .ok (.iconst 2, 1) := by decide +kernel
theorem dX9_nextToken_145 : decode cX9_nextToken 145 = .ok (.putfield 29, 3) := by decide +kernel
theorem dX9_nextToken_148 : decode cX9_nextToken 148 = .ok (.aload_n 0, 1) := by decide +kernel
theorem dX9_nextToken_149 : decode cX9_nextToken 149 = .ok (.iconst 0, 1) := by decide +kernel
theorem dX9_nextToken_150 : decode cX9_nextToken 150 = .ok (.putfield 115, 3) := by decide +kernel
theorem dX9_nextToken_153 : decode cX9_nextToken 153 = .ok (.aload_n 0, 1) := by decide +kernel
theorem dX9_nextToken_154 : decode cX9_nextToken 154 = .ok (.getfield 19, 3) := by decide +kernel
theorem dX9_nextToken_157 : decode cX9_nextToken 157 = .ok (.aload_n 0, 1) := by decide +kernel
theorem dX9_nextToken_158 : decode cX9_nextToken 158 = .ok (.getfield 15, 3) := by decide +kernel
theorem dX9_nextToken_161 : decode cX9_nextToken 161 = .ok (.if_icmp .ge 91, 3) := by decide +kernel
theorem dX9_nextToken_164 : decode cX9_nextToken 164 = .ok (.aload_n 0, 1) := by decide +kernel
theorem dX9_nextToken_165 : decode cX9_nextToken 165 = .ok (.aload_n 0, 1) := by decide +kernel
theorem dX9_nextToken_166 : decode cX9_nextToken 166 = .ok (.getfield 19, 3) := by decide +kernel
theorem dX9_nextToken_169 : decode cX9_nextToken 169 = .ok (.invokevirtual 144, 3) := by decide +kernel
theorem dX9_nextToken_172 : decode cX9_nextToken 172 = .ok (.invokestatic 156, 3) := by decide +kernel
theorem dX9_nextToken_175 : decode cX9_nextToken 175 = .ok (.ifCond .eq 77, 3) := by decide +kernel
theorem dX9_nextToken_178 : decode cX9_nextToken 178 = .ok (.aload_n 0, 1) := by decide +kernel
theorem dX9_nextToken_179 : decode cX9_nextToken 179 = .ok (.sipush 1000, 3) := by decide +kernel
theorem dX9_nextToken_182 : decode cX9_nextToken 182 = .ok (.aload_n 0, 1) := by decide +kernel
theorem dX9_nextToken_183 : decode cX9_nextToken 183 = .ok (.getfield 115, 3) := by decide +kernel
theorem dX9_nextToken_186 : decode cX9_nextToken 186 = .ok (.bipush 10, 2) := by decide +kernel
theorem dX9_nextToken_188 : decode cX9_nextToken 188 = .ok (.imul, 1) := by decide +kernel
theorem dX9_nextToken_189 : decode cX9_nextToken 189 = .ok (.aload_n 0, 1) := by decide +kernel
theorem dX9_nextToken_190 : decode cX9_nextToken 190 = .ok (.aload_n 0, 1) := by decide +kernel
theorem dX9_nextToken_191 : decode cX9_nextToken 191 = .ok (.getfield 19, 3) := by decide +kernel
theorem dX9_nextToken_194 : decode cX9_nextToken 194 = .ok (.invokevirtual 144, 3) := by decide +kernel
theorem dX9_nextToken_197 : decode cX9_nextToken 197 = .ok (.iadd, 1) := by decide +kernel
theorem dX9_nextToken_198 : decode cX9_nextToken 198 = .ok (.bipush 48, 2) := by decide +kernel
theorem dX9_nextToken_200 : decode cX9_nextToken 200 = .ok (.isub, 1) := by decide +kernel
theorem dX9_nextToken_201 : decode cX9_nextToken 201 = .ok (.invokestatic 159, 3) := by decide +kernel
theorem dX9_nextToken_204 : decode cX9_nextToken 204 = .ok (.putfield 115, 3) := by decide +kernel
theorem dX9_nextToken_207 : decode cX9_nextToken 207 = .ok (.aload_n 0, 1) := by decide +kernel
theorem dX9_nextToken_208 : decode cX9_nextToken 208 = .ok (.dup, 1) := by decide +kernel
theorem dX9_nextToken_209 : decode cX9_nextToken 209 = .ok (.getfield 19, 3) := by decide +kernel
theorem dX9_nextToken_212 : decode cX9_nextToken 212 = .ok (.iconst 1, 1) := by decide +kernel
theorem dX9_nextToken_213 : decode cX9_nextToken 213 = .ok (.iadd, 1) := by decide +kernel
theorem dX9_nextToken_214 : decode cX9_nextToken 214 = .ok (.putfield 19, 3) := by decide +kernel
theorem dX9_nextToken_217 : decode cX9_nextToken 217 = .ok (.goto (-64), 3) := by decide +kernel
theorem dX9_nextToken_220 : decode cX9_nextToken 220 = .ok (.aload_n 0, 1) := by decide +kernel
theorem dX9_nextToken_221 : decode cX9_nextToken 221 = .ok (.aload_n 0, 1) := by decide +kernel
theorem dX9_nextToken_222 : decode cX9_nextToken 222 = .ok (.aload_n 0, 1) := by decide +kernel
theorem dX9_nextToken_223 : decode cX9_nextToken 223 = .ok (.getfield 32, 3) := by decide +kernel
theorem dX9_nextToken_226 : decode cX9_nextToken 226 = .ok (.invokevirtual 144, 3) := by decide +kernel
theorem dX9_nextToken_229 : decode cX9_nextToken 229 = .ok (.bipush 59, 2) := by decide +kernel
theorem dX9_nextToken_231 : decode cX9_nextToken 231 = .ok (.if_icmp .ne 7, 3) := by decide +kernel
theorem dX9_nextToken_234 : decode cX9_nextToken 234 = .ok (.iconst 3, 1) := by decide +kernel
theorem dX9_nextToken_235 : decode cX9_nextToken 235 = .ok (.goto 4, 3) := by decide +kernel
theorem dX9_nextToken_238 : decode cX9_nextToken 238 = .ok (.iconst 4, 1) := by decide +kernel
theorem dX9_nextToken_239 : decode cX9_nextToken 239 = .ok (.putfield 29, 3) := by decide +kernel
theorem dX9_nextToken_242 : decode cX9_nextToken 242 = .ok (.aload_n 0, 1) := by decide +kernel
theorem dX9_nextToken_243 : decode cX9_nextToken 243 = .ok (.aload_n 0, 1) := by decide +kernel
theorem dX9_nextToken_244 : decode cX9_nextToken 244 = .ok (.getfield 32, 3) := by decide +kernel
theorem dX9_nextToken_247 : decode cX9_nextToken 247 = .ok (.iconst 1, 1) := by decide +kernel
theorem dX9_nextToken_248 : decode cX9_nextToken 248 = .ok (.iadd, 1) := by decide +kernel
theorem dX9_nextToken_249 : decode cX9_nextToken 249 = .ok (.putfield 19, 3) := by decide +kernel
theorem dX9_nextToken_252 : decode cX9_nextToken 252 = .ok (.return_, 1) := by decide +kernel
theorem dX9_byteAt_0 : decode cX9_byteAt 0 = .ok (.iload_n 1, 1) := by decide +kernel
theorem dX9_byteAt_1 : decode cX9_byteAt 1 = .ok (.ifCond .lt 29, 3) := by decide +kernel
theorem dX9_byteAt_4 : decode cX9_byteAt 4 = .ok (.iload_n 1, 1) := by decide +kernel
theorem dX9_byteAt_5 : decode cX9_byteAt 5 = .ok (.aload_n 0, 1) := by decide +kernel
theorem dX9_byteAt_6 : decode cX9_byteAt 6 = .ok (.getfield 15, 3) := by decide +kernel
theorem dX9_byteAt_9 : decode cX9_byteAt 9 = .ok (.if_icmp .ge 21, 3) := by decide +kernel
theorem dX9_byteAt_12 : decode cX9_byteAt 12 = .ok (.iload_n 1, 1) := by decide +kernel
theorem dX9_byteAt_13 : decode cX9_byteAt 13 = .ok (.aload_n 0, 1) := by decide +kernel
theorem dX9_byteAt_14 : decode cX9_byteAt 14 = .ok (.getfield 9, 3) := by decide +kernel
theorem dX9_byteAt_17 : decode cX9_byteAt 17 = .ok (.arraylength, 1) := by decide +kernel
theorem dX9_byteAt_18 : decode cX9_byteAt 18 = .ok (.if_icmp .ge 12, 3) := by decide +kernel
theorem dX9_byteAt_21 : decode cX9_byteAt 21 = .ok (.aload_n 0, 1) := by decide +kernel
theorem dX9_byteAt_22 : decode cX9_byteAt 22 = .ok (.getfield 9, 3) := by decide +kernel
theorem dX9_byteAt_25 : decode cX9_byteAt 25 = .ok (.iload_n 1, 1) := by decide +kernel
theorem dX9_byteAt_26 : decode cX9_byteAt 26 = .ok (.baload, 1) := by decide +kernel
theorem dX9_byteAt_27 : decode cX9_byteAt 27 = .ok (.goto 4, 3) := by decide +kernel
theorem dX9_byteAt_30 : decode cX9_byteAt 30 = .ok (.iconst (-1), 1) := by decide +kernel
theorem dX9_byteAt_31 : decode cX9_byteAt 31 = .ok (.ireturn, 1) := by decide +kernel
theorem dX9_isLetter_0 : decode cX9_isLetter 0 = .ok (.iload_n 0, 1) := by decide +kernel
theorem dX9_isLetter_1 : decode cX9_isLetter 1 = .ok (.bipush 97, 2) := by decide +kernel
theorem dX9_isLetter_3 : decode cX9_isLetter 3 = .ok (.if_icmp .lt 13, 3) := by decide +kernel
theorem dX9_isLetter_6 : decode cX9_isLetter 6 = .ok (.iload_n 0, 1) := by decide +kernel
theorem dX9_isLetter_7 : decode cX9_isLetter 7 = .ok (.bipush 122, 2) := by decide +kernel
theorem dX9_isLetter_9 : decode cX9_isLetter 9 = .ok (.if_icmp .gt 7, 3) := by decide +kernel
theorem dX9_isLetter_12 : decode cX9_isLetter 12 = .ok (.iconst 1, 1) := by decide +kernel
theorem dX9_isLetter_13 : decode cX9_isLetter 13 = .ok (.goto 4, 3) := by decide +kernel
theorem dX9_isLetter_16 : decode cX9_isLetter 16 = .ok (.iconst 0, 1) := by decide +kernel
theorem dX9_isLetter_17 : decode cX9_isLetter 17 = .ok (.ireturn, 1) := by decide +kernel
theorem dX9_isDigit_0 : decode cX9_isDigit 0 = .ok (.iload_n 0, 1) := by decide +kernel
theorem dX9_isDigit_1 : decode cX9_isDigit 1 = .ok (.bipush 48, 2) := by decide +kernel
theorem dX9_isDigit_3 : decode cX9_isDigit 3 = .ok (.if_icmp .lt 13, 3) := by decide +kernel
theorem dX9_isDigit_6 : decode cX9_isDigit 6 = .ok (.iload_n 0, 1) := by decide +kernel
theorem dX9_isDigit_7 : decode cX9_isDigit 7 = .ok (.bipush 57, 2) := by decide +kernel
theorem dX9_isDigit_9 : decode cX9_isDigit 9 = .ok (.if_icmp .gt 7, 3) := by decide +kernel
theorem dX9_isDigit_12 : decode cX9_isDigit 12 = .ok (.iconst 1, 1) := by decide +kernel
theorem dX9_isDigit_13 : decode cX9_isDigit 13 = .ok (.goto 4, 3) := by decide +kernel
theorem dX9_isDigit_16 : decode cX9_isDigit 16 = .ok (.iconst 0, 1) := by decide +kernel
theorem dX9_isDigit_17 : decode cX9_isDigit 17 = .ok (.ireturn, 1) := by decide +kernel
theorem dX10_init_0 : decode cX10_init 0 = .ok (.aload_n 0, 1) := by decide +kernel
theorem dX10_init_1 : decode cX10_init 1 = .ok (.iload_n 1, 1) := by decide +kernel
theorem dX10_init_2 : decode cX10_init 2 = .ok (.aload_n 2, 1) := by decide +kernel
theorem dX10_init_3 : decode cX10_init 3 = .ok (.invokespecial 1, 3) := by decide +kernel
theorem dX10_init_6 : decode cX10_init 6 = .ok (.return_, 1) := by decide +kernel
theorem dX10_shrinks_0 : decode cX10_shrinks 0 = .ok (.iload_n 1, 1) := by decide +kernel
theorem dX10_shrinks_1 : decode cX10_shrinks 1 = .ok (.bipush 40, 2) := by decide +kernel
theorem dX10_shrinks_3 : decode cX10_shrinks 3 = .ok (.if_icmp .le 12, 3) := by decide +kernel
theorem dX10_shrinks_6 : decode cX10_shrinks 6 = .ok (.iload_n 1, 1) := by decide +kernel
theorem dX10_shrinks_7 : decode cX10_shrinks 7 = .ok (.bipush 40, 2) := by decide +kernel
theorem dX10_shrinks_9 : decode cX10_shrinks 9 = .ok (.isub, 1) := by decide +kernel
theorem dX10_shrinks_10 : decode cX10_shrinks 10 = .ok (.iconst 2, 1) := by decide +kernel
theorem dX10_shrinks_11 : decode cX10_shrinks 11 = .ok (.idiv, 1) := by decide +kernel
theorem dX10_shrinks_12 : decode cX10_shrinks 12 = .ok (.goto 4, 3) := by decide +kernel
theorem dX10_shrinks_15 : decode cX10_shrinks 15 = .ok (.iconst 0, 1) := by decide +kernel
theorem dX10_shrinks_16 : decode cX10_shrinks 16 = .ok (.ireturn, 1) := by decide +kernel
theorem dX10_felts_0 : decode cX10_felts 0 = .ok (.iload_n 1, 1) := by decide +kernel
theorem dX10_felts_1 : decode cX10_felts 1 = .ok (.iconst 3, 1) := by decide +kernel
theorem dX10_felts_2 : decode cX10_felts 2 = .ok (.idiv, 1) := by decide +kernel
theorem dX10_felts_3 : decode cX10_felts 3 = .ok (.ireturn, 1) := by decide +kernel
theorem dX10_bears_0 : decode cX10_bears 0 = .ok (.aload_n 0, 1) := by decide +kernel
theorem dX10_bears_1 : decode cX10_bears 1 = .ok (.iload_n 1, 1) := by decide +kernel
theorem dX10_bears_2 : decode cX10_bears 2 = .ok (.iload_n 2, 1) := by decide +kernel
theorem dX10_bears_3 : decode cX10_bears 3 = .ok (.invokespecial 7, 3) := by decide +kernel
theorem dX10_bears_6 : decode cX10_bears 6 = .ok (.iload_n 1, 1) := by decide +kernel
theorem dX10_bears_7 : decode cX10_bears 7 = .ok (.iconst 4, 1) := by decide +kernel
theorem dX10_bears_8 : decode cX10_bears 8 = .ok (.idiv, 1) := by decide +kernel
theorem dX10_bears_9 : decode cX10_bears 9 = .ok (.iadd, 1) := by decide +kernel
theorem dX10_bears_10 : decode cX10_bears 10 = .ok (.ireturn, 1) := by decide +kernel
theorem dX11_init_0 : decode cX11_init 0 = .ok (.aload_n 0, 1) := by decide +kernel
theorem dX11_init_1 : decode cX11_init 1 = .ok (.invokespecial 1, 3) := by decide +kernel
theorem dX11_init_4 : decode cX11_init 4 = .ok (.invokestatic 7, 3) := by decide +kernel
theorem dX11_init_7 : decode cX11_init 7 = .ok (.astore_n 1, 1) := by decide +kernel
theorem dX11_init_8 : decode cX11_init 8 = .ok (.aload_n 0, 1) := by decide +kernel
theorem dX11_init_9 : decode cX11_init 9 = .ok (.new 13, 3) := by decide +kernel
theorem dX11_init_12 : decode cX11_init 12 = .ok (.dup, 1) := by decide +kernel
theorem dX11_init_13 : decode cX11_init 13 = .ok (.aload_n 1, 1) := by decide +kernel
theorem dX11_init_14 : decode cX11_init 14 = .ok (.invokespecial 15, 3) := by decide +kernel
theorem dX11_init_17 : decode cX11_init 17 = .ok (.putfield 18, 3) := by decide +kernel
theorem dX11_init_20 : decode cX11_init 20 = .ok (.aload_n 0, 1) := by decide +kernel
theorem dX11_init_21 : decode cX11_init 21 = .ok (.new 13, 3) := by decide +kernel
theorem dX11_init_24 : decode cX11_init 24 = .ok (.dup, 1) := by decide +kernel
theorem dX11_init_25 : decode cX11_init 25 = .ok (.aload_n 1, 1) := by decide +kernel
theorem dX11_init_26 : decode cX11_init 26 = .ok (.invokespecial 15, 3) := by decide +kernel
theorem dX11_init_29 : decode cX11_init 29 = .ok (.putfield 24, 3) := by decide +kernel
theorem dX11_init_32 : decode cX11_init 32 = .ok (.aload_n 0, 1) := by decide +kernel
theorem dX11_init_33 : decode cX11_init 33 = .ok (.new 13, 3) := by decide +kernel
theorem dX11_init_36 : decode cX11_init 36 = .ok (.dup, 1) := by decide +kernel
theorem dX11_init_37 : decode cX11_init 37 = .ok (.aload_n 1, 1) := by decide +kernel
theorem dX11_init_38 : decode cX11_init 38 = .ok (.invokespecial 15, 3) := by decide +kernel
theorem dX11_init_41 : decode cX11_init 41 = .ok (.putfield 27, 3) := by decide +kernel
theorem dX11_init_44 : decode cX11_init 44 = .ok (.aload_n 0, 1) := by decide +kernel
theorem dX11_init_45 : decode cX11_init 45 = .ok (.new 30, 3) := by decide +kernel
theorem dX11_init_48 : decode cX11_init 48 = .ok (.dup, 1) := by decide +kernel
theorem dX11_init_49 : decode cX11_init 49 = .ok (.aload_n 1, 1) := by decide +kernel
theorem dX11_init_50 : decode cX11_init 50 = .ok (.iconst 0, 1) := by decide +kernel
theorem dX11_init_51 : decode cX11_init 51 = .ok (.aaload, 1) := by decide +kernel
theorem dX11_init_52 : decode cX11_init 52 = .ok (.invokespecial 32, 3) := by decide +kernel
theorem dX11_init_55 : decode cX11_init 55 = .ok (.putfield 35, 3) := by decide +kernel
theorem dX11_init_58 : decode cX11_init 58 = .ok (.aload_n 0, 1) := by decide +kernel
theorem dX11_init_59 : decode cX11_init 59 = .ok (.new 39, 3) := by decide +kernel
theorem dX11_init_62 : decode cX11_init 62 = .ok (.dup, 1) := by decide +kernel
theorem dX11_init_63 : decode cX11_init 63 = .ok (.invokespecial 41, 3) := by decide +kernel
theorem dX11_init_66 : decode cX11_init 66 = .ok (.putfield 42, 3) := by decide +kernel
theorem dX11_init_69 : decode cX11_init 69 = .ok (.aload_n 0, 1) := by decide +kernel
theorem dX11_init_70 : decode cX11_init 70 = .ok (.iconst 4, 1) := by decide +kernel
theorem dX11_init_71 : decode cX11_init 71 = .ok (.anewarray 46, 3) := by decide +kernel
theorem dX11_init_74 : decode cX11_init 74 = .ok (.putfield 48, 3) := by decide +kernel
theorem dX11_init_77 : decode cX11_init 77 = .ok (.iconst 0, 1) := by decide +kernel
theorem dX11_init_78 : decode cX11_init 78 = .ok (.istore_n 2, 1) := by decide +kernel
theorem dX11_init_79 : decode cX11_init 79 = .ok (.iload_n 2, 1) := by decide +kernel
theorem dX11_init_80 : decode cX11_init 80 = .ok (.iconst 4, 1) := by decide +kernel
theorem dX11_init_81 : decode cX11_init 81 = .ok (.if_icmp .ge 22, 3) := by decide +kernel
theorem dX11_init_84 : decode cX11_init 84 = .ok (.aload_n 0, 1) := by decide +kernel
theorem dX11_init_85 : decode cX11_init 85 = .ok (.getfield 48, 3) := by decide +kernel
theorem dX11_init_88 : decode cX11_init 88 = .ok (.iload_n 2, 1) := by decide +kernel
theorem dX11_init_89 : decode cX11_init 89 = .ok (.new 46, 3) := by decide +kernel
theorem dX11_init_92 : decode cX11_init 92 = .ok (.dup, 1) := by decide +kernel
theorem dX11_init_93 : decode cX11_init 93 = .ok (.invokespecial 52, 3) := by decide +kernel
theorem dX11_init_96 : decode cX11_init 96 = .ok (.aastore, 1) := by decide +kernel
theorem dX11_init_97 : decode cX11_init 97 = .ok (.iinc 2 1, 3) := by decide +kernel
theorem dX11_init_100 : decode cX11_init 100 = .ok (.goto (-21), 3) := by decide +kernel
theorem dX11_init_103 : decode cX11_init 103 = .ok (.aload_n 0, 1) := by decide +kernel
theorem dX11_init_104 : decode cX11_init 104 = .ok (.bipush 7, 2) := by decide +kernel
theorem dX11_init_106 : decode cX11_init 106 = .ok (.newarray .int, 2) := by decide +kernel
theorem dX11_init_108 : decode cX11_init 108 = .ok (.putfield 53, 3) := by decide +kernel
theorem dX11_init_111 : decode cX11_init 111 = .ok (.aload_n 0, 1) := by decide +kernel
theorem dX11_init_112 : decode cX11_init 112 = .ok (.iconst 0, 1) := by decide +kernel
theorem dX11_init_113 : decode cX11_init 113 = .ok (.putfield 57, 3) := by decide +kernel
theorem dX11_init_116 : decode cX11_init 116 = .ok (.return_, 1) := by decide +kernel
theorem dX11_machine_0 : decode cX11_machine 0 = .ok (.iload_n 1, 1) := by decide +kernel
theorem dX11_machine_1 : decode cX11_machine 1 = .ok (.ifCond .ne 32, 3) := by decide +kernel
theorem dX11_machine_4 : decode cX11_machine 4 = .ok (.iload_n 2, 1) := by decide +kernel
theorem dX11_machine_5 : decode cX11_machine 5 = .ok (.bipush 20, 2) := by decide +kernel
theorem dX11_machine_7 : decode cX11_machine 7 = .ok (.bipush 95, 2) := by decide +kernel
theorem dX11_machine_9 : decode cX11_machine 9 = .ok (.invokestatic 61, 3) := by decide +kernel
theorem dX11_machine_12 : decode cX11_machine 12 = .ok (.ifCond .eq 21, 3) := by decide +kernel
theorem dX11_machine_15 : decode cX11_machine 15 = .ok (.aload_n 0, 1) := by decide +kernel
theorem dX11_machine_16 : decode cX11_machine 16 = .ok (.getfield 18, 3) := by decide +kernel
theorem dX11_machine_19 : decode cX11_machine 19 = .ok (.getfield 65, 3) := by decide +kernel
theorem dX11_machine_22 : decode cX11_machine 22 = .ok (.istore_n 3, 1) := by decide +kernel
theorem dX11_machine_23 : decode cX11_machine 23 = .ok (.aload_n 0, 1) := by decide +kernel
theorem dX11_machine_24 : decode cX11_machine 24 = .ok (.getfield 18, 3) := by decide +kernel
theorem dX11_machine_27 : decode cX11_machine 27 = .ok (.iload_n 2, 1) := by decide +kernel
theorem dX11_machine_28 : decode cX11_machine 28 = .ok (.putfield 65, 3) := by decide +kernel
theorem dX11_machine_31 : decode cX11_machine 31 = .ok (.iload_n 3, 1) := by decide +kernel
theorem dX11_machine_32 : decode cX11_machine 32 = .ok (.ireturn, 1) := by decide +kernel
theorem dX11_machine_33 : decode cX11_machine 33 = .ok (.iload_n 1, 1) := by decide +kernel
theorem dX11_machine_34 : decode cX11_machine 34 = .ok (.iconst 1, 1) := by decide +kernel
theorem dX11_machine_35 : decode cX11_machine 35 = .ok (.if_icmp .ne 30, 3) := by decide +kernel
theorem dX11_machine_38 : decode cX11_machine 38 = .ok (.iload_n 2, 1) := by decide +kernel
theorem dX11_machine_39 : decode cX11_machine 39 = .ok (.iconst 0, 1) := by decide +kernel
theorem dX11_machine_40 : decode cX11_machine 40 = .ok (.iconst 1, 1) := by decide +kernel
theorem dX11_machine_41 : decode cX11_machine 41 = .ok (.invokestatic 61, 3) := by decide +kernel
theorem dX11_machine_44 : decode cX11_machine 44 = .ok (.ifCond .eq 21, 3) := by decide +kernel
theorem dX11_machine_47 : decode cX11_machine 47 = .ok (.aload_n 0, 1) := by decide +kernel
theorem dX11_machine_48 : decode cX11_machine 48 = .ok (.getfield 18, 3) := by decide +kernel
theorem dX11_machine_51 : decode cX11_machine 51 = .ok (.getfield 69, 3) := by decide +kernel
theorem dX11_machine_54 : decode cX11_machine 54 = .ok (.istore_n 3, 1) := by decide +kernel
theorem dX11_machine_55 : decode cX11_machine 55 = .ok (.aload_n 0, 1) := by decide +kernel
theorem dX11_machine_56 : decode cX11_machine 56 = .ok (.getfield 18, 3) := by decide +kernel
theorem dX11_machine_59 : decode cX11_machine 59 = .ok (.iload_n 2, 1) := by decide +kernel
theorem dX11_machine_60 : decode cX11_machine 60 = .ok (.putfield 69, 3) := by decide +kernel
theorem dX11_machine_63 : decode cX11_machine 63 = .ok (.iload_n 3, 1) := by decide +kernel
theorem dX11_machine_64 : decode cX11_machine 64 = .ok (.ireturn, 1) := by decide +kernel
theorem dX11_machine_65 : decode cX11_machine 65 = .ok (.aload_n 0, 1) := by decide +kernel
theorem dX11_machine_66 : decode cX11_machine 66 = .ok (.ldc 72, 2) := by decide +kernel
theorem dX11_machine_68 : decode cX11_machine 68 = .ok (.invokevirtual 73, 3) := by decide +kernel
theorem dX11_machine_71 : decode cX11_machine 71 = .ok (.ireturn, 1) := by decide +kernel
theorem dX11_now_0 : decode cX11_now 0 = .ok (.iload_n 1, 1) := by decide +kernel
theorem dX11_now_1 : decode cX11_now 1 = .ok (.tableswitch 87 0 5 #[39, 47, 55, 63, 71, 79], 39) := by decide +kernel
theorem dX11_now_40 : decode cX11_now 40 = .ok (.aload_n 0, 1) := by decide +kernel
theorem dX11_now_41 : decode cX11_now 41 = .ok (.getfield 18, 3) := by decide +kernel
theorem dX11_now_44 : decode cX11_now 44 = .ok (.getfield 77, 3) := by decide +kernel
theorem dX11_now_47 : decode cX11_now 47 = .ok (.ireturn, 1) := by decide +kernel
theorem dX11_now_48 : decode cX11_now 48 = .ok (.aload_n 0, 1) := by decide +kernel
theorem dX11_now_49 : decode cX11_now 49 = .ok (.getfield 18, 3) := by decide +kernel
theorem dX11_now_52 : decode cX11_now 52 = .ok (.getfield 65, 3) := by decide +kernel
theorem dX11_now_55 : decode cX11_now 55 = .ok (.ireturn, 1) := by decide +kernel
theorem dX11_now_56 : decode cX11_now 56 = .ok (.aload_n 0, 1) := by decide +kernel
theorem dX11_now_57 : decode cX11_now 57 = .ok (.getfield 18, 3) := by decide +kernel
theorem dX11_now_60 : decode cX11_now 60 = .ok (.getfield 69, 3) := by decide +kernel
theorem dX11_now_63 : decode cX11_now 63 = .ok (.ireturn, 1) := by decide +kernel
theorem dX11_now_64 : decode cX11_now 64 = .ok (.aload_n 0, 1) := by decide +kernel
theorem dX11_now_65 : decode cX11_now 65 = .ok (.getfield 18, 3) := by decide +kernel
theorem dX11_now_68 : decode cX11_now 68 = .ok (.invokevirtual 80, 3) := by decide +kernel
theorem dX11_now_71 : decode cX11_now 71 = .ok (.ireturn, 1) := by decide +kernel
theorem dX11_now_72 : decode cX11_now 72 = .ok (.aload_n 0, 1) := by decide +kernel
theorem dX11_now_73 : decode cX11_now 73 = .ok (.getfield 18, 3) := by decide +kernel
theorem dX11_now_76 : decode cX11_now 76 = .ok (.invokevirtual 84, 3) := by decide +kernel
theorem dX11_now_79 : decode cX11_now 79 = .ok (.ireturn, 1) := by decide +kernel
theorem dX11_now_80 : decode cX11_now 80 = .ok (.aload_n 0, 1) := by decide +kernel
theorem dX11_now_81 : decode cX11_now 81 = .ok (.getfield 18, 3) := by decide +kernel
theorem dX11_now_84 : decode cX11_now 84 = .ok (.invokevirtual 87, 3) := by decide +kernel
theorem dX11_now_87 : decode cX11_now 87 = .ok (.ireturn, 1) := by decide +kernel
theorem dX11_now_88 : decode cX11_now 88 = .ok (.aload_n 0, 1) := by decide +kernel
theorem dX11_now_89 : decode cX11_now 89 = .ok (.ldc 72, 2) := by decide +kernel
theorem dX11_now_91 : decode cX11_now 91 = .ok (.invokevirtual 73, 3) := by decide +kernel
theorem dX11_now_94 : decode cX11_now 94 = .ok (.ireturn, 1) := by decide +kernel
theorem dX11_garment_0 : decode cX11_garment 0 = .ok (.iload_n 1, 1) := by decide +kernel
theorem dX11_garment_1 : decode cX11_garment 1 = .ok (.invokestatic 90, 3) := by decide +kernel
theorem dX11_garment_4 : decode cX11_garment 4 = .ok (.ifCond .ne 10, 3) := by decide +kernel
theorem dX11_garment_7 : decode cX11_garment 7 = .ok (.aload_n 0, 1) := by decide +kernel
theorem dX11_garment_8 : decode cX11_garment 8 = .ok (.ldc 72, 2) := by decide +kernel
theorem dX11_garment_10 : decode cX11_garment 10 = .ok (.invokevirtual 73, 3) := by decide +kernel
theorem dX11_garment_13 : decode cX11_garment 13 = .ok (.ireturn, 1) := by decide +kernel
theorem dX11_garment_14 : decode cX11_garment 14 = .ok (.aload_n 0, 1) := by decide +kernel
theorem dX11_garment_15 : decode cX11_garment 15 = .ok (.getfield 18, 3) := by decide +kernel
theorem dX11_garment_18 : decode cX11_garment 18 = .ok (.iload_n 1, 1) := by decide +kernel
theorem dX11_garment_19 : decode cX11_garment 19 = .ok (.invokevirtual 94, 3) := by decide +kernel
theorem dX11_garment_22 : decode cX11_garment 22 = .ok (.astore_n 2, 1) := by decide +kernel
theorem dX11_garment_23 : decode cX11_garment 23 = .ok (.aload_n 2, 1) := by decide +kernel
theorem dX11_garment_24 : decode cX11_garment 24 = .ok (.ifnonnull 12, 3) := by decide +kernel
theorem dX11_garment_27 : decode cX11_garment 27 = .ok (.aload_n 0, 1) := by decide +kernel
theorem dX11_garment_28 : decode cX11_garment 28 = .ok (.ldc 98, 2) := by decide +kernel
theorem dX11_garment_30 : decode cX11_garment 30 = .ok (.invokevirtual 73, 3) := by decide +kernel
theorem dX11_garment_33 : decode cX11_garment 33 = .ok (.goto 12, 3) := by decide +kernel
theorem dX11_garment_36 : decode cX11_garment 36 = .ok (.aload_n 0, 1) := by decide +kernel
theorem dX11_garment_37 : decode cX11_garment 37 = .ok (.getfield 18, 3) := by decide +kernel
theorem dX11_garment_40 : decode cX11_garment 40 = .ok (.getfield 99, 3) := by decide +kernel
theorem dX11_garment_43 : decode cX11_garment 43 = .ok (.iconst 1, 1) := by decide +kernel
theorem dX11_garment_44 : decode cX11_garment 44 = .ok (.isub, 1) := by decide +kernel
theorem dX11_garment_45 : decode cX11_garment 45 = .ok (.ireturn, 1) := by decide +kernel
theorem dX11_of_0 : decode cX11_of 0 = .ok (.aload_n 0, 1) := by decide +kernel
theorem dX11_of_1 : decode cX11_of 1 = .ok (.getfield 18, 3) := by decide +kernel
theorem dX11_of_4 : decode cX11_of 4 = .ok (.iload_n 1, 1) := by decide +kernel
theorem dX11_of_5 : decode cX11_of 5 = .ok (.invokevirtual 102, 3) := by decide +kernel
theorem dX11_of_8 : decode cX11_of 8 = .ok (.astore_n 3, 1) := by decide +kernel
theorem dX11_of_9 : decode cX11_of 9 = .ok (.aload_n 3, 1) := by decide +kernel
theorem dX11_of_10 : decode cX11_of 10 = .ok (.ifnonnull 10, 3) := by decide +kernel
theorem dX11_of_13 : decode cX11_of 13 = .ok (.aload_n 0, 1) := by decide +kernel
theorem dX11_of_14 : decode cX11_of 14 = .ok (.ldc 72, 2) := by decide +kernel
theorem dX11_of_16 : decode cX11_of 16 = .ok (.invokevirtual 73, 3) := by decide +kernel
theorem dX11_of_19 : decode cX11_of 19 = .ok (.ireturn, 1) := by decide +kernel
theorem dX11_of_20 : decode cX11_of 20 = .ok (.aload_n 3, 1) := by decide +kernel
theorem dX11_of_21 : decode cX11_of 21 = .ok (.getfield 105, 3) := by decide +kernel
theorem dX11_of_24 : decode cX11_of 24 = .ok (.aload_n 0, 1) := by decide +kernel
theorem dX11_of_25 : decode cX11_of 25 = .ok (.getfield 18, 3) := by decide +kernel
theorem dX11_of_28 : decode cX11_of 28 = .ok (.getfield 65, 3) := by decide +kernel
theorem dX11_of_31 : decode cX11_of 31 = .ok (.aload_n 0, 1) := by decide +kernel
theorem dX11_of_32 : decode cX11_of 32 = .ok (.getfield 18, 3) := by decide +kernel
theorem dX11_of_35 : decode cX11_of 35 = .ok (.getfield 69, 3) := by decide +kernel
theorem dX11_of_38 : decode cX11_of 38 = .ok (.invokevirtual 109, 3) := by decide +kernel
theorem dX11_of_41 : decode cX11_of 41 = .ok (.istore 4, 2) := by decide +kernel
theorem dX11_of_43 : decode cX11_of 43 = .ok (.iload_n 2, 1) := by decide +kernel
theorem dX11_of_44 : decode cX11_of 44 = .ok (.tableswitch 135 0 10 #[60, 68, 73, 78, 83, 88, 93, 98, 101, 111, 127], 60) := by decide +kernel
theorem dX11_of_104 : decode cX11_of 104 = .ok (.aload_n 3, 1) := by decide +kernel
theorem dX11_of_105 : decode cX11_of 105 = .ok (.getfield 105, 3) := by decide +kernel
theorem dX11_of_108 : decode cX11_of 108 = .ok (.getfield 113, 3) := by decide +kernel
theorem dX11_of_111 : decode cX11_of 111 = .ok (.ireturn, 1) := by decide +kernel
theorem dX11_of_112 : decode cX11_of 112 = .ok (.aload_n 3, 1) := by decide +kernel
theorem dX11_of_113 : decode cX11_of 113 = .ok (.getfield 116, 3) := by decide +kernel
theorem dX11_of_116 : decode cX11_of 116 = .ok (.ireturn, 1) := by decide +kernel
theorem dX11_of_117 : decode cX11_of 117 = .ok (.aload_n 3, 1) := by decide +kernel
theorem dX11_of_118 : decode cX11_of 118 = .ok (.getfield 119, 3) := by decide +kernel
theorem dX11_of_121 : decode cX11_of 121 = .ok (.ireturn, 1) := by decide +kernel
theorem dX11_of_122 : decode cX11_of 122 = .ok (.aload_n 3, 1) := by decide +kernel
theorem dX11_of_123 : decode cX11_of 123 = .ok (.getfield 122, 3) := by decide +kernel
theorem dX11_of_126 : decode cX11_of 126 = .ok (.ireturn, 1) := by decide +kernel
theorem dX11_of_127 : decode cX11_of 127 = .ok (.aload_n 3, 1) := by decide +kernel
theorem dX11_of_128 : decode cX11_of 128 = .ok (.getfield 125, 3) := by decide +kernel
theorem dX11_of_131 : decode cX11_of 131 = .ok (.ireturn, 1) := by decide +kernel
theorem dX11_of_132 : decode cX11_of 132 = .ok (.aload_n 3, 1) := by decide +kernel
theorem dX11_of_133 : decode cX11_of 133 = .ok (.getfield 128, 3) := by decide +kernel
theorem dX11_of_136 : decode cX11_of 136 = .ok (.ireturn, 1) := by decide +kernel
theorem dX11_of_137 : decode cX11_of 137 = .ok (.aload_n 3, 1) := by decide +kernel
theorem dX11_of_138 : decode cX11_of 138 = .ok (.getfield 131, 3) := by decide +kernel
theorem dX11_of_141 : decode cX11_of 141 = .ok (.ireturn, 1) := by decide +kernel
theorem dX11_of_142 : decode cX11_of 142 = .ok (.iload 4, 2) := by decide +kernel
theorem dX11_of_144 : decode cX11_of 144 = .ok (.ireturn, 1) := by decide +kernel
theorem dX11_of_145 : decode cX11_of 145 = .ok (.aload_n 3, 1) := by decide +kernel
theorem dX11_of_146 : decode cX11_of 146 = .ok (.getfield 105, 3) := by decide +kernel
theorem dX11_of_149 : decode cX11_of 149 = .ok (.iload 4, 2) := by decide +kernel
theorem dX11_of_151 : decode cX11_of 151 = .ok (.invokevirtual 134, 3) := by decide +kernel
theorem dX11_of_154 : decode cX11_of 154 = .ok (.ireturn, 1) := by decide +kernel
theorem dX11_of_155 : decode cX11_of 155 = .ok (.aload_n 3, 1) := by decide +kernel
theorem dX11_of_156 : decode cX11_of 156 = .ok (.getfield 105, 3) := by decide +kernel
theorem dX11_of_159 : decode cX11_of 159 = .ok (.aload_n 3, 1) := by decide +kernel
theorem dX11_of_160 : decode cX11_of 160 = .ok (.getfield 122, 3) := by decide +kernel
theorem dX11_of_163 : decode cX11_of 163 = .ok (.aload_n 3, 1) := by decide +kernel
theorem dX11_of_164 : decode cX11_of 164 = .ok (.getfield 131, 3) := by decide +kernel
theorem dX11_of_167 : decode cX11_of 167 = .ok (.invokevirtual 137, 3) := by decide +kernel
theorem dX11_of_170 : decode cX11_of 170 = .ok (.ireturn, 1) := by decide +kernel
theorem dX11_of_171 : decode cX11_of 171 = .ok (.aload_n 3, 1) := by decide +kernel
theorem dX11_of_172 : decode cX11_of 172 = .ok (.getfield 105, 3) := by decide +kernel
theorem dX11_of_175 : decode cX11_of 175 = .ok (.invokevirtual 140, 3) := by decide +kernel
theorem dX11_of_178 : decode cX11_of 178 = .ok (.ireturn, 1) := by decide +kernel
theorem dX11_of_179 : decode cX11_of 179 = .ok (.aload_n 0, 1) := by decide +kernel
theorem dX11_of_180 : decode cX11_of 180 = .ok (.ldc 72, 2) := by decide +kernel
theorem dX11_of_182 : decode cX11_of 182 = .ok (.invokevirtual 73, 3) := by decide +kernel
theorem dX11_of_185 : decode cX11_of 185 = .ok (.ireturn, 1) := by decide +kernel
theorem dX11_set_0 : decode cX11_set 0 = .ok (.aload_n 0, 1) := by decide +kernel
theorem dX11_set_1 : decode cX11_set 1 = .ok (.getfield 18, 3) := by decide +kernel
theorem dX11_set_4 : decode cX11_set 4 = .ok (.iload_n 1, 1) := by decide +kernel
theorem dX11_set_5 : decode cX11_set 5 = .ok (.invokevirtual 102, 3) := by decide +kernel
theorem dX11_set_8 : decode cX11_set 8 = .ok (.astore 4, 2) := by decide +kernel
theorem dX11_set_10 : decode cX11_set 10 = .ok (.aload 4, 2) := by decide +kernel
theorem dX11_set_12 : decode cX11_set 12 = .ok (.ifnull 11, 3) := by decide +kernel
theorem dX11_set_15 : decode cX11_set 15 = .ok (.iload_n 2, 1) := by decide +kernel
theorem dX11_set_16 : decode cX11_set 16 = .ok (.iload_n 3, 1) := by decide +kernel
theorem dX11_set_17 : decode cX11_set 17 = .ok (.invokestatic 143, 3) := by decide +kernel
theorem dX11_set_20 : decode cX11_set 20 = .ok (.ifCond .ne 10, 3) := by decide +kernel
theorem dX11_set_23 : decode cX11_set 23 = .ok (.aload_n 0, 1) := by decide +kernel
theorem dX11_set_24 : decode cX11_set 24 = .ok (.ldc 72, 2) := by decide +kernel
theorem dX11_set_26 : decode cX11_set 26 = .ok (.invokevirtual 73, 3) := by decide +kernel
theorem dX11_set_29 : decode cX11_set 29 = .ok (.ireturn, 1) := by decide +kernel
theorem dX11_set_30 : decode cX11_set 30 = .ok (.iload_n 2, 1) := by decide +kernel
theorem dX11_set_31 : decode cX11_set 31 = .ok (.tableswitch 73 1 3 #[25, 41, 57], 25) := by decide +kernel
theorem dX11_set_56 : decode cX11_set 56 = .ok (.aload 4, 2) := by decide +kernel
theorem dX11_set_58 : decode cX11_set 58 = .ok (.getfield 116, 3) := by decide +kernel
theorem dX11_set_61 : decode cX11_set 61 = .ok (.istore 5, 2) := by decide +kernel
theorem dX11_set_63 : decode cX11_set 63 = .ok (.aload 4, 2) := by decide +kernel
theorem dX11_set_65 : decode cX11_set 65 = .ok (.iload_n 3, 1) := by decide +kernel
theorem dX11_set_66 : decode cX11_set 66 = .ok (.putfield 116, 3) := by decide +kernel
theorem dX11_set_69 : decode cX11_set 69 = .ok (.iload 5, 2) := by decide +kernel
theorem dX11_set_71 : decode cX11_set 71 = .ok (.ireturn, 1) := by decide +kernel
theorem dX11_set_72 : decode cX11_set 72 = .ok (.aload 4, 2) := by decide +kernel
theorem dX11_set_74 : decode cX11_set 74 = .ok (.getfield 119, 3) := by decide +kernel
theorem dX11_set_77 : decode cX11_set 77 = .ok (.istore 5, 2) := by decide +kernel
theorem dX11_set_79 : decode cX11_set 79 = .ok (.aload 4, 2) := by decide +kernel
theorem dX11_set_81 : decode cX11_set 81 = .ok (.iload_n 3, 1) := by decide +kernel
theorem dX11_set_82 : decode cX11_set 82 = .ok (.putfield 119, 3) := by decide +kernel
theorem dX11_set_85 : decode cX11_set 85 = .ok (.iload 5, 2) := by decide +kernel
theorem dX11_set_87 : decode cX11_set 87 = .ok (.ireturn, 1) := by decide +kernel
theorem dX11_set_88 : decode cX11_set 88 = .ok (.aload 4, 2) := by decide +kernel
theorem dX11_set_90 : decode cX11_set 90 = .ok (.getfield 122, 3) := by decide +kernel
theorem dX11_set_93 : decode cX11_set 93 = .ok (.istore 5, 2) := by decide +kernel
theorem dX11_set_95 : decode cX11_set 95 = .ok (.aload 4, 2) := by decide +kernel
theorem dX11_set_97 : decode cX11_set 97 = .ok (.iload_n 3, 1) := by decide +kernel
theorem dX11_set_98 : decode cX11_set 98 = .ok (.putfield 122, 3) := by decide +kernel
theorem dX11_set_101 : decode cX11_set 101 = .ok (.iload 5, 2) := by decide +kernel
theorem dX11_set_103 : decode cX11_set 103 = .ok (.ireturn, 1) := by decide +kernel
theorem dX11_set_104 : decode cX11_set 104 = .ok (.aload 4, 2) := by decide +kernel
theorem dX11_set_106 : decode cX11_set 106 = .ok (.getfield 131, 3) := by decide +kernel
theorem dX11_set_109 : decode cX11_set 109 = .ok (.istore 5, 2) := by decide +kernel
theorem dX11_set_111 : decode cX11_set 111 = .ok (.aload 4, 2) := by decide +kernel
theorem dX11_set_113 : decode cX11_set 113 = .ok (.iload_n 3, 1) := by decide +kernel
theorem dX11_set_114 : decode cX11_set 114 = .ok (.putfield 131, 3) := by decide +kernel
theorem dX11_set_117 : decode cX11_set 117 = .ok (.iload 5, 2) := by decide +kernel
theorem dX11_set_119 : decode cX11_set 119 = .ok (.ireturn, 1) := by decide +kernel
theorem dX11_wash_0 : decode cX11_wash 0 = .ok (.aload_n 0, 1) := by decide +kernel
theorem dX11_wash_1 : decode cX11_wash 1 = .ok (.getfield 18, 3) := by decide +kernel
theorem dX11_wash_4 : decode cX11_wash 4 = .ok (.iload_n 1, 1) := by decide +kernel
theorem dX11_wash_5 : decode cX11_wash 5 = .ok (.invokevirtual 102, 3) := by decide +kernel
theorem dX11_wash_8 : decode cX11_wash 8 = .ok (.astore_n 2, 1) := by decide +kernel
theorem dX11_wash_9 : decode cX11_wash 9 = .ok (.aload_n 2, 1) := by decide +kernel
theorem dX11_wash_10 : decode cX11_wash 10 = .ok (.ifnonnull 10, 3) := by decide +kernel
theorem dX11_wash_13 : decode cX11_wash 13 = .ok (.aload_n 0, 1) := by decide +kernel
theorem dX11_wash_14 : decode cX11_wash 14 = .ok (.ldc 72, 2) := by decide +kernel
theorem dX11_wash_16 : decode cX11_wash 16 = .ok (.invokevirtual 73, 3) := by decide +kernel
theorem dX11_wash_19 : decode cX11_wash 19 = .ok (.ireturn, 1) := by decide +kernel
theorem dX11_wash_20 : decode cX11_wash 20 = .ok (.aload_n 2, 1) := by decide +kernel
theorem dX11_wash_21 : decode cX11_wash 21 = .ok (.aload_n 0, 1) := by decide +kernel
theorem dX11_wash_22 : decode cX11_wash 22 = .ok (.getfield 18, 3) := by decide +kernel
theorem dX11_wash_25 : decode cX11_wash 25 = .ok (.getfield 65, 3) := by decide +kernel
theorem dX11_wash_28 : decode cX11_wash 28 = .ok (.aload_n 0, 1) := by decide +kernel
theorem dX11_wash_29 : decode cX11_wash 29 = .ok (.getfield 18, 3) := by decide +kernel
theorem dX11_wash_32 : decode cX11_wash 32 = .ok (.getfield 69, 3) := by decide +kernel
theorem dX11_wash_35 : decode cX11_wash 35 = .ok (.invokevirtual 147, 3) := by decide +kernel
theorem dX11_wash_38 : decode cX11_wash 38 = .ok (.aload_n 2, 1) := by decide +kernel
theorem dX11_wash_39 : decode cX11_wash 39 = .ok (.getfield 116, 3) := by decide +kernel
theorem dX11_wash_42 : decode cX11_wash 42 = .ok (.ireturn, 1) := by decide +kernel
theorem dX11_draw_0 : decode cX11_draw 0 = .ok (.aload_n 0, 1) := by decide +kernel
theorem dX11_draw_1 : decode cX11_draw 1 = .ok (.getfield 18, 3) := by decide +kernel
theorem dX11_draw_4 : decode cX11_draw 4 = .ok (.iload_n 1, 1) := by decide +kernel
theorem dX11_draw_5 : decode cX11_draw 5 = .ok (.invokevirtual 102, 3) := by decide +kernel
theorem dX11_draw_8 : decode cX11_draw 8 = .ok (.astore_n 3, 1) := by decide +kernel
theorem dX11_draw_9 : decode cX11_draw 9 = .ok (.aload_n 3, 1) := by decide +kernel
theorem dX11_draw_10 : decode cX11_draw 10 = .ok (.ifnull 13, 3) := by decide +kernel
theorem dX11_draw_13 : decode cX11_draw 13 = .ok (.iload_n 2, 1) := by decide +kernel
theorem dX11_draw_14 : decode cX11_draw 14 = .ok (.iconst 1, 1) := by decide +kernel
theorem dX11_draw_15 : decode cX11_draw 15 = .ok (.bipush 50, 2) := by decide +kernel
theorem dX11_draw_17 : decode cX11_draw 17 = .ok (.invokestatic 61, 3) := by decide +kernel
theorem dX11_draw_20 : decode cX11_draw 20 = .ok (.ifCond .ne 10, 3) := by decide +kernel
theorem dX11_draw_23 : decode cX11_draw 23 = .ok (.aload_n 0, 1) := by decide +kernel
theorem dX11_draw_24 : decode cX11_draw 24 = .ok (.ldc 72, 2) := by decide +kernel
theorem dX11_draw_26 : decode cX11_draw 26 = .ok (.invokevirtual 73, 3) := by decide +kernel
theorem dX11_draw_29 : decode cX11_draw 29 = .ok (.ireturn, 1) := by decide +kernel
theorem dX11_draw_30 : decode cX11_draw 30 = .ok (.aload_n 3, 1) := by decide +kernel
theorem dX11_draw_31 : decode cX11_draw 31 = .ok (.getfield 125, 3) := by decide +kernel
theorem dX11_draw_34 : decode cX11_draw 34 = .ok (.ifCond .ne 10, 3) := by decide +kernel
theorem dX11_draw_37 : decode cX11_draw 37 = .ok (.aload_n 0, 1) := by decide +kernel
theorem dX11_draw_38 : decode cX11_draw 38 = .ok (.ldc 151, 2) := by decide +kernel
theorem dX11_draw_40 : decode cX11_draw 40 = .ok (.invokevirtual 73, 3) := by decide +kernel
theorem dX11_draw_43 : decode cX11_draw 43 = .ok (.ireturn, 1) := by decide +kernel
theorem dX11_draw_44 : decode cX11_draw 44 = .ok (.aload_n 3, 1) := by decide +kernel
theorem dX11_draw_45 : decode cX11_draw 45 = .ok (.iload_n 2, 1) := by decide +kernel
theorem dX11_draw_46 : decode cX11_draw 46 = .ok (.invokevirtual 152, 3) := by decide +kernel
theorem dX11_draw_49 : decode cX11_draw 49 = .ok (.aload_n 3, 1) := by decide +kernel
theorem dX11_draw_50 : decode cX11_draw 50 = .ok (.getfield 116, 3) := by decide +kernel
theorem dX11_draw_53 : decode cX11_draw 53 = .ok (.ireturn, 1) := by decide +kernel
theorem dX11_turn_0 : decode cX11_turn 0 = .ok (.aload_n 0, 1) := by decide +kernel
theorem dX11_turn_1 : decode cX11_turn 1 = .ok (.getfield 18, 3) := by decide +kernel
theorem dX11_turn_4 : decode cX11_turn 4 = .ok (.iload_n 1, 1) := by decide +kernel
theorem dX11_turn_5 : decode cX11_turn 5 = .ok (.invokevirtual 102, 3) := by decide +kernel
theorem dX11_turn_8 : decode cX11_turn 8 = .ok (.astore_n 3, 1) := by decide +kernel
theorem dX11_turn_9 : decode cX11_turn 9 = .ok (.aload_n 0, 1) := by decide +kernel
theorem dX11_turn_10 : decode cX11_turn 10 = .ok (.getfield 18, 3) := by decide +kernel
theorem dX11_turn_13 : decode cX11_turn 13 = .ok (.iload_n 2, 1) := by decide +kernel
theorem dX11_turn_14 : decode cX11_turn 14 = .ok (.invokevirtual 156, 3) := by decide +kernel
theorem dX11_turn_17 : decode cX11_turn 17 = .ok (.astore 4, 2) := by decide +kernel
theorem dX11_turn_19 : decode cX11_turn 19 = .ok (.aload_n 3, 1) := by decide +kernel
theorem dX11_turn_20 : decode cX11_turn 20 = .ok (.ifnull 8, 3) := by decide +kernel
theorem dX11_turn_23 : decode cX11_turn 23 = .ok (.aload 4, 2) := by decide +kernel
theorem dX11_turn_25 : decode cX11_turn 25 = .ok (.ifnonnull 10, 3) := by decide +kernel
theorem dX11_turn_28 : decode cX11_turn 28 = .ok (.aload_n 0, 1) := by decide +kernel
theorem dX11_turn_29 : decode cX11_turn 29 = .ok (.ldc 72, 2) := by decide +kernel
theorem dX11_turn_31 : decode cX11_turn 31 = .ok (.invokevirtual 73, 3) := by decide +kernel
theorem dX11_turn_34 : decode cX11_turn 34 = .ok (.ireturn, 1) := by decide +kernel
theorem dX11_turn_35 : decode cX11_turn 35 = .ok (.aload_n 3, 1) := by decide +kernel
theorem dX11_turn_36 : decode cX11_turn 36 = .ok (.getfield 105, 3) := by decide +kernel
theorem dX11_turn_39 : decode cX11_turn 39 = .ok (.getfield 113, 3) := by decide +kernel
theorem dX11_turn_42 : decode cX11_turn 42 = .ok (.istore 5, 2) := by decide +kernel
theorem dX11_turn_44 : decode cX11_turn 44 = .ok (.aload_n 3, 1) := by decide +kernel
theorem dX11_turn_45 : decode cX11_turn 45 = .ok (.aload 4, 2) := by decide +kernel
theorem dX11_turn_47 : decode cX11_turn 47 = .ok (.putfield 105, 3) := by decide +kernel
theorem dX11_turn_50 : decode cX11_turn 50 = .ok (.iload 5, 2) := by decide +kernel
theorem dX11_turn_52 : decode cX11_turn 52 = .ok (.ireturn, 1) := by decide +kernel
theorem dX11_as_0 : decode cX11_as 0 = .ok (.aload_n 0, 1) := by decide +kernel
theorem dX11_as_1 : decode cX11_as 1 = .ok (.getfield 18, 3) := by decide +kernel
theorem dX11_as_4 : decode cX11_as 4 = .ok (.iload_n 1, 1) := by decide +kernel
theorem dX11_as_5 : decode cX11_as 5 = .ok (.invokevirtual 102, 3) := by decide +kernel
theorem dX11_as_8 : decode cX11_as 8 = .ok (.astore_n 3, 1) := by decide +kernel
theorem dX11_as_9 : decode cX11_as 9 = .ok (.aload_n 3, 1) := by decide +kernel
theorem dX11_as_10 : decode cX11_as 10 = .ok (.ifnull 10, 3) := by decide +kernel
theorem dX11_as_13 : decode cX11_as 13 = .ok (.iload_n 2, 1) := by decide +kernel
theorem dX11_as_14 : decode cX11_as 14 = .ok (.invokestatic 90, 3) := by decide +kernel
theorem dX11_as_17 : decode cX11_as 17 = .ok (.ifCond .ne 10, 3) := by decide +kernel
theorem dX11_as_20 : decode cX11_as 20 = .ok (.aload_n 0, 1) := by decide +kernel
theorem dX11_as_21 : decode cX11_as 21 = .ok (.ldc 72, 2) := by decide +kernel
theorem dX11_as_23 : decode cX11_as 23 = .ok (.invokevirtual 73, 3) := by decide +kernel
theorem dX11_as_26 : decode cX11_as 26 = .ok (.ireturn, 1) := by decide +kernel
theorem dX11_as_27 : decode cX11_as 27 = .ok (.aload_n 3, 1) := by decide +kernel
theorem dX11_as_28 : decode cX11_as 28 = .ok (.getfield 105, 3) := by decide +kernel
theorem dX11_as_31 : decode cX11_as 31 = .ok (.iload_n 2, 1) := by decide +kernel
theorem dX11_as_32 : decode cX11_as 32 = .ok (.invokevirtual 160, 3) := by decide +kernel
theorem dX11_as_35 : decode cX11_as 35 = .ok (.ifCond .eq 10, 3) := by decide +kernel
theorem dX11_as_38 : decode cX11_as 38 = .ok (.aload_n 3, 1) := by decide +kernel
theorem dX11_as_39 : decode cX11_as 39 = .ok (.getfield 122, 3) := by decide +kernel
theorem dX11_as_42 : decode cX11_as 42 = .ok (.goto 9, 3) := by decide +kernel
theorem dX11_as_45 : decode cX11_as 45 = .ok (.aload_n 0, 1) := by decide +kernel
theorem dX11_as_46 : decode cX11_as 46 = .ok (.ldc 163, 2) := by decide +kernel
theorem dX11_as_48 : decode cX11_as 48 = .ok (.invokevirtual 73, 3) := by decide +kernel
theorem dX11_as_51 : decode cX11_as 51 = .ok (.ireturn, 1) := by decide +kernel
theorem dX11_person_0 : decode cX11_person 0 = .ok (.iload_n 1, 1) := by decide +kernel
theorem dX11_person_1 : decode cX11_person 1 = .ok (.invokestatic 164, 3) := by decide +kernel
theorem dX11_person_4 : decode cX11_person 4 = .ok (.ifCond .eq 10, 3) := by decide +kernel
theorem dX11_person_7 : decode cX11_person 7 = .ok (.iload_n 2, 1) := by decide +kernel
theorem dX11_person_8 : decode cX11_person 8 = .ok (.invokestatic 164, 3) := by decide +kernel
theorem dX11_person_11 : decode cX11_person 11 = .ok (.ifCond .ne 10, 3) := by decide +kernel
theorem dX11_person_14 : decode cX11_person 14 = .ok (.aload_n 0, 1) := by decide +kernel
theorem dX11_person_15 : decode cX11_person 15 = .ok (.ldc 72, 2) := by decide +kernel
theorem dX11_person_17 : decode cX11_person 17 = .ok (.invokevirtual 73, 3) := by decide +kernel
theorem dX11_person_20 : decode cX11_person 20 = .ok (.ireturn, 1) := by decide +kernel
theorem dX11_person_21 : decode cX11_person 21 = .ok (.aload_n 0, 1) := by decide +kernel
theorem dX11_person_22 : decode cX11_person 22 = .ok (.getfield 18, 3) := by decide +kernel
theorem dX11_person_25 : decode cX11_person 25 = .ok (.iload_n 1, 1) := by decide +kernel
theorem dX11_person_26 : decode cX11_person 26 = .ok (.iload_n 2, 1) := by decide +kernel
theorem dX11_person_27 : decode cX11_person 27 = .ok (.invokevirtual 167, 3) := by decide +kernel
theorem dX11_person_30 : decode cX11_person 30 = .ok (.astore_n 3, 1) := by decide +kernel
theorem dX11_person_31 : decode cX11_person 31 = .ok (.aload_n 3, 1) := by decide +kernel
theorem dX11_person_32 : decode cX11_person 32 = .ok (.ifnonnull 12, 3) := by decide +kernel
theorem dX11_person_35 : decode cX11_person 35 = .ok (.aload_n 0, 1) := by decide +kernel
theorem dX11_person_36 : decode cX11_person 36 = .ok (.ldc 98, 2) := by decide +kernel
theorem dX11_person_38 : decode cX11_person 38 = .ok (.invokevirtual 73, 3) := by decide +kernel
theorem dX11_person_41 : decode cX11_person 41 = .ok (.goto 12, 3) := by decide +kernel
theorem dX11_person_44 : decode cX11_person 44 = .ok (.aload_n 0, 1) := by decide +kernel
theorem dX11_person_45 : decode cX11_person 45 = .ok (.getfield 18, 3) := by decide +kernel
theorem dX11_person_48 : decode cX11_person 48 = .ok (.getfield 171, 3) := by decide +kernel
theorem dX11_person_51 : decode cX11_person 51 = .ok (.iconst 1, 1) := by decide +kernel
theorem dX11_person_52 : decode cX11_person 52 = .ok (.isub, 1) := by decide +kernel
theorem dX11_person_53 : decode cX11_person 53 = .ok (.ireturn, 1) := by decide +kernel
theorem dX11_size_0 : decode cX11_size 0 = .ok (.aload_n 0, 1) := by decide +kernel
theorem dX11_size_1 : decode cX11_size 1 = .ok (.getfield 18, 3) := by decide +kernel
theorem dX11_size_4 : decode cX11_size 4 = .ok (.iload_n 1, 1) := by decide +kernel
theorem dX11_size_5 : decode cX11_size 5 = .ok (.invokevirtual 174, 3) := by decide +kernel
theorem dX11_size_8 : decode cX11_size 8 = .ok (.astore_n 3, 1) := by decide +kernel
theorem dX11_size_9 : decode cX11_size 9 = .ok (.aload_n 3, 1) := by decide +kernel
theorem dX11_size_10 : decode cX11_size 10 = .ok (.ifnull 12, 3) := by decide +kernel
theorem dX11_size_13 : decode cX11_size 13 = .ok (.iload_n 2, 1) := by decide +kernel
theorem dX11_size_14 : decode cX11_size 14 = .ok (.iconst 0, 1) := by decide +kernel
theorem dX11_size_15 : decode cX11_size 15 = .ok (.iconst 1, 1) := by decide +kernel
theorem dX11_size_16 : decode cX11_size 16 = .ok (.invokestatic 61, 3) := by decide +kernel
theorem dX11_size_19 : decode cX11_size 19 = .ok (.ifCond .ne 10, 3) := by decide +kernel
theorem dX11_size_22 : decode cX11_size 22 = .ok (.aload_n 0, 1) := by decide +kernel
theorem dX11_size_23 : decode cX11_size 23 = .ok (.ldc 72, 2) := by decide +kernel
theorem dX11_size_25 : decode cX11_size 25 = .ok (.invokevirtual 73, 3) := by decide +kernel
theorem dX11_size_28 : decode cX11_size 28 = .ok (.ireturn, 1) := by decide +kernel
theorem dX11_size_29 : decode cX11_size 29 = .ok (.iload_n 2, 1) := by decide +kernel
theorem dX11_size_30 : decode cX11_size 30 = .ok (.ifCond .ne 10, 3) := by decide +kernel
theorem dX11_size_33 : decode cX11_size 33 = .ok (.aload_n 3, 1) := by decide +kernel
theorem dX11_size_34 : decode cX11_size 34 = .ok (.getfield 178, 3) := by decide +kernel
theorem dX11_size_37 : decode cX11_size 37 = .ok (.goto 7, 3) := by decide +kernel
theorem dX11_size_40 : decode cX11_size 40 = .ok (.aload_n 3, 1) := by decide +kernel
theorem dX11_size_41 : decode cX11_size 41 = .ok (.getfield 181, 3) := by decide +kernel
theorem dX11_size_44 : decode cX11_size 44 = .ok (.ireturn, 1) := by decide +kernel
theorem dX11_fits_0 : decode cX11_fits 0 = .ok (.aload_n 0, 1) := by decide +kernel
theorem dX11_fits_1 : decode cX11_fits 1 = .ok (.getfield 18, 3) := by decide +kernel
theorem dX11_fits_4 : decode cX11_fits 4 = .ok (.iload_n 1, 1) := by decide +kernel
theorem dX11_fits_5 : decode cX11_fits 5 = .ok (.invokevirtual 174, 3) := by decide +kernel
theorem dX11_fits_8 : decode cX11_fits 8 = .ok (.astore_n 2, 1) := by decide +kernel
theorem dX11_fits_9 : decode cX11_fits 9 = .ok (.aload_n 2, 1) := by decide +kernel
theorem dX11_fits_10 : decode cX11_fits 10 = .ok (.ifnonnull 12, 3) := by decide +kernel
theorem dX11_fits_13 : decode cX11_fits 13 = .ok (.aload_n 0, 1) := by decide +kernel
theorem dX11_fits_14 : decode cX11_fits 14 = .ok (.ldc 72, 2) := by decide +kernel
theorem dX11_fits_16 : decode cX11_fits 16 = .ok (.invokevirtual 73, 3) := by decide +kernel
theorem dX11_fits_19 : decode cX11_fits 19 = .ok (.goto 11, 3) := by decide +kernel
theorem dX11_fits_22 : decode cX11_fits 22 = .ok (.aload_n 0, 1) := by decide +kernel
theorem dX11_fits_23 : decode cX11_fits 23 = .ok (.getfield 18, 3) := by decide +kernel
theorem dX11_fits_26 : decode cX11_fits 26 = .ok (.aload_n 2, 1) := by decide +kernel
theorem dX11_fits_27 : decode cX11_fits 27 = .ok (.invokevirtual 182, 3) := by decide +kernel
theorem dX11_fits_30 : decode cX11_fits 30 = .ok (.ireturn, 1) := by decide +kernel
theorem dX11_days_0 : decode cX11_days 0 = .ok (.iload_n 1, 1) := by decide +kernel
theorem dX11_days_1 : decode cX11_days 1 = .ok (.iconst 1, 1) := by decide +kernel
theorem dX11_days_2 : decode cX11_days 2 = .ok (.bipush 100, 2) := by decide +kernel
theorem dX11_days_4 : decode cX11_days 4 = .ok (.invokestatic 61, 3) := by decide +kernel
theorem dX11_days_7 : decode cX11_days 7 = .ok (.ifCond .ne 10, 3) := by decide +kernel
theorem dX11_days_10 : decode cX11_days 10 = .ok (.aload_n 0, 1) := by decide +kernel
theorem dX11_days_11 : decode cX11_days 11 = .ok (.ldc 72, 2) := by decide +kernel
theorem dX11_days_13 : decode cX11_days 13 = .ok (.invokevirtual 73, 3) := by decide +kernel
theorem dX11_days_16 : decode cX11_days 16 = .ok (.ireturn, 1) := by decide +kernel
theorem dX11_days_17 : decode cX11_days 17 = .ok (.aload_n 0, 1) := by decide +kernel
theorem dX11_days_18 : decode cX11_days 18 = .ok (.getfield 18, 3) := by decide +kernel
theorem dX11_days_21 : decode cX11_days 21 = .ok (.getfield 77, 3) := by decide +kernel
theorem dX11_days_24 : decode cX11_days 24 = .ok (.ldc 186, 2) := by decide +kernel
theorem dX11_days_26 : decode cX11_days 26 = .ok (.iload_n 1, 1) := by decide +kernel
theorem dX11_days_27 : decode cX11_days 27 = .ok (.isub, 1) := by decide +kernel
theorem dX11_days_28 : decode cX11_days 28 = .ok (.if_icmp .le 10, 3) := by decide +kernel
theorem dX11_days_31 : decode cX11_days 31 = .ok (.aload_n 0, 1) := by decide +kernel
theorem dX11_days_32 : decode cX11_days 32 = .ok (.ldc 151, 2) := by decide +kernel
theorem dX11_days_34 : decode cX11_days 34 = .ok (.invokevirtual 73, 3) := by decide +kernel
theorem dX11_days_37 : decode cX11_days 37 = .ok (.ireturn, 1) := by decide +kernel
theorem dX11_days_38 : decode cX11_days 38 = .ok (.aload_n 0, 1) := by decide +kernel
theorem dX11_days_39 : decode cX11_days 39 = .ok (.getfield 18, 3) := by decide +kernel
theorem dX11_days_42 : decode cX11_days 42 = .ok (.iload_n 1, 1) := by decide +kernel
theorem dX11_days_43 : decode cX11_days 43 = .ok (.invokevirtual 187, 3) := by decide +kernel
theorem dX11_days_46 : decode cX11_days 46 = .ok (.aload_n 0, 1) := by decide +kernel
theorem dX11_days_47 : decode cX11_days 47 = .ok (.getfield 18, 3) := by decide +kernel
theorem dX11_days_50 : decode cX11_days 50 = .ok (.invokevirtual 80, 3) := by decide +kernel
theorem dX11_days_53 : decode cX11_days 53 = .ok (.ireturn, 1) := by decide +kernel
theorem dX11_on_0 : decode cX11_on 0 = .ok (.aload_n 0, 1) := by decide +kernel
theorem dX11_on_1 : decode cX11_on 1 = .ok (.getfield 18, 3) := by decide +kernel
theorem dX11_on_4 : decode cX11_on 4 = .ok (.iload_n 1, 1) := by decide +kernel
theorem dX11_on_5 : decode cX11_on 5 = .ok (.invokevirtual 102, 3) := by decide +kernel
theorem dX11_on_8 : decode cX11_on 8 = .ok (.astore 4, 2) := by decide +kernel
theorem dX11_on_10 : decode cX11_on 10 = .ok (.aload 4, 2) := by decide +kernel
theorem dX11_on_12 : decode cX11_on 12 = .ok (.ifnull 13, 3) := by decide +kernel
theorem dX11_on_15 : decode cX11_on 15 = .ok (.iload_n 2, 1) := by decide +kernel
theorem dX11_on_16 : decode cX11_on 16 = .ok (.iconst 0, 1) := by decide +kernel
theorem dX11_on_17 : decode cX11_on 17 = .ok (.bipush 100, 2) := by decide +kernel
theorem dX11_on_19 : decode cX11_on 19 = .ok (.invokestatic 61, 3) := by decide +kernel
theorem dX11_on_22 : decode cX11_on 22 = .ok (.ifCond .ne 10, 3) := by decide +kernel
theorem dX11_on_25 : decode cX11_on 25 = .ok (.aload_n 0, 1) := by decide +kernel
theorem dX11_on_26 : decode cX11_on 26 = .ok (.ldc 72, 2) := by decide +kernel
theorem dX11_on_28 : decode cX11_on 28 = .ok (.invokevirtual 73, 3) := by decide +kernel
theorem dX11_on_31 : decode cX11_on 31 = .ok (.ireturn, 1) := by decide +kernel
theorem dX11_on_32 : decode cX11_on 32 = .ok (.aload_n 0, 1) := by decide +kernel
theorem dX11_on_33 : decode cX11_on 33 = .ok (.getfield 35, 3) := by decide +kernel
theorem dX11_on_36 : decode cX11_on 36 = .ok (.aload 4, 2) := by decide +kernel
theorem dX11_on_38 : decode cX11_on 38 = .ok (.invokevirtual 190, 3) := by decide +kernel
theorem dX11_on_41 : decode cX11_on 41 = .ok (.aload_n 0, 1) := by decide +kernel
theorem dX11_on_42 : decode cX11_on 42 = .ok (.getfield 35, 3) := by decide +kernel
theorem dX11_on_45 : decode cX11_on 45 = .ok (.iload_n 2, 1) := by decide +kernel
theorem dX11_on_46 : decode cX11_on 46 = .ok (.invokevirtual 194, 3) := by decide +kernel
theorem dX11_on_49 : decode cX11_on 49 = .ok (.iload_n 3, 1) := by decide +kernel
theorem dX11_on_50 : decode cX11_on 50 = .ok (.tableswitch 50 0 2 #[26, 34, 42], 26) := by decide +kernel
theorem dX11_on_76 : decode cX11_on 76 = .ok (.aload_n 0, 1) := by decide +kernel
theorem dX11_on_77 : decode cX11_on 77 = .ok (.getfield 35, 3) := by decide +kernel
theorem dX11_on_80 : decode cX11_on 80 = .ok (.getfield 116, 3) := by decide +kernel
theorem dX11_on_83 : decode cX11_on 83 = .ok (.ireturn, 1) := by decide +kernel
theorem dX11_on_84 : decode cX11_on 84 = .ok (.aload_n 0, 1) := by decide +kernel
theorem dX11_on_85 : decode cX11_on 85 = .ok (.getfield 35, 3) := by decide +kernel
theorem dX11_on_88 : decode cX11_on 88 = .ok (.getfield 119, 3) := by decide +kernel
theorem dX11_on_91 : decode cX11_on 91 = .ok (.ireturn, 1) := by decide +kernel
theorem dX11_on_92 : decode cX11_on 92 = .ok (.aload_n 0, 1) := by decide +kernel
theorem dX11_on_93 : decode cX11_on 93 = .ok (.getfield 35, 3) := by decide +kernel
theorem dX11_on_96 : decode cX11_on 96 = .ok (.getfield 125, 3) := by decide +kernel
theorem dX11_on_99 : decode cX11_on 99 = .ok (.ireturn, 1) := by decide +kernel
theorem dX11_on_100 : decode cX11_on 100 = .ok (.aload_n 0, 1) := by decide +kernel
theorem dX11_on_101 : decode cX11_on 101 = .ok (.ldc 72, 2) := by decide +kernel
theorem dX11_on_103 : decode cX11_on 103 = .ok (.invokevirtual 73, 3) := by decide +kernel
theorem dX11_on_106 : decode cX11_on 106 = .ok (.ireturn, 1) := by decide +kernel
theorem dX11_again_0 : decode cX11_again 0 = .ok (.aload_n 0, 1) := by decide +kernel
theorem dX11_again_1 : decode cX11_again 1 = .ok (.getfield 18, 3) := by decide +kernel
theorem dX11_again_4 : decode cX11_again 4 = .ok (.iload_n 1, 1) := by decide +kernel
theorem dX11_again_5 : decode cX11_again 5 = .ok (.invokevirtual 102, 3) := by decide +kernel
theorem dX11_again_8 : decode cX11_again 8 = .ok (.astore 4, 2) := by decide +kernel
theorem dX11_again_10 : decode cX11_again 10 = .ok (.aload 4, 2) := by decide +kernel
theorem dX11_again_12 : decode cX11_again 12 = .ok (.ifnull 13, 3) := by decide +kernel
theorem dX11_again_15 : decode cX11_again 15 = .ok (.iload_n 2, 1) := by decide +kernel
theorem dX11_again_16 : decode cX11_again 16 = .ok (.iconst 0, 1) := by decide +kernel
theorem dX11_again_17 : decode cX11_again 17 = .ok (.bipush 40, 2) := by decide +kernel
theorem dX11_again_19 : decode cX11_again 19 = .ok (.invokestatic 61, 3) := by decide +kernel
theorem dX11_again_22 : decode cX11_again 22 = .ok (.ifCond .ne 10, 3) := by decide +kernel
theorem dX11_again_25 : decode cX11_again 25 = .ok (.aload_n 0, 1) := by decide +kernel
theorem dX11_again_26 : decode cX11_again 26 = .ok (.ldc 72, 2) := by decide +kernel
theorem dX11_again_28 : decode cX11_again 28 = .ok (.invokevirtual 73, 3) := by decide +kernel
theorem dX11_again_31 : decode cX11_again 31 = .ok (.ireturn, 1) := by decide +kernel
theorem dX11_again_32 : decode cX11_again 32 = .ok (.aload_n 0, 1) := by decide +kernel
theorem dX11_again_33 : decode cX11_again 33 = .ok (.aload 4, 2) := by decide +kernel
theorem dX11_again_35 : decode cX11_again 35 = .ok (.iload_n 2, 1) := by decide +kernel
theorem dX11_again_36 : decode cX11_again 36 = .ok (.invokevirtual 197, 3) := by decide +kernel
theorem dX11_again_39 : decode cX11_again 39 = .ok (.iload_n 3, 1) := by decide +kernel
theorem dX11_again_40 : decode cX11_again 40 = .ok (.tableswitch 52 0 2 #[28, 36, 44], 28) := by decide +kernel
theorem dX11_again_68 : decode cX11_again 68 = .ok (.aload_n 0, 1) := by decide +kernel
theorem dX11_again_69 : decode cX11_again 69 = .ok (.getfield 35, 3) := by decide +kernel
theorem dX11_again_72 : decode cX11_again 72 = .ok (.getfield 116, 3) := by decide +kernel
theorem dX11_again_75 : decode cX11_again 75 = .ok (.ireturn, 1) := by decide +kernel
theorem dX11_again_76 : decode cX11_again 76 = .ok (.aload_n 0, 1) := by decide +kernel
theorem dX11_again_77 : decode cX11_again 77 = .ok (.getfield 35, 3) := by decide +kernel
theorem dX11_again_80 : decode cX11_again 80 = .ok (.getfield 119, 3) := by decide +kernel
theorem dX11_again_83 : decode cX11_again 83 = .ok (.ireturn, 1) := by decide +kernel
theorem dX11_again_84 : decode cX11_again 84 = .ok (.aload_n 0, 1) := by decide +kernel
theorem dX11_again_85 : decode cX11_again 85 = .ok (.getfield 35, 3) := by decide +kernel
theorem dX11_again_88 : decode cX11_again 88 = .ok (.getfield 122, 3) := by decide +kernel
theorem dX11_again_91 : decode cX11_again 91 = .ok (.ireturn, 1) := by decide +kernel
theorem dX11_again_92 : decode cX11_again 92 = .ok (.aload_n 0, 1) := by decide +kernel
theorem dX11_again_93 : decode cX11_again 93 = .ok (.ldc 72, 2) := by decide +kernel
theorem dX11_again_95 : decode cX11_again 95 = .ok (.invokevirtual 73, 3) := by decide +kernel
theorem dX11_again_98 : decode cX11_again 98 = .ok (.ireturn, 1) := by decide +kernel
theorem dX11_washes_0 : decode cX11_washes 0 = .ok (.aload_n 0, 1) := by decide +kernel
theorem dX11_washes_1 : decode cX11_washes 1 = .ok (.getfield 18, 3) := by decide +kernel
theorem dX11_washes_4 : decode cX11_washes 4 = .ok (.iload_n 1, 1) := by decide +kernel
theorem dX11_washes_5 : decode cX11_washes 5 = .ok (.invokevirtual 102, 3) := by decide +kernel
theorem dX11_washes_8 : decode cX11_washes 8 = .ok (.astore_n 3, 1) := by decide +kernel
theorem dX11_washes_9 : decode cX11_washes 9 = .ok (.aload_n 0, 1) := by decide +kernel
theorem dX11_washes_10 : decode cX11_washes 10 = .ok (.getfield 18, 3) := by decide +kernel
theorem dX11_washes_13 : decode cX11_washes 13 = .ok (.iload_n 2, 1) := by decide +kernel
theorem dX11_washes_14 : decode cX11_washes 14 = .ok (.invokevirtual 174, 3) := by decide +kernel
theorem dX11_washes_17 : decode cX11_washes 17 = .ok (.astore 4, 2) := by decide +kernel
theorem dX11_washes_19 : decode cX11_washes 19 = .ok (.aload_n 3, 1) := by decide +kernel
theorem dX11_washes_20 : decode cX11_washes 20 = .ok (.ifnull 8, 3) := by decide +kernel
theorem dX11_washes_23 : decode cX11_washes 23 = .ok (.aload 4, 2) := by decide +kernel
theorem dX11_washes_25 : decode cX11_washes 25 = .ok (.ifnonnull 10, 3) := by decide +kernel
theorem dX11_washes_28 : decode cX11_washes 28 = .ok (.aload_n 0, 1) := by decide +kernel
theorem dX11_washes_29 : decode cX11_washes 29 = .ok (.ldc 72, 2) := by decide +kernel
theorem dX11_washes_31 : decode cX11_washes 31 = .ok (.invokevirtual 73, 3) := by decide +kernel
theorem dX11_washes_34 : decode cX11_washes 34 = .ok (.ireturn, 1) := by decide +kernel
theorem dX11_washes_35 : decode cX11_washes 35 = .ok (.iconst 1, 1) := by decide +kernel
theorem dX11_washes_36 : decode cX11_washes 36 = .ok (.istore 5, 2) := by decide +kernel
theorem dX11_washes_38 : decode cX11_washes 38 = .ok (.iload 5, 2) := by decide +kernel
theorem dX11_washes_40 : decode cX11_washes 40 = .ok (.bipush 40, 2) := by decide +kernel
theorem dX11_washes_42 : decode cX11_washes 42 = .ok (.if_icmp .gt 32, 3) := by decide +kernel
theorem dX11_washes_45 : decode cX11_washes 45 = .ok (.aload_n 0, 1) := by decide +kernel
theorem dX11_washes_46 : decode cX11_washes 46 = .ok (.aload_n 3, 1) := by decide +kernel
theorem dX11_washes_47 : decode cX11_washes 47 = .ok (.aload 4, 2) := by decide +kernel
theorem dX11_washes_49 : decode cX11_washes 49 = .ok (.iload 5, 2) := by decide +kernel
theorem dX11_washes_51 : decode cX11_washes 51 = .ok (.aload_n 0, 1) := by decide +kernel
theorem dX11_washes_52 : decode cX11_washes 52 = .ok (.getfield 18, 3) := by decide +kernel
theorem dX11_washes_55 : decode cX11_washes 55 = .ok (.getfield 65, 3) := by decide +kernel
theorem dX11_washes_58 : decode cX11_washes 58 = .ok (.iconst 0, 1) := by decide +kernel
theorem dX11_washes_59 : decode cX11_washes 59 = .ok (.invokevirtual 201, 3) := by decide +kernel
theorem dX11_washes_62 : decode cX11_washes 62 = .ok (.ifCond .eq 6, 3) := by decide +kernel
theorem dX11_washes_65 : decode cX11_washes 65 = .ok (.iload 5, 2) := by decide +kernel
theorem dX11_washes_67 : decode cX11_washes 67 = .ok (.ireturn, 1) := by decide +kernel
theorem dX11_washes_68 : decode cX11_washes 68 = .ok (.iinc 5 1, 3) := by decide +kernel
theorem dX11_washes_71 : decode cX11_washes 71 = .ok (.goto (-33), 3) := by decide +kernel
theorem dX11_washes_74 : decode cX11_washes 74 = .ok (.aload_n 0, 1) := by decide +kernel
theorem dX11_washes_75 : decode cX11_washes 75 = .ok (.ldc 205, 2) := by decide +kernel
theorem dX11_washes_77 : decode cX11_washes 77 = .ok (.invokevirtual 73, 3) := by decide +kernel
theorem dX11_washes_80 : decode cX11_washes 80 = .ok (.ireturn, 1) := by decide +kernel
theorem dX11_warmest_0 : decode cX11_warmest 0 = .ok (.aload_n 0, 1) := by decide +kernel
theorem dX11_warmest_1 : decode cX11_warmest 1 = .ok (.getfield 18, 3) := by decide +kernel
theorem dX11_warmest_4 : decode cX11_warmest 4 = .ok (.iload_n 1, 1) := by decide +kernel
theorem dX11_warmest_5 : decode cX11_warmest 5 = .ok (.invokevirtual 102, 3) := by decide +kernel
theorem dX11_warmest_8 : decode cX11_warmest 8 = .ok (.astore_n 3, 1) := by decide +kernel
theorem dX11_warmest_9 : decode cX11_warmest 9 = .ok (.aload_n 0, 1) := by decide +kernel
theorem dX11_warmest_10 : decode cX11_warmest 10 = .ok (.getfield 18, 3) := by decide +kernel
theorem dX11_warmest_13 : decode cX11_warmest 13 = .ok (.iload_n 2, 1) := by decide +kernel
theorem dX11_warmest_14 : decode cX11_warmest 14 = .ok (.invokevirtual 174, 3) := by decide +kernel
theorem dX11_warmest_17 : decode cX11_warmest 17 = .ok (.astore 4, 2) := by decide +kernel
theorem dX11_warmest_19 : decode cX11_warmest 19 = .ok (.aload_n 3, 1) := by decide +kernel
theorem dX11_warmest_20 : decode cX11_warmest 20 = .ok (.ifnull 8, 3) := by decide +kernel
theorem dX11_warmest_23 : decode cX11_warmest 23 = .ok (.aload 4, 2) := by decide +kernel
theorem dX11_warmest_25 : decode cX11_warmest 25 = .ok (.ifnonnull 10, 3) := by decide +kernel
theorem dX11_warmest_28 : decode cX11_warmest 28 = .ok (.aload_n 0, 1) := by decide +kernel
theorem dX11_warmest_29 : decode cX11_warmest 29 = .ok (.ldc 72, 2) := by decide +kernel
theorem dX11_warmest_31 : decode cX11_warmest 31 = .ok (.invokevirtual 73, 3) := by decide +kernel
theorem dX11_warmest_34 : decode cX11_warmest 34 = .ok (.ireturn, 1) := by decide +kernel
theorem dX11_warmest_35 : decode cX11_warmest 35 = .ok (.bipush 95, 2) := by decide +kernel
theorem dX11_warmest_37 : decode cX11_warmest 37 = .ok (.istore 5, 2) := by decide +kernel
theorem dX11_warmest_39 : decode cX11_warmest 39 = .ok (.iload 5, 2) := by decide +kernel
theorem dX11_warmest_41 : decode cX11_warmest 41 = .ok (.bipush 20, 2) := by decide +kernel
theorem dX11_warmest_43 : decode cX11_warmest 43 = .ok (.if_icmp .lt 26, 3) := by decide +kernel
theorem dX11_warmest_46 : decode cX11_warmest 46 = .ok (.aload_n 0, 1) := by decide +kernel
theorem dX11_warmest_47 : decode cX11_warmest 47 = .ok (.aload_n 3, 1) := by decide +kernel
theorem dX11_warmest_48 : decode cX11_warmest 48 = .ok (.aload 4, 2) := by decide +kernel
theorem dX11_warmest_50 : decode cX11_warmest 50 = .ok (.iconst 1, 1) := by decide +kernel
theorem dX11_warmest_51 : decode cX11_warmest 51 = .ok (.iload 5, 2) := by decide +kernel
theorem dX11_warmest_53 : decode cX11_warmest 53 = .ok (.iconst 0, 1) := by decide +kernel
theorem dX11_warmest_54 : decode cX11_warmest 54 = .ok (.invokevirtual 201, 3) := by decide +kernel
theorem dX11_warmest_57 : decode cX11_warmest 57 = .ok (.ifCond .eq 6, 3) := by decide +kernel
theorem dX11_warmest_60 : decode cX11_warmest 60 = .ok (.iload 5, 2) := by decide +kernel
theorem dX11_warmest_62 : decode cX11_warmest 62 = .ok (.ireturn, 1) := by decide +kernel
theorem dX11_warmest_63 : decode cX11_warmest 63 = .ok (.iinc 5 (-1), 3) := by decide +kernel
theorem dX11_warmest_66 : decode cX11_warmest 66 = .ok (.goto (-27), 3) := by decide +kernel
theorem dX11_warmest_69 : decode cX11_warmest 69 = .ok (.aload_n 0, 1) := by decide +kernel
theorem dX11_warmest_70 : decode cX11_warmest 70 = .ok (.ldc 205, 2) := by decide +kernel
theorem dX11_warmest_72 : decode cX11_warmest 72 = .ok (.invokevirtual 73, 3) := by decide +kernel
theorem dX11_warmest_75 : decode cX11_warmest 75 = .ok (.ireturn, 1) := by decide +kernel
theorem dX11_pull_0 : decode cX11_pull 0 = .ok (.aload_n 0, 1) := by decide +kernel
theorem dX11_pull_1 : decode cX11_pull 1 = .ok (.getfield 18, 3) := by decide +kernel
theorem dX11_pull_4 : decode cX11_pull 4 = .ok (.iload_n 1, 1) := by decide +kernel
theorem dX11_pull_5 : decode cX11_pull 5 = .ok (.invokevirtual 102, 3) := by decide +kernel
theorem dX11_pull_8 : decode cX11_pull 8 = .ok (.astore_n 3, 1) := by decide +kernel
theorem dX11_pull_9 : decode cX11_pull 9 = .ok (.aload_n 0, 1) := by decide +kernel
theorem dX11_pull_10 : decode cX11_pull 10 = .ok (.getfield 18, 3) := by decide +kernel
theorem dX11_pull_13 : decode cX11_pull 13 = .ok (.iload_n 2, 1) := by decide +kernel
theorem dX11_pull_14 : decode cX11_pull 14 = .ok (.invokevirtual 174, 3) := by decide +kernel
theorem dX11_pull_17 : decode cX11_pull 17 = .ok (.astore 4, 2) := by decide +kernel
theorem dX11_pull_19 : decode cX11_pull 19 = .ok (.aload_n 3, 1) := by decide +kernel
theorem dX11_pull_20 : decode cX11_pull 20 = .ok (.ifnull 8, 3) := by decide +kernel
theorem dX11_pull_23 : decode cX11_pull 23 = .ok (.aload 4, 2) := by decide +kernel
theorem dX11_pull_25 : decode cX11_pull 25 = .ok (.ifnonnull 10, 3) := by decide +kernel
theorem dX11_pull_28 : decode cX11_pull 28 = .ok (.aload_n 0, 1) := by decide +kernel
theorem dX11_pull_29 : decode cX11_pull 29 = .ok (.ldc 72, 2) := by decide +kernel
theorem dX11_pull_31 : decode cX11_pull 31 = .ok (.invokevirtual 73, 3) := by decide +kernel
theorem dX11_pull_34 : decode cX11_pull 34 = .ok (.ireturn, 1) := by decide +kernel
theorem dX11_pull_35 : decode cX11_pull 35 = .ok (.iconst 0, 1) := by decide +kernel
theorem dX11_pull_36 : decode cX11_pull 36 = .ok (.istore 5, 2) := by decide +kernel
theorem dX11_pull_38 : decode cX11_pull 38 = .ok (.iload 5, 2) := by decide +kernel
theorem dX11_pull_40 : decode cX11_pull 40 = .ok (.bipush 50, 2) := by decide +kernel
theorem dX11_pull_42 : decode cX11_pull 42 = .ok (.if_icmp .gt 32, 3) := by decide +kernel
theorem dX11_pull_45 : decode cX11_pull 45 = .ok (.aload_n 0, 1) := by decide +kernel
theorem dX11_pull_46 : decode cX11_pull 46 = .ok (.aload_n 3, 1) := by decide +kernel
theorem dX11_pull_47 : decode cX11_pull 47 = .ok (.aload 4, 2) := by decide +kernel
theorem dX11_pull_49 : decode cX11_pull 49 = .ok (.iconst 1, 1) := by decide +kernel
theorem dX11_pull_50 : decode cX11_pull 50 = .ok (.aload_n 0, 1) := by decide +kernel
theorem dX11_pull_51 : decode cX11_pull 51 = .ok (.getfield 18, 3) := by decide +kernel
theorem dX11_pull_54 : decode cX11_pull 54 = .ok (.getfield 65, 3) := by decide +kernel
theorem dX11_pull_57 : decode cX11_pull 57 = .ok (.iload 5, 2) := by decide +kernel
theorem dX11_pull_59 : decode cX11_pull 59 = .ok (.invokevirtual 201, 3) := by decide +kernel
theorem dX11_pull_62 : decode cX11_pull 62 = .ok (.ifCond .eq 6, 3) := by decide +kernel
theorem dX11_pull_65 : decode cX11_pull 65 = .ok (.iload 5, 2) := by decide +kernel
theorem dX11_pull_67 : decode cX11_pull 67 = .ok (.ireturn, 1) := by decide +kernel
theorem dX11_pull_68 : decode cX11_pull 68 = .ok (.iinc 5 1, 3) := by decide +kernel
theorem dX11_pull_71 : decode cX11_pull 71 = .ok (.goto (-33), 3) := by decide +kernel
theorem dX11_pull_74 : decode cX11_pull 74 = .ok (.aload_n 0, 1) := by decide +kernel
theorem dX11_pull_75 : decode cX11_pull 75 = .ok (.ldc 205, 2) := by decide +kernel
theorem dX11_pull_77 : decode cX11_pull 77 = .ok (.invokevirtual 73, 3) := by decide +kernel
theorem dX11_pull_80 : decode cX11_pull 80 = .ok (.ireturn, 1) := by decide +kernel
theorem dX11_kind_0 : decode cX11_kind 0 = .ok (.aload_n 0, 1) := by decide +kernel
theorem dX11_kind_1 : decode cX11_kind 1 = .ok (.getfield 18, 3) := by decide +kernel
theorem dX11_kind_4 : decode cX11_kind 4 = .ok (.iload_n 1, 1) := by decide +kernel
theorem dX11_kind_5 : decode cX11_kind 5 = .ok (.invokevirtual 102, 3) := by decide +kernel
theorem dX11_kind_8 : decode cX11_kind 8 = .ok (.astore_n 3, 1) := by decide +kernel
theorem dX11_kind_9 : decode cX11_kind 9 = .ok (.aload_n 3, 1) := by decide +kernel
theorem dX11_kind_10 : decode cX11_kind 10 = .ok (.ifnull 13, 3) := by decide +kernel
theorem dX11_kind_13 : decode cX11_kind 13 = .ok (.iload_n 2, 1) := by decide +kernel
theorem dX11_kind_14 : decode cX11_kind 14 = .ok (.iconst 1, 1) := by decide +kernel
theorem dX11_kind_15 : decode cX11_kind 15 = .ok (.bipush 40, 2) := by decide +kernel
theorem dX11_kind_17 : decode cX11_kind 17 = .ok (.invokestatic 61, 3) := by decide +kernel
theorem dX11_kind_20 : decode cX11_kind 20 = .ok (.ifCond .ne 10, 3) := by decide +kernel
theorem dX11_kind_23 : decode cX11_kind 23 = .ok (.aload_n 0, 1) := by decide +kernel
theorem dX11_kind_24 : decode cX11_kind 24 = .ok (.ldc 72, 2) := by decide +kernel
theorem dX11_kind_26 : decode cX11_kind 26 = .ok (.invokevirtual 73, 3) := by decide +kernel
theorem dX11_kind_29 : decode cX11_kind 29 = .ok (.ireturn, 1) := by decide +kernel
theorem dX11_kind_30 : decode cX11_kind 30 = .ok (.iconst 0, 1) := by decide +kernel
theorem dX11_kind_31 : decode cX11_kind 31 = .ok (.istore 4, 2) := by decide +kernel
theorem dX11_kind_33 : decode cX11_kind 33 = .ok (.iconst (-1), 1) := by decide +kernel
theorem dX11_kind_34 : decode cX11_kind 34 = .ok (.istore 5, 2) := by decide +kernel
theorem dX11_kind_36 : decode cX11_kind 36 = .ok (.iconst 0, 1) := by decide +kernel
theorem dX11_kind_37 : decode cX11_kind 37 = .ok (.istore 6, 2) := by decide +kernel
theorem dX11_kind_39 : decode cX11_kind 39 = .ok (.iload 6, 2) := by decide +kernel
theorem dX11_kind_41 : decode cX11_kind 41 = .ok (.bipush 6, 2) := by decide +kernel
theorem dX11_kind_43 : decode cX11_kind 43 = .ok (.if_icmp .ge 66, 3) := by decide +kernel
theorem dX11_kind_46 : decode cX11_kind 46 = .ok (.aload_n 0, 1) := by decide +kernel
theorem dX11_kind_47 : decode cX11_kind 47 = .ok (.aload_n 3, 1) := by decide +kernel
theorem dX11_kind_48 : decode cX11_kind 48 = .ok (.iload 6, 2) := by decide +kernel
theorem dX11_kind_50 : decode cX11_kind 50 = .ok (.invokevirtual 206, 3) := by decide +kernel
theorem dX11_kind_53 : decode cX11_kind 53 = .ok (.ifCond .eq 50, 3) := by decide +kernel
theorem dX11_kind_56 : decode cX11_kind 56 = .ok (.aload_n 0, 1) := by decide +kernel
theorem dX11_kind_57 : decode cX11_kind 57 = .ok (.getfield 35, 3) := by decide +kernel
theorem dX11_kind_60 : decode cX11_kind 60 = .ok (.iload_n 2, 1) := by decide +kernel
theorem dX11_kind_61 : decode cX11_kind 61 = .ok (.aload_n 0, 1) := by decide +kernel
theorem dX11_kind_62 : decode cX11_kind 62 = .ok (.getfield 18, 3) := by decide +kernel
theorem dX11_kind_65 : decode cX11_kind 65 = .ok (.getfield 65, 3) := by decide +kernel
theorem dX11_kind_68 : decode cX11_kind 68 = .ok (.aload_n 0, 1) := by decide +kernel
theorem dX11_kind_69 : decode cX11_kind 69 = .ok (.getfield 18, 3) := by decide +kernel
theorem dX11_kind_72 : decode cX11_kind 72 = .ok (.getfield 69, 3) := by decide +kernel
theorem dX11_kind_75 : decode cX11_kind 75 = .ok (.invokevirtual 210, 3) := by decide +kernel
theorem dX11_kind_78 : decode cX11_kind 78 = .ok (.aload_n 0, 1) := by decide +kernel
theorem dX11_kind_79 : decode cX11_kind 79 = .ok (.getfield 35, 3) := by decide +kernel
theorem dX11_kind_82 : decode cX11_kind 82 = .ok (.getfield 116, 3) := by decide +kernel
theorem dX11_kind_85 : decode cX11_kind 85 = .ok (.iload 5, 2) := by decide +kernel
theorem dX11_kind_87 : decode cX11_kind 87 = .ok (.if_icmp .le 16, 3) := by decide +kernel
theorem dX11_kind_90 : decode cX11_kind 90 = .ok (.aload_n 0, 1) := by decide +kernel
theorem dX11_kind_91 : decode cX11_kind 91 = .ok (.getfield 35, 3) := by decide +kernel
theorem dX11_kind_94 : decode cX11_kind 94 = .ok (.getfield 116, 3) := by decide +kernel
theorem dX11_kind_97 : decode cX11_kind 97 = .ok (.istore 5, 2) := by decide +kernel
theorem dX11_kind_99 : decode cX11_kind 99 = .ok (.iload 6, 2) := by decide +kernel
theorem dX11_kind_101 : decode cX11_kind 101 = .ok (.istore 4, 2) := by decide +kernel
theorem dX11_kind_103 : decode cX11_kind 103 = .ok (.iinc 6 1, 3) := by decide +kernel
theorem dX11_kind_106 : decode cX11_kind 106 = .ok (.goto (-67), 3) := by decide +kernel
theorem dX11_kind_109 : decode cX11_kind 109 = .ok (.iload 4, 2) := by decide +kernel
theorem dX11_kind_111 : decode cX11_kind 111 = .ok (.ireturn, 1) := by decide +kernel
theorem dX11_dressed_0 : decode cX11_dressed 0 = .ok (.iload_n 1, 1) := by decide +kernel
theorem dX11_dressed_1 : decode cX11_dressed 1 = .ok (.iconst 0, 1) := by decide +kernel
theorem dX11_dressed_2 : decode cX11_dressed 2 = .ok (.bipush 100, 2) := by decide +kernel
theorem dX11_dressed_4 : decode cX11_dressed 4 = .ok (.invokestatic 61, 3) := by decide +kernel
theorem dX11_dressed_7 : decode cX11_dressed 7 = .ok (.ifCond .ne 10, 3) := by decide +kernel
theorem dX11_dressed_10 : decode cX11_dressed 10 = .ok (.aload_n 0, 1) := by decide +kernel
theorem dX11_dressed_11 : decode cX11_dressed 11 = .ok (.ldc 72, 2) := by decide +kernel
theorem dX11_dressed_13 : decode cX11_dressed 13 = .ok (.invokevirtual 73, 3) := by decide +kernel
theorem dX11_dressed_16 : decode cX11_dressed 16 = .ok (.ireturn, 1) := by decide +kernel
theorem dX11_dressed_17 : decode cX11_dressed 17 = .ok (.aload_n 0, 1) := by decide +kernel
theorem dX11_dressed_18 : decode cX11_dressed 18 = .ok (.getfield 18, 3) := by decide +kernel
theorem dX11_dressed_21 : decode cX11_dressed 21 = .ok (.getfield 171, 3) := by decide +kernel
theorem dX11_dressed_24 : decode cX11_dressed 24 = .ok (.ifCond .ne 10, 3) := by decide +kernel
theorem dX11_dressed_27 : decode cX11_dressed 27 = .ok (.aload_n 0, 1) := by decide +kernel
theorem dX11_dressed_28 : decode cX11_dressed 28 = .ok (.ldc 205, 2) := by decide +kernel
theorem dX11_dressed_30 : decode cX11_dressed 30 = .ok (.invokevirtual 73, 3) := by decide +kernel
theorem dX11_dressed_33 : decode cX11_dressed 33 = .ok (.ireturn, 1) := by decide +kernel
theorem dX11_dressed_34 : decode cX11_dressed 34 = .ok (.aload_n 0, 1) := by decide +kernel
theorem dX11_dressed_35 : decode cX11_dressed 35 = .ok (.getfield 27, 3) := by decide +kernel
theorem dX11_dressed_38 : decode cX11_dressed 38 = .ok (.aload_n 0, 1) := by decide +kernel
theorem dX11_dressed_39 : decode cX11_dressed 39 = .ok (.getfield 18, 3) := by decide +kernel
theorem dX11_dressed_42 : decode cX11_dressed 42 = .ok (.invokevirtual 214, 3) := by decide +kernel
theorem dX11_dressed_45 : decode cX11_dressed 45 = .ok (.aload_n 0, 1) := by decide +kernel
theorem dX11_dressed_46 : decode cX11_dressed 46 = .ok (.getfield 27, 3) := by decide +kernel
theorem dX11_dressed_49 : decode cX11_dressed 49 = .ok (.iload_n 1, 1) := by decide +kernel
theorem dX11_dressed_50 : decode cX11_dressed 50 = .ok (.invokevirtual 187, 3) := by decide +kernel
theorem dX11_dressed_53 : decode cX11_dressed 53 = .ok (.aload_n 0, 1) := by decide +kernel
theorem dX11_dressed_54 : decode cX11_dressed 54 = .ok (.getfield 27, 3) := by decide +kernel
theorem dX11_dressed_57 : decode cX11_dressed 57 = .ok (.invokevirtual 217, 3) := by decide +kernel
theorem dX11_dressed_60 : decode cX11_dressed 60 = .ok (.ireturn, 1) := by decide +kernel
theorem dX11_shortest_0 : decode cX11_shortest 0 = .ok (.iload_n 1, 1) := by decide +kernel
theorem dX11_shortest_1 : decode cX11_shortest 1 = .ok (.iconst 0, 1) := by decide +kernel
theorem dX11_shortest_2 : decode cX11_shortest 2 = .ok (.bipush 40, 2) := by decide +kernel
theorem dX11_shortest_4 : decode cX11_shortest 4 = .ok (.invokestatic 61, 3) := by decide +kernel
theorem dX11_shortest_7 : decode cX11_shortest 7 = .ok (.ifCond .ne 10, 3) := by decide +kernel
theorem dX11_shortest_10 : decode cX11_shortest 10 = .ok (.aload_n 0, 1) := by decide +kernel
theorem dX11_shortest_11 : decode cX11_shortest 11 = .ok (.ldc 72, 2) := by decide +kernel
theorem dX11_shortest_13 : decode cX11_shortest 13 = .ok (.invokevirtual 73, 3) := by decide +kernel
theorem dX11_shortest_16 : decode cX11_shortest 16 = .ok (.ireturn, 1) := by decide +kernel
theorem dX11_shortest_17 : decode cX11_shortest 17 = .ok (.iconst (-1), 1) := by decide +kernel
theorem dX11_shortest_18 : decode cX11_shortest 18 = .ok (.istore_n 2, 1) := by decide +kernel
theorem dX11_shortest_19 : decode cX11_shortest 19 = .ok (.sipush 201, 3) := by decide +kernel
theorem dX11_shortest_22 : decode cX11_shortest 22 = .ok (.istore_n 3, 1) := by decide +kernel
theorem dX11_shortest_23 : decode cX11_shortest 23 = .ok (.iconst 0, 1) := by decide +kernel
theorem dX11_shortest_24 : decode cX11_shortest 24 = .ok (.istore 4, 2) := by decide +kernel
theorem dX11_shortest_26 : decode cX11_shortest 26 = .ok (.iload 4, 2) := by decide +kernel
theorem dX11_shortest_28 : decode cX11_shortest 28 = .ok (.aload_n 0, 1) := by decide +kernel
theorem dX11_shortest_29 : decode cX11_shortest 29 = .ok (.getfield 18, 3) := by decide +kernel
theorem dX11_shortest_32 : decode cX11_shortest 32 = .ok (.getfield 99, 3) := by decide +kernel
theorem dX11_shortest_35 : decode cX11_shortest 35 = .ok (.if_icmp .ge 54, 3) := by decide +kernel
theorem dX11_shortest_38 : decode cX11_shortest 38 = .ok (.aload_n 0, 1) := by decide +kernel
theorem dX11_shortest_39 : decode cX11_shortest 39 = .ok (.getfield 18, 3) := by decide +kernel
theorem dX11_shortest_42 : decode cX11_shortest 42 = .ok (.iload 4, 2) := by decide +kernel
theorem dX11_shortest_44 : decode cX11_shortest 44 = .ok (.invokevirtual 102, 3) := by decide +kernel
theorem dX11_shortest_47 : decode cX11_shortest 47 = .ok (.astore 5, 2) := by decide +kernel
theorem dX11_shortest_49 : decode cX11_shortest 49 = .ok (.aload 5, 2) := by decide +kernel
theorem dX11_shortest_51 : decode cX11_shortest 51 = .ok (.ifnull 32, 3) := by decide +kernel
theorem dX11_shortest_54 : decode cX11_shortest 54 = .ok (.aload_n 0, 1) := by decide +kernel
theorem dX11_shortest_55 : decode cX11_shortest 55 = .ok (.aload 5, 2) := by decide +kernel
theorem dX11_shortest_57 : decode cX11_shortest 57 = .ok (.iload_n 1, 1) := by decide +kernel
theorem dX11_shortest_58 : decode cX11_shortest 58 = .ok (.invokevirtual 197, 3) := by decide +kernel
theorem dX11_shortest_61 : decode cX11_shortest 61 = .ok (.aload_n 0, 1) := by decide +kernel
theorem dX11_shortest_62 : decode cX11_shortest 62 = .ok (.getfield 35, 3) := by decide +kernel
theorem dX11_shortest_65 : decode cX11_shortest 65 = .ok (.getfield 116, 3) := by decide +kernel
theorem dX11_shortest_68 : decode cX11_shortest 68 = .ok (.iload_n 3, 1) := by decide +kernel
theorem dX11_shortest_69 : decode cX11_shortest 69 = .ok (.if_icmp .ge 14, 3) := by decide +kernel
theorem dX11_shortest_72 : decode cX11_shortest 72 = .ok (.aload_n 0, 1) := by decide +kernel
theorem dX11_shortest_73 : decode cX11_shortest 73 = .ok (.getfield 35, 3) := by decide +kernel
theorem dX11_shortest_76 : decode cX11_shortest 76 = .ok (.getfield 116, 3) := by decide +kernel
theorem dX11_shortest_79 : decode cX11_shortest 79 = .ok (.istore_n 3, 1) := by decide +kernel
theorem dX11_shortest_80 : decode cX11_shortest 80 = .ok (.iload 4, 2) := by decide +kernel
theorem dX11_shortest_82 : decode cX11_shortest 82 = .ok (.istore_n 2, 1) := by decide +kernel
theorem dX11_shortest_83 : decode cX11_shortest 83 = .ok (.iinc 4 1, 3) := by decide +kernel
theorem dX11_shortest_86 : decode cX11_shortest 86 = .ok (.goto (-60), 3) := by decide +kernel
theorem dX11_shortest_89 : decode cX11_shortest 89 = .ok (.iload_n 2, 1) := by decide +kernel
theorem dX11_shortest_90 : decode cX11_shortest 90 = .ok (.ifCond .ge 12, 3) := by decide +kernel
theorem dX11_shortest_93 : decode cX11_shortest 93 = .ok (.aload_n 0, 1) := by decide +kernel
theorem dX11_shortest_94 : decode cX11_shortest 94 = .ok (.ldc 205, 2) := by decide +kernel
theorem dX11_shortest_96 : decode cX11_shortest 96 = .ok (.invokevirtual 73, 3) := by decide +kernel
theorem dX11_shortest_99 : decode cX11_shortest 99 = .ok (.goto 4, 3) := by decide +kernel
theorem dX11_shortest_102 : decode cX11_shortest 102 = .ok (.iload_n 2, 1) := by decide +kernel
theorem dX11_shortest_103 : decode cX11_shortest 103 = .ok (.ireturn, 1) := by decide +kernel
theorem dX11_feed_0 : decode cX11_feed 0 = .ok (.iload_n 2, 1) := by decide +kernel
theorem dX11_feed_1 : decode cX11_feed 1 = .ok (.iconst 1, 1) := by decide +kernel
theorem dX11_feed_2 : decode cX11_feed 2 = .ok (.iconst 4, 1) := by decide +kernel
theorem dX11_feed_3 : decode cX11_feed 3 = .ok (.invokestatic 61, 3) := by decide +kernel
theorem dX11_feed_6 : decode cX11_feed 6 = .ok (.ifCond .ne 10, 3) := by decide +kernel
theorem dX11_feed_9 : decode cX11_feed 9 = .ok (.aload_n 0, 1) := by decide +kernel
theorem dX11_feed_10 : decode cX11_feed 10 = .ok (.ldc 72, 2) := by decide +kernel
theorem dX11_feed_12 : decode cX11_feed 12 = .ok (.invokevirtual 73, 3) := by decide +kernel
theorem dX11_feed_15 : decode cX11_feed 15 = .ok (.ireturn, 1) := by decide +kernel
theorem dX11_feed_16 : decode cX11_feed 16 = .ok (.aload_n 0, 1) := by decide +kernel
theorem dX11_feed_17 : decode cX11_feed 17 = .ok (.getfield 42, 3) := by decide +kernel
theorem dX11_feed_20 : decode cX11_feed 20 = .ok (.getfield 220, 3) := by decide +kernel
theorem dX11_feed_23 : decode cX11_feed 23 = .ok (.bipush 120, 2) := by decide +kernel
theorem dX11_feed_25 : decode cX11_feed 25 = .ok (.iload_n 2, 1) := by decide +kernel
theorem dX11_feed_26 : decode cX11_feed 26 = .ok (.isub, 1) := by decide +kernel
theorem dX11_feed_27 : decode cX11_feed 27 = .ok (.if_icmp .le 10, 3) := by decide +kernel
theorem dX11_feed_30 : decode cX11_feed 30 = .ok (.aload_n 0, 1) := by decide +kernel
theorem dX11_feed_31 : decode cX11_feed 31 = .ok (.ldc 98, 2) := by decide +kernel
theorem dX11_feed_33 : decode cX11_feed 33 = .ok (.invokevirtual 73, 3) := by decide +kernel
theorem dX11_feed_36 : decode cX11_feed 36 = .ok (.ireturn, 1) := by decide +kernel
theorem dX11_feed_37 : decode cX11_feed 37 = .ok (.iload_n 2, 1) := by decide +kernel
theorem dX11_feed_38 : decode cX11_feed 38 = .ok (.iconst 1, 1) := by decide +kernel
theorem dX11_feed_39 : decode cX11_feed 39 = .ok (.isub, 1) := by decide +kernel
theorem dX11_feed_40 : decode cX11_feed 40 = .ok (.istore_n 3, 1) := by decide +kernel
theorem dX11_feed_41 : decode cX11_feed 41 = .ok (.iload_n 3, 1) := by decide +kernel
theorem dX11_feed_42 : decode cX11_feed 42 = .ok (.ifCond .lt 23, 3) := by decide +kernel
theorem dX11_feed_45 : decode cX11_feed 45 = .ok (.aload_n 0, 1) := by decide +kernel
theorem dX11_feed_46 : decode cX11_feed 46 = .ok (.getfield 42, 3) := by decide +kernel
theorem dX11_feed_49 : decode cX11_feed 49 = .ok (.iload_n 1, 1) := by decide +kernel
theorem dX11_feed_50 : decode cX11_feed 50 = .ok (.bipush 8, 2) := by decide +kernel
theorem dX11_feed_52 : decode cX11_feed 52 = .ok (.iload_n 3, 1) := by decide +kernel
theorem dX11_feed_53 : decode cX11_feed 53 = .ok (.imul, 1) := by decide +kernel
theorem dX11_feed_54 : decode cX11_feed 54 = .ok (.ishr, 1) := by decide +kernel
theorem dX11_feed_55 : decode cX11_feed 55 = .ok (.i2b, 1) := by decide +kernel
theorem dX11_feed_56 : decode cX11_feed 56 = .ok (.invokevirtual 223, 3) := by decide +kernel
theorem dX11_feed_59 : decode cX11_feed 59 = .ok (.iinc 3 (-1), 3) := by decide +kernel
theorem dX11_feed_62 : decode cX11_feed 62 = .ok (.goto (-21), 3) := by decide +kernel
theorem dX11_feed_65 : decode cX11_feed 65 = .ok (.aload_n 0, 1) := by decide +kernel
theorem dX11_feed_66 : decode cX11_feed 66 = .ok (.getfield 42, 3) := by decide +kernel
theorem dX11_feed_69 : decode cX11_feed 69 = .ok (.getfield 220, 3) := by decide +kernel
theorem dX11_feed_72 : decode cX11_feed 72 = .ok (.ireturn, 1) := by decide +kernel
theorem dX11_wipe_0 : decode cX11_wipe 0 = .ok (.aload_n 0, 1) := by decide +kernel
theorem dX11_wipe_1 : decode cX11_wipe 1 = .ok (.getfield 42, 3) := by decide +kernel
theorem dX11_wipe_4 : decode cX11_wipe 4 = .ok (.invokevirtual 227, 3) := by decide +kernel
theorem dX11_wipe_7 : decode cX11_wipe 7 = .ok (.ireturn, 1) := by decide +kernel
theorem dX11_basket_0 : decode cX11_basket 0 = .ok (.aload_n 0, 1) := by decide +kernel
theorem dX11_basket_1 : decode cX11_basket 1 = .ok (.getfield 27, 3) := by decide +kernel
theorem dX11_basket_4 : decode cX11_basket 4 = .ok (.aload_n 0, 1) := by decide +kernel
theorem dX11_basket_5 : decode cX11_basket 5 = .ok (.getfield 18, 3) := by decide +kernel
theorem dX11_basket_8 : decode cX11_basket 8 = .ok (.invokevirtual 214, 3) := by decide +kernel
theorem dX11_basket_11 : decode cX11_basket 11 = .ok (.aload_n 0, 1) := by decide +kernel
theorem dX11_basket_12 : decode cX11_basket 12 = .ok (.getfield 42, 3) := by decide +kernel
theorem dX11_basket_15 : decode cX11_basket 15 = .ok (.aload_n 0, 1) := by decide +kernel
theorem dX11_basket_16 : decode cX11_basket 16 = .ok (.getfield 27, 3) := by decide +kernel
theorem dX11_basket_19 : decode cX11_basket 19 = .ok (.invokevirtual 230, 3) := by decide +kernel
theorem dX11_basket_22 : decode cX11_basket 22 = .ok (.istore_n 1, 1) := by decide +kernel
theorem dX11_basket_23 : decode cX11_basket 23 = .ok (.aload_n 0, 1) := by decide +kernel
theorem dX11_basket_24 : decode cX11_basket 24 = .ok (.getfield 42, 3) := by decide +kernel
theorem dX11_basket_27 : decode cX11_basket 27 = .ok (.invokevirtual 227, 3) := by decide +kernel
theorem dX11_basket_30 : decode cX11_basket 30 = .ok (.pop, 1) := by decide +kernel
theorem dX11_basket_31 : decode cX11_basket 31 = .ok (.iload_n 1, 1) := by decide +kernel
theorem dX11_basket_32 : decode cX11_basket 32 = .ok (.ifCond .lt 14, 3) := by decide +kernel
theorem dX11_basket_35 : decode cX11_basket 35 = .ok (.aload_n 0, 1) := by decide +kernel
theorem dX11_basket_36 : decode cX11_basket 36 = .ok (.getfield 18, 3) := by decide +kernel
theorem dX11_basket_39 : decode cX11_basket 39 = .ok (.aload_n 0, 1) := by decide +kernel
theorem dX11_basket_40 : decode cX11_basket 40 = .ok (.getfield 27, 3) := by decide +kernel
theorem dX11_basket_43 : decode cX11_basket 43 = .ok (.invokevirtual 214, 3) := by decide +kernel
theorem dX11_basket_46 : decode cX11_basket 46 = .ok (.iload_n 1, 1) := by decide +kernel
theorem dX11_basket_47 : decode cX11_basket 47 = .ok (.ireturn, 1) := by decide +kernel
theorem dX11_sheet_0 : decode cX11_sheet 0 = .ok (.aload_n 0, 1) := by decide +kernel
theorem dX11_sheet_1 : decode cX11_sheet 1 = .ok (.iload_n 1, 1) := by decide +kernel
theorem dX11_sheet_2 : decode cX11_sheet 2 = .ok (.invokevirtual 234, 3) := by decide +kernel
theorem dX11_sheet_5 : decode cX11_sheet 5 = .ok (.astore 4, 2) := by decide +kernel
theorem dX11_sheet_7 : decode cX11_sheet 7 = .ok (.aload 4, 2) := by decide +kernel
theorem dX11_sheet_9 : decode cX11_sheet 9 = .ok (.ifnull 25, 3) := by decide +kernel
theorem dX11_sheet_12 : decode cX11_sheet 12 = .ok (.iload_n 2, 1) := by decide +kernel
theorem dX11_sheet_13 : decode cX11_sheet 13 = .ok (.ifCond .eq 28, 3) := by decide +kernel
theorem dX11_sheet_16 : decode cX11_sheet 16 = .ok (.iload_n 2, 1) := by decide +kernel
theorem dX11_sheet_17 : decode cX11_sheet 17 = .ok (.bipush 8, 2) := by decide +kernel
theorem dX11_sheet_19 : decode cX11_sheet 19 = .ok (.if_icmp .eq 22, 3) := by decide +kernel
theorem dX11_sheet_22 : decode cX11_sheet 22 = .ok (.iload_n 2, 1) := by decide +kernel
theorem dX11_sheet_23 : decode cX11_sheet 23 = .ok (.bipush 16, 2) := by decide +kernel
theorem dX11_sheet_25 : decode cX11_sheet 25 = .ok (.if_icmp .eq 16, 3) := by decide +kernel
theorem dX11_sheet_28 : decode cX11_sheet 28 = .ok (.iload_n 2, 1) := by decide +kernel
theorem dX11_sheet_29 : decode cX11_sheet 29 = .ok (.bipush 64, 2) := by decide +kernel
theorem dX11_sheet_31 : decode cX11_sheet 31 = .ok (.if_icmp .eq 10, 3) := by decide +kernel
theorem dX11_sheet_34 : decode cX11_sheet 34 = .ok (.aload_n 0, 1) := by decide +kernel
theorem dX11_sheet_35 : decode cX11_sheet 35 = .ok (.ldc 72, 2) := by decide +kernel
theorem dX11_sheet_37 : decode cX11_sheet 37 = .ok (.invokevirtual 73, 3) := by decide +kernel
theorem dX11_sheet_40 : decode cX11_sheet 40 = .ok (.ireturn, 1) := by decide +kernel
theorem dX11_sheet_41 : decode cX11_sheet 41 = .ok (.iload_n 3, 1) := by decide +kernel
theorem dX11_sheet_42 : decode cX11_sheet 42 = .ok (.ifCond .ge 10, 3) := by decide +kernel
theorem dX11_sheet_45 : decode cX11_sheet 45 = .ok (.aload_n 0, 1) := by decide +kernel
theorem dX11_sheet_46 : decode cX11_sheet 46 = .ok (.ldc 238, 2) := by decide +kernel
theorem dX11_sheet_48 : decode cX11_sheet 48 = .ok (.invokevirtual 73, 3) := by decide +kernel
theorem dX11_sheet_51 : decode cX11_sheet 51 = .ok (.ireturn, 1) := by decide +kernel
theorem dX11_sheet_52 : decode cX11_sheet 52 = .ok (.iload_n 3, 1) := by decide +kernel
theorem dX11_sheet_53 : decode cX11_sheet 53 = .ok (.bipush 40, 2) := by decide +kernel
theorem dX11_sheet_55 : decode cX11_sheet 55 = .ok (.if_icmp .le 10, 3) := by decide +kernel
theorem dX11_sheet_58 : decode cX11_sheet 58 = .ok (.aload_n 0, 1) := by decide +kernel
theorem dX11_sheet_59 : decode cX11_sheet 59 = .ok (.ldc 72, 2) := by decide +kernel
theorem dX11_sheet_61 : decode cX11_sheet 61 = .ok (.invokevirtual 73, 3) := by decide +kernel
theorem dX11_sheet_64 : decode cX11_sheet 64 = .ok (.ireturn, 1) := by decide +kernel
theorem dX11_sheet_65 : decode cX11_sheet 65 = .ok (.aload 4, 2) := by decide +kernel
theorem dX11_sheet_67 : decode cX11_sheet 67 = .ok (.iload_n 2, 1) := by decide +kernel
theorem dX11_sheet_68 : decode cX11_sheet 68 = .ok (.iload_n 3, 1) := by decide +kernel
theorem dX11_sheet_69 : decode cX11_sheet 69 = .ok (.invokevirtual 239, 3) := by decide +kernel
theorem dX11_sheet_72 : decode cX11_sheet 72 = .ok (.aload 4, 2) := by decide +kernel
theorem dX11_sheet_74 : decode cX11_sheet 74 = .ok (.getfield 242, 3) := by decide +kernel
theorem dX11_sheet_77 : decode cX11_sheet 77 = .ok (.ireturn, 1) := by decide +kernel
theorem dX11_write_0 : decode cX11_write 0 = .ok (.aload_n 0, 1) := by decide +kernel
theorem dX11_write_1 : decode cX11_write 1 = .ok (.iload_n 1, 1) := by decide +kernel
theorem dX11_write_2 : decode cX11_write 2 = .ok (.invokevirtual 234, 3) := by decide +kernel
theorem dX11_write_5 : decode cX11_write 5 = .ok (.astore 5, 2) := by decide +kernel
theorem dX11_write_7 : decode cX11_write 7 = .ok (.aload 5, 2) := by decide +kernel
theorem dX11_write_9 : decode cX11_write 9 = .ok (.ifnonnull 11, 3) := by decide +kernel
theorem dX11_write_12 : decode cX11_write 12 = .ok (.aload_n 0, 1) := by decide +kernel
theorem dX11_write_13 : decode cX11_write 13 = .ok (.ldc 72, 2) := by decide +kernel
theorem dX11_write_15 : decode cX11_write 15 = .ok (.invokevirtual 73, 3) := by decide +kernel
theorem dX11_write_18 : decode cX11_write 18 = .ok (.i2l, 1) := by decide +kernel
theorem dX11_write_19 : decode cX11_write 19 = .ok (.lreturn, 1) := by decide +kernel
theorem dX11_write_20 : decode cX11_write 20 = .ok (.aload 5, 2) := by decide +kernel
theorem dX11_write_22 : decode cX11_write 22 = .ok (.invokevirtual 243, 3) := by decide +kernel
theorem dX11_write_25 : decode cX11_write 25 = .ok (.ifCond .eq 11, 3) := by decide +kernel
theorem dX11_write_28 : decode cX11_write 28 = .ok (.aload_n 0, 1) := by decide +kernel
theorem dX11_write_29 : decode cX11_write 29 = .ok (.ldc 247, 2) := by decide +kernel
theorem dX11_write_31 : decode cX11_write 31 = .ok (.invokevirtual 73, 3) := by decide +kernel
theorem dX11_write_34 : decode cX11_write 34 = .ok (.i2l, 1) := by decide +kernel
theorem dX11_write_35 : decode cX11_write 35 = .ok (.lreturn, 1) := by decide +kernel
theorem dX11_write_36 : decode cX11_write 36 = .ok (.iload_n 2, 1) := by decide +kernel
theorem dX11_write_37 : decode cX11_write 37 = .ok (.iconst 0, 1) := by decide +kernel
theorem dX11_write_38 : decode cX11_write 38 = .ok (.aload 5, 2) := by decide +kernel
theorem dX11_write_40 : decode cX11_write 40 = .ok (.getfield 242, 3) := by decide +kernel
theorem dX11_write_43 : decode cX11_write 43 = .ok (.iconst 1, 1) := by decide +kernel
theorem dX11_write_44 : decode cX11_write 44 = .ok (.isub, 1) := by decide +kernel
theorem dX11_write_45 : decode cX11_write 45 = .ok (.invokestatic 61, 3) := by decide +kernel
theorem dX11_write_48 : decode cX11_write 48 = .ok (.ifCond .ne 11, 3) := by decide +kernel
theorem dX11_write_51 : decode cX11_write 51 = .ok (.aload_n 0, 1) := by decide +kernel
theorem dX11_write_52 : decode cX11_write 52 = .ok (.ldc 72, 2) := by decide +kernel
theorem dX11_write_54 : decode cX11_write 54 = .ok (.invokevirtual 73, 3) := by decide +kernel
theorem dX11_write_57 : decode cX11_write 57 = .ok (.i2l, 1) := by decide +kernel
theorem dX11_write_58 : decode cX11_write 58 = .ok (.lreturn, 1) := by decide +kernel
theorem dX11_write_59 : decode cX11_write 59 = .ok (.aload 5, 2) := by decide +kernel
theorem dX11_write_61 : decode cX11_write 61 = .ok (.getfield 248, 3) := by decide +kernel
theorem dX11_write_64 : decode cX11_write 64 = .ok (.iload_n 2, 1) := by decide +kernel
theorem dX11_write_65 : decode cX11_write 65 = .ok (.laload, 1) := by decide +kernel
theorem dX11_write_66 : decode cX11_write 66 = .ok (.lstore 6, 2) := by decide +kernel
theorem dX11_write_68 : decode cX11_write 68 = .ok (.aload 5, 2) := by decide +kernel
theorem dX11_write_70 : decode cX11_write 70 = .ok (.iload_n 2, 1) := by decide +kernel
theorem dX11_write_71 : decode cX11_write 71 = .ok (.lload_n 3, 1) := by decide +kernel
theorem dX11_write_72 : decode cX11_write 72 = .ok (.invokevirtual 252, 3) := by decide +kernel
theorem dX11_write_75 : decode cX11_write 75 = .ok (.lload 6, 2) := by decide +kernel
theorem dX11_write_77 : decode cX11_write 77 = .ok (.lreturn, 1) := by decide +kernel
theorem dX11_copy_0 : decode cX11_copy 0 = .ok (.aload_n 0, 1) := by decide +kernel
theorem dX11_copy_1 : decode cX11_copy 1 = .ok (.iload_n 1, 1) := by decide +kernel
theorem dX11_copy_2 : decode cX11_copy 2 = .ok (.invokevirtual 234, 3) := by decide +kernel
theorem dX11_copy_5 : decode cX11_copy 5 = .ok (.astore 6, 2) := by decide +kernel
theorem dX11_copy_7 : decode cX11_copy 7 = .ok (.aload_n 0, 1) := by decide +kernel
theorem dX11_copy_8 : decode cX11_copy 8 = .ok (.iload_n 3, 1) := by decide +kernel
theorem dX11_copy_9 : decode cX11_copy 9 = .ok (.invokevirtual 234, 3) := by decide +kernel
theorem dX11_copy_12 : decode cX11_copy 12 = .ok (.astore 7, 2) := by decide +kernel
theorem dX11_copy_14 : decode cX11_copy 14 = .ok (.aload 6, 2) := by decide +kernel
theorem dX11_copy_16 : decode cX11_copy 16 = .ok (.ifnull 8, 3) := by decide +kernel
theorem dX11_copy_19 : decode cX11_copy 19 = .ok (.aload 7, 2) := by decide +kernel
theorem dX11_copy_21 : decode cX11_copy 21 = .ok (.ifnonnull 10, 3) := by decide +kernel
theorem dX11_copy_24 : decode cX11_copy 24 = .ok (.aload_n 0, 1) := by decide +kernel
theorem dX11_copy_25 : decode cX11_copy 25 = .ok (.ldc 72, 2) := by decide +kernel
theorem dX11_copy_27 : decode cX11_copy 27 = .ok (.invokevirtual 73, 3) := by decide +kernel
theorem dX11_copy_30 : decode cX11_copy 30 = .ok (.ireturn, 1) := by decide +kernel
theorem dX11_copy_31 : decode cX11_copy 31 = .ok (.aload 6, 2) := by decide +kernel
theorem dX11_copy_33 : decode cX11_copy 33 = .ok (.invokevirtual 243, 3) := by decide +kernel
theorem dX11_copy_36 : decode cX11_copy 36 = .ok (.ifCond .ne 11, 3) := by decide +kernel
theorem dX11_copy_39 : decode cX11_copy 39 = .ok (.aload 7, 2) := by decide +kernel
theorem dX11_copy_41 : decode cX11_copy 41 = .ok (.invokevirtual 243, 3) := by decide +kernel
theorem dX11_copy_44 : decode cX11_copy 44 = .ok (.ifCond .eq 10, 3) := by decide +kernel
theorem dX11_copy_47 : decode cX11_copy 47 = .ok (.aload_n 0, 1) := by decide +kernel
theorem dX11_copy_48 : decode cX11_copy 48 = .ok (.ldc 247, 2) := by decide +kernel
theorem dX11_copy_50 : decode cX11_copy 50 = .ok (.invokevirtual 73, 3) := by decide +kernel
theorem dX11_copy_53 : decode cX11_copy 53 = .ok (.ireturn, 1) := by decide +kernel
theorem dX11_copy_54 : decode cX11_copy 54 = .ok (.aload 6, 2) := by decide +kernel
theorem dX11_copy_56 : decode cX11_copy 56 = .ok (.getfield 256, 3) := by decide +kernel
theorem dX11_copy_59 : decode cX11_copy 59 = .ok (.aload 7, 2) := by decide +kernel
theorem dX11_copy_61 : decode cX11_copy 61 = .ok (.getfield 256, 3) := by decide +kernel
theorem dX11_copy_64 : decode cX11_copy 64 = .ok (.if_icmp .eq 10, 3) := by decide +kernel
theorem dX11_copy_67 : decode cX11_copy 67 = .ok (.aload_n 0, 1) := by decide +kernel
theorem dX11_copy_68 : decode cX11_copy 68 = .ok (.ldc 163, 2) := by decide +kernel
theorem dX11_copy_70 : decode cX11_copy 70 = .ok (.invokevirtual 73, 3) := by decide +kernel
theorem dX11_copy_73 : decode cX11_copy 73 = .ok (.ireturn, 1) := by decide +kernel
theorem dX11_copy_74 : decode cX11_copy 74 = .ok (.aload 6, 2) := by decide +kernel
theorem dX11_copy_76 : decode cX11_copy 76 = .ok (.iload_n 2, 1) := by decide +kernel
theorem dX11_copy_77 : decode cX11_copy 77 = .ok (.iload 5, 2) := by decide +kernel
theorem dX11_copy_79 : decode cX11_copy 79 = .ok (.invokevirtual 259, 3) := by decide +kernel
theorem dX11_copy_82 : decode cX11_copy 82 = .ok (.ifCond .eq 15, 3) := by decide +kernel
theorem dX11_copy_85 : decode cX11_copy 85 = .ok (.aload 7, 2) := by decide +kernel
theorem dX11_copy_87 : decode cX11_copy 87 = .ok (.iload 4, 2) := by decide +kernel
theorem dX11_copy_89 : decode cX11_copy 89 = .ok (.iload 5, 2) := by decide +kernel
theorem dX11_copy_91 : decode cX11_copy 91 = .ok (.invokevirtual 259, 3) := by decide +kernel
theorem dX11_copy_94 : decode cX11_copy 94 = .ok (.ifCond .ne 10, 3) := by decide +kernel
theorem dX11_copy_97 : decode cX11_copy 97 = .ok (.aload_n 0, 1) := by decide +kernel
theorem dX11_copy_98 : decode cX11_copy 98 = .ok (.ldc 72, 2) := by decide +kernel
theorem dX11_copy_100 : decode cX11_copy 100 = .ok (.invokevirtual 73, 3) := by decide +kernel
theorem dX11_copy_103 : decode cX11_copy 103 = .ok (.ireturn, 1) := by decide +kernel
theorem dX11_copy_104 : decode cX11_copy 104 = .ok (.aload 6, 2) := by decide +kernel
theorem dX11_copy_106 : decode cX11_copy 106 = .ok (.getfield 248, 3) := by decide +kernel
theorem dX11_copy_109 : decode cX11_copy 109 = .ok (.iload_n 2, 1) := by decide +kernel
theorem dX11_copy_110 : decode cX11_copy 110 = .ok (.aload 7, 2) := by decide +kernel
theorem dX11_copy_112 : decode cX11_copy 112 = .ok (.getfield 248, 3) := by decide +kernel
theorem dX11_copy_115 : decode cX11_copy 115 = .ok (.iload 4, 2) := by decide +kernel
theorem dX11_copy_117 : decode cX11_copy 117 = .ok (.iload 5, 2) := by decide +kernel
theorem dX11_copy_119 : decode cX11_copy 119 = .ok (.invokestatic 262, 3) := by decide +kernel
theorem dX11_copy_122 : decode cX11_copy 122 = .ok (.iload 5, 2) := by decide +kernel
theorem dX11_copy_124 : decode cX11_copy 124 = .ok (.ireturn, 1) := by decide +kernel
theorem dX11_lays_0 : decode cX11_lays 0 = .ok (.aload_n 0, 1) := by decide +kernel
theorem dX11_lays_1 : decode cX11_lays 1 = .ok (.iload_n 1, 1) := by decide +kernel
theorem dX11_lays_2 : decode cX11_lays 2 = .ok (.invokevirtual 234, 3) := by decide +kernel
theorem dX11_lays_5 : decode cX11_lays 5 = .ok (.astore_n 2, 1) := by decide +kernel
theorem dX11_lays_6 : decode cX11_lays 6 = .ok (.aload_n 2, 1) := by decide +kernel
theorem dX11_lays_7 : decode cX11_lays 7 = .ok (.ifnonnull 10, 3) := by decide +kernel
theorem dX11_lays_10 : decode cX11_lays 10 = .ok (.aload_n 0, 1) := by decide +kernel
theorem dX11_lays_11 : decode cX11_lays 11 = .ok (.ldc 72, 2) := by decide +kernel
theorem dX11_lays_13 : decode cX11_lays 13 = .ok (.invokevirtual 73, 3) := by decide +kernel
theorem dX11_lays_16 : decode cX11_lays 16 = .ok (.ireturn, 1) := by decide +kernel
theorem dX11_lays_17 : decode cX11_lays 17 = .ok (.aload_n 2, 1) := by decide +kernel
theorem dX11_lays_18 : decode cX11_lays 18 = .ok (.invokevirtual 243, 3) := by decide +kernel
theorem dX11_lays_21 : decode cX11_lays 21 = .ok (.ifCond .eq 10, 3) := by decide +kernel
theorem dX11_lays_24 : decode cX11_lays 24 = .ok (.aload_n 0, 1) := by decide +kernel
theorem dX11_lays_25 : decode cX11_lays 25 = .ok (.ldc 247, 2) := by decide +kernel
theorem dX11_lays_27 : decode cX11_lays 27 = .ok (.invokevirtual 73, 3) := by decide +kernel
theorem dX11_lays_30 : decode cX11_lays 30 = .ok (.ireturn, 1) := by decide +kernel
theorem dX11_lays_31 : decode cX11_lays 31 = .ok (.iconst 0, 1) := by decide +kernel
theorem dX11_lays_32 : decode cX11_lays 32 = .ok (.istore_n 3, 1) := by decide +kernel
theorem dX11_lays_33 : decode cX11_lays 33 = .ok (.iconst 0, 1) := by decide +kernel
theorem dX11_lays_34 : decode cX11_lays 34 = .ok (.istore 4, 2) := by decide +kernel
theorem dX11_lays_36 : decode cX11_lays 36 = .ok (.iload 4, 2) := by decide +kernel
theorem dX11_lays_38 : decode cX11_lays 38 = .ok (.aload_n 2, 1) := by decide +kernel
theorem dX11_lays_39 : decode cX11_lays 39 = .ok (.getfield 242, 3) := by decide +kernel
theorem dX11_lays_42 : decode cX11_lays 42 = .ok (.if_icmp .ge 63, 3) := by decide +kernel
theorem dX11_lays_45 : decode cX11_lays 45 = .ok (.aload_n 2, 1) := by decide +kernel
theorem dX11_lays_46 : decode cX11_lays 46 = .ok (.getfield 248, 3) := by decide +kernel
theorem dX11_lays_49 : decode cX11_lays 49 = .ok (.iload 4, 2) := by decide +kernel
theorem dX11_lays_51 : decode cX11_lays 51 = .ok (.laload, 1) := by decide +kernel
theorem dX11_lays_52 : decode cX11_lays 52 = .ok (.lstore 5, 2) := by decide +kernel
theorem dX11_lays_54 : decode cX11_lays 54 = .ok (.aload_n 0, 1) := by decide +kernel
theorem dX11_lays_55 : decode cX11_lays 55 = .ok (.getfield 18, 3) := by decide +kernel
theorem dX11_lays_58 : decode cX11_lays 58 = .ok (.iload 4, 2) := by decide +kernel
theorem dX11_lays_60 : decode cX11_lays 60 = .ok (.invokevirtual 102, 3) := by decide +kernel
theorem dX11_lays_63 : decode cX11_lays 63 = .ok (.astore 7, 2) := by decide +kernel
theorem dX11_lays_65 : decode cX11_lays 65 = .ok (.aload 7, 2) := by decide +kernel
theorem dX11_lays_67 : decode cX11_lays 67 = .ok (.ifnull 32, 3) := by decide +kernel
theorem dX11_lays_70 : decode cX11_lays 70 = .ok (.lload 5, 2) := by decide +kernel
theorem dX11_lays_72 : decode cX11_lays 72 = .ok (.ldc2_w 268, 3) := by decide +kernel
theorem dX11_lays_75 : decode cX11_lays 75 = .ok (.lcmp, 1) := by decide +kernel
theorem dX11_lays_76 : decode cX11_lays 76 = .ok (.ifCond .lt 23, 3) := by decide +kernel
theorem dX11_lays_79 : decode cX11_lays 79 = .ok (.lload 5, 2) := by decide +kernel
theorem dX11_lays_81 : decode cX11_lays 81 = .ok (.ldc2_w 270, 3) := by decide +kernel
theorem dX11_lays_84 : decode cX11_lays 84 = .ok (.lcmp, 1) := by decide +kernel
theorem dX11_lays_85 : decode cX11_lays 85 = .ok (.ifCond .gt 14, 3) := by decide +kernel
theorem dX11_lays_88 : decode cX11_lays 88 = .ok (.aload 7, 2) := by decide +kernel
theorem dX11_lays_90 : decode cX11_lays 90 = .ok (.lload 5, 2) := by decide +kernel
theorem dX11_lays_92 : decode cX11_lays 92 = .ok (.l2i, 1) := by decide +kernel
theorem dX11_lays_93 : decode cX11_lays 93 = .ok (.putfield 116, 3) := by decide +kernel
theorem dX11_lays_96 : decode cX11_lays 96 = .ok (.iinc 3 1, 3) := by decide +kernel
theorem dX11_lays_99 : decode cX11_lays 99 = .ok (.iinc 4 1, 3) := by decide +kernel
theorem dX11_lays_102 : decode cX11_lays 102 = .ok (.goto (-66), 3) := by decide +kernel
theorem dX11_lays_105 : decode cX11_lays 105 = .ok (.iload_n 3, 1) := by decide +kernel
theorem dX11_lays_106 : decode cX11_lays 106 = .ok (.ireturn, 1) := by decide +kernel
theorem dX11_book_0 : decode cX11_book 0 = .ok (.aload_n 0, 1) := by decide +kernel
theorem dX11_book_1 : decode cX11_book 1 = .ok (.iload_n 1, 1) := by decide +kernel
theorem dX11_book_2 : decode cX11_book 2 = .ok (.invokevirtual 234, 3) := by decide +kernel
theorem dX11_book_5 : decode cX11_book 5 = .ok (.astore_n 3, 1) := by decide +kernel
theorem dX11_book_6 : decode cX11_book 6 = .ok (.aload_n 3, 1) := by decide +kernel
theorem dX11_book_7 : decode cX11_book 7 = .ok (.ifnonnull 10, 3) := by decide +kernel
theorem dX11_book_10 : decode cX11_book 10 = .ok (.aload_n 0, 1) := by decide +kernel
theorem dX11_book_11 : decode cX11_book 11 = .ok (.ldc 72, 2) := by decide +kernel
theorem dX11_book_13 : decode cX11_book 13 = .ok (.invokevirtual 73, 3) := by decide +kernel
theorem dX11_book_16 : decode cX11_book 16 = .ok (.ireturn, 1) := by decide +kernel
theorem dX11_book_17 : decode cX11_book 17 = .ok (.aload_n 3, 1) := by decide +kernel
theorem dX11_book_18 : decode cX11_book 18 = .ok (.invokevirtual 243, 3) := by decide +kernel
theorem dX11_book_21 : decode cX11_book 21 = .ok (.ifCond .eq 10, 3) := by decide +kernel
theorem dX11_book_24 : decode cX11_book 24 = .ok (.aload_n 0, 1) := by decide +kernel
theorem dX11_book_25 : decode cX11_book 25 = .ok (.ldc 247, 2) := by decide +kernel
theorem dX11_book_27 : decode cX11_book 27 = .ok (.invokevirtual 73, 3) := by decide +kernel
theorem dX11_book_30 : decode cX11_book 30 = .ok (.ireturn, 1) := by decide +kernel
theorem dX11_book_31 : decode cX11_book 31 = .ok (.aload_n 0, 1) := by decide +kernel
theorem dX11_book_32 : decode cX11_book 32 = .ok (.getfield 18, 3) := by decide +kernel
theorem dX11_book_35 : decode cX11_book 35 = .ok (.iload_n 2, 1) := by decide +kernel
theorem dX11_book_36 : decode cX11_book 36 = .ok (.invokevirtual 102, 3) := by decide +kernel
theorem dX11_book_39 : decode cX11_book 39 = .ok (.astore 4, 2) := by decide +kernel
theorem dX11_book_41 : decode cX11_book 41 = .ok (.aload 4, 2) := by decide +kernel
theorem dX11_book_43 : decode cX11_book 43 = .ok (.ifnonnull 10, 3) := by decide +kernel
theorem dX11_book_46 : decode cX11_book 46 = .ok (.aload_n 0, 1) := by decide +kernel
theorem dX11_book_47 : decode cX11_book 47 = .ok (.ldc 72, 2) := by decide +kernel
theorem dX11_book_49 : decode cX11_book 49 = .ok (.invokevirtual 73, 3) := by decide +kernel
theorem dX11_book_52 : decode cX11_book 52 = .ok (.ireturn, 1) := by decide +kernel
theorem dX11_book_53 : decode cX11_book 53 = .ok (.aload_n 0, 1) := by decide +kernel
theorem dX11_book_54 : decode cX11_book 54 = .ok (.getfield 35, 3) := by decide +kernel
theorem dX11_book_57 : decode cX11_book 57 = .ok (.aload 4, 2) := by decide +kernel
theorem dX11_book_59 : decode cX11_book 59 = .ok (.invokevirtual 190, 3) := by decide +kernel
theorem dX11_book_62 : decode cX11_book 62 = .ok (.iconst 0, 1) := by decide +kernel
theorem dX11_book_63 : decode cX11_book 63 = .ok (.istore 5, 2) := by decide +kernel
theorem dX11_book_65 : decode cX11_book 65 = .ok (.iload 5, 2) := by decide +kernel
theorem dX11_book_67 : decode cX11_book 67 = .ok (.aload_n 3, 1) := by decide +kernel
theorem dX11_book_68 : decode cX11_book 68 = .ok (.getfield 242, 3) := by decide +kernel
theorem dX11_book_71 : decode cX11_book 71 = .ok (.if_icmp .ge 44, 3) := by decide +kernel
theorem dX11_book_74 : decode cX11_book 74 = .ok (.aload_n 3, 1) := by decide +kernel
theorem dX11_book_75 : decode cX11_book 75 = .ok (.iload 5, 2) := by decide +kernel
theorem dX11_book_77 : decode cX11_book 77 = .ok (.aload_n 0, 1) := by decide +kernel
theorem dX11_book_78 : decode cX11_book 78 = .ok (.getfield 35, 3) := by decide +kernel
theorem dX11_book_81 : decode cX11_book 81 = .ok (.getfield 116, 3) := by decide +kernel
theorem dX11_book_84 : decode cX11_book 84 = .ok (.i2l, 1) := by decide +kernel
theorem dX11_book_85 : decode cX11_book 85 = .ok (.invokevirtual 252, 3) := by decide +kernel
theorem dX11_book_88 : decode cX11_book 88 = .ok (.aload_n 0, 1) := by decide +kernel
theorem dX11_book_89 : decode cX11_book 89 = .ok (.getfield 35, 3) := by decide +kernel
theorem dX11_book_92 : decode cX11_book 92 = .ok (.aload_n 0, 1) := by decide +kernel
theorem dX11_book_93 : decode cX11_book 93 = .ok (.getfield 18, 3) := by decide +kernel
theorem dX11_book_96 : decode cX11_book 96 = .ok (.getfield 65, 3) := by decide +kernel
theorem dX11_book_99 : decode cX11_book 99 = .ok (.aload_n 0, 1) := by decide +kernel
theorem dX11_book_100 : decode cX11_book 100 = .ok (.getfield 18, 3) := by decide +kernel
theorem dX11_book_103 : decode cX11_book 103 = .ok (.getfield 69, 3) := by decide +kernel
theorem dX11_book_106 : decode cX11_book 106 = .ok (.invokevirtual 147, 3) := by decide +kernel
theorem dX11_book_109 : decode cX11_book 109 = .ok (.iinc 5 1, 3) := by decide +kernel
theorem dX11_book_112 : decode cX11_book 112 = .ok (.goto (-47), 3) := by decide +kernel
theorem dX11_book_115 : decode cX11_book 115 = .ok (.aload_n 3, 1) := by decide +kernel
theorem dX11_book_116 : decode cX11_book 116 = .ok (.getfield 242, 3) := by decide +kernel
theorem dX11_book_119 : decode cX11_book 119 = .ok (.ireturn, 1) := by decide +kernel
theorem dX11_read_0 : decode cX11_read 0 = .ok (.aload_n 0, 1) := by decide +kernel
theorem dX11_read_1 : decode cX11_read 1 = .ok (.iload_n 1, 1) := by decide +kernel
theorem dX11_read_2 : decode cX11_read 2 = .ok (.invokevirtual 234, 3) := by decide +kernel
theorem dX11_read_5 : decode cX11_read 5 = .ok (.astore_n 3, 1) := by decide +kernel
theorem dX11_read_6 : decode cX11_read 6 = .ok (.aload_n 3, 1) := by decide +kernel
theorem dX11_read_7 : decode cX11_read 7 = .ok (.ifnonnull 10, 3) := by decide +kernel
theorem dX11_read_10 : decode cX11_read 10 = .ok (.aload_n 0, 1) := by decide +kernel
theorem dX11_read_11 : decode cX11_read 11 = .ok (.ldc 72, 2) := by decide +kernel
theorem dX11_read_13 : decode cX11_read 13 = .ok (.invokevirtual 73, 3) := by decide +kernel
theorem dX11_read_16 : decode cX11_read 16 = .ok (.ireturn, 1) := by decide +kernel
theorem dX11_read_17 : decode cX11_read 17 = .ok (.aload_n 3, 1) := by decide +kernel
theorem dX11_read_18 : decode cX11_read 18 = .ok (.invokevirtual 243, 3) := by decide +kernel
theorem dX11_read_21 : decode cX11_read 21 = .ok (.ifCond .eq 10, 3) := by decide +kernel
theorem dX11_read_24 : decode cX11_read 24 = .ok (.aload_n 0, 1) := by decide +kernel
theorem dX11_read_25 : decode cX11_read 25 = .ok (.ldc 247, 2) := by decide +kernel
theorem dX11_read_27 : decode cX11_read 27 = .ok (.invokevirtual 73, 3) := by decide +kernel
theorem dX11_read_30 : decode cX11_read 30 = .ok (.ireturn, 1) := by decide +kernel
theorem dX11_read_31 : decode cX11_read 31 = .ok (.aload_n 0, 1) := by decide +kernel
theorem dX11_read_32 : decode cX11_read 32 = .ok (.getfield 18, 3) := by decide +kernel
theorem dX11_read_35 : decode cX11_read 35 = .ok (.iload_n 2, 1) := by decide +kernel
theorem dX11_read_36 : decode cX11_read 36 = .ok (.invokevirtual 102, 3) := by decide +kernel
theorem dX11_read_39 : decode cX11_read 39 = .ok (.astore 4, 2) := by decide +kernel
theorem dX11_read_41 : decode cX11_read 41 = .ok (.aload 4, 2) := by decide +kernel
theorem dX11_read_43 : decode cX11_read 43 = .ok (.ifnonnull 10, 3) := by decide +kernel
theorem dX11_read_46 : decode cX11_read 46 = .ok (.aload_n 0, 1) := by decide +kernel
theorem dX11_read_47 : decode cX11_read 47 = .ok (.ldc 72, 2) := by decide +kernel
theorem dX11_read_49 : decode cX11_read 49 = .ok (.invokevirtual 73, 3) := by decide +kernel
theorem dX11_read_52 : decode cX11_read 52 = .ok (.ireturn, 1) := by decide +kernel
theorem dX11_read_53 : decode cX11_read 53 = .ok (.iconst 0, 1) := by decide +kernel
theorem dX11_read_54 : decode cX11_read 54 = .ok (.istore 5, 2) := by decide +kernel
theorem dX11_read_56 : decode cX11_read 56 = .ok (.iconst 0, 1) := by decide +kernel
theorem dX11_read_57 : decode cX11_read 57 = .ok (.istore 6, 2) := by decide +kernel
theorem dX11_read_59 : decode cX11_read 59 = .ok (.iload 6, 2) := by decide +kernel
theorem dX11_read_61 : decode cX11_read 61 = .ok (.bipush 6, 2) := by decide +kernel
theorem dX11_read_63 : decode cX11_read 63 = .ok (.if_icmp .ge 43, 3) := by decide +kernel
theorem dX11_read_66 : decode cX11_read 66 = .ok (.bipush 20, 2) := by decide +kernel
theorem dX11_read_68 : decode cX11_read 68 = .ok (.istore 7, 2) := by decide +kernel
theorem dX11_read_70 : decode cX11_read 70 = .ok (.iload 7, 2) := by decide +kernel
theorem dX11_read_72 : decode cX11_read 72 = .ok (.bipush 95, 2) := by decide +kernel
theorem dX11_read_74 : decode cX11_read 74 = .ok (.if_icmp .gt 26, 3) := by decide +kernel
theorem dX11_read_77 : decode cX11_read 77 = .ok (.aload_n 0, 1) := by decide +kernel
theorem dX11_read_78 : decode cX11_read 78 = .ok (.aload_n 3, 1) := by decide +kernel
theorem dX11_read_79 : decode cX11_read 79 = .ok (.aload 4, 2) := by decide +kernel
theorem dX11_read_81 : decode cX11_read 81 = .ok (.iload 6, 2) := by decide +kernel
theorem dX11_read_83 : decode cX11_read 83 = .ok (.iload 7, 2) := by decide +kernel
theorem dX11_read_85 : decode cX11_read 85 = .ok (.invokevirtual 272, 3) := by decide +kernel
theorem dX11_read_88 : decode cX11_read 88 = .ok (.ifCond .eq 6, 3) := by decide +kernel
theorem dX11_read_91 : decode cX11_read 91 = .ok (.iinc 5 1, 3) := by decide +kernel
theorem dX11_read_94 : decode cX11_read 94 = .ok (.iinc 7 1, 3) := by decide +kernel
theorem dX11_read_97 : decode cX11_read 97 = .ok (.goto (-27), 3) := by decide +kernel
theorem dX11_read_100 : decode cX11_read 100 = .ok (.iinc 6 1, 3) := by decide +kernel
theorem dX11_read_103 : decode cX11_read 103 = .ok (.goto (-44), 3) := by decide +kernel
theorem dX11_read_106 : decode cX11_read 106 = .ok (.iload 5, 2) := by decide +kernel
theorem dX11_read_108 : decode cX11_read 108 = .ok (.ireturn, 1) := by decide +kernel
theorem dX11_image_0 : decode cX11_image 0 = .ok (.aload_n 0, 1) := by decide +kernel
theorem dX11_image_1 : decode cX11_image 1 = .ok (.getfield 24, 3) := by decide +kernel
theorem dX11_image_4 : decode cX11_image 4 = .ok (.aload_n 0, 1) := by decide +kernel
theorem dX11_image_5 : decode cX11_image 5 = .ok (.getfield 18, 3) := by decide +kernel
theorem dX11_image_8 : decode cX11_image 8 = .ok (.invokevirtual 214, 3) := by decide +kernel
theorem dX11_image_11 : decode cX11_image 11 = .ok (.aload_n 0, 1) := by decide +kernel
theorem dX11_image_12 : decode cX11_image 12 = .ok (.iconst 1, 1) := by decide +kernel
theorem dX11_image_13 : decode cX11_image 13 = .ok (.putfield 57, 3) := by decide +kernel
theorem dX11_image_16 : decode cX11_image 16 = .ok (.iconst 1, 1) := by decide +kernel
theorem dX11_image_17 : decode cX11_image 17 = .ok (.ireturn, 1) := by decide +kernel
theorem dX11_undo_0 : decode cX11_undo 0 = .ok (.aload_n 0, 1) := by decide +kernel
theorem dX11_undo_1 : decode cX11_undo 1 = .ok (.getfield 57, 3) := by decide +kernel
theorem dX11_undo_4 : decode cX11_undo 4 = .ok (.ifCond .ne 10, 3) := by decide +kernel
theorem dX11_undo_7 : decode cX11_undo 7 = .ok (.aload_n 0, 1) := by decide +kernel
theorem dX11_undo_8 : decode cX11_undo 8 = .ok (.ldc 205, 2) := by decide +kernel
theorem dX11_undo_10 : decode cX11_undo 10 = .ok (.invokevirtual 73, 3) := by decide +kernel
theorem dX11_undo_13 : decode cX11_undo 13 = .ok (.ireturn, 1) := by decide +kernel
theorem dX11_undo_14 : decode cX11_undo 14 = .ok (.aload_n 0, 1) := by decide +kernel
theorem dX11_undo_15 : decode cX11_undo 15 = .ok (.getfield 18, 3) := by decide +kernel
theorem dX11_undo_18 : decode cX11_undo 18 = .ok (.aload_n 0, 1) := by decide +kernel
theorem dX11_undo_19 : decode cX11_undo 19 = .ok (.getfield 24, 3) := by decide +kernel
theorem dX11_undo_22 : decode cX11_undo 22 = .ok (.invokevirtual 214, 3) := by decide +kernel
theorem dX11_undo_25 : decode cX11_undo 25 = .ok (.aload_n 0, 1) := by decide +kernel
theorem dX11_undo_26 : decode cX11_undo 26 = .ok (.getfield 18, 3) := by decide +kernel
theorem dX11_undo_29 : decode cX11_undo 29 = .ok (.getfield 99, 3) := by decide +kernel
theorem dX11_undo_32 : decode cX11_undo 32 = .ok (.ireturn, 1) := by decide +kernel
theorem dX11_tear_0 : decode cX11_tear 0 = .ok (.aload_n 0, 1) := by decide +kernel
theorem dX11_tear_1 : decode cX11_tear 1 = .ok (.getfield 57, 3) := by decide +kernel
theorem dX11_tear_4 : decode cX11_tear 4 = .ok (.ifCond .eq 7, 3) := by decide +kernel
theorem dX11_tear_7 : decode cX11_tear 7 = .ok (.iconst 1, 1) := by decide +kernel
theorem dX11_tear_8 : decode cX11_tear 8 = .ok (.goto 4, 3) := by decide +kernel
theorem dX11_tear_11 : decode cX11_tear 11 = .ok (.iconst 0, 1) := by decide +kernel
theorem dX11_tear_12 : decode cX11_tear 12 = .ok (.istore_n 1, 1) := by decide +kernel
theorem dX11_tear_13 : decode cX11_tear 13 = .ok (.aload_n 0, 1) := by decide +kernel
theorem dX11_tear_14 : decode cX11_tear 14 = .ok (.iconst 0, 1) := by decide +kernel
theorem dX11_tear_15 : decode cX11_tear 15 = .ok (.putfield 57, 3) := by decide +kernel
theorem dX11_tear_18 : decode cX11_tear 18 = .ok (.iload_n 1, 1) := by decide +kernel
theorem dX11_tear_19 : decode cX11_tear 19 = .ok (.ireturn, 1) := by decide +kernel
theorem dX11_count_0 : decode cX11_count 0 = .ok (.iload_n 1, 1) := by decide +kernel
theorem dX11_count_1 : decode cX11_count 1 = .ok (.tableswitch 63 0 3 #[31, 39, 47, 55], 31) := by decide +kernel
theorem dX11_count_32 : decode cX11_count 32 = .ok (.aload_n 0, 1) := by decide +kernel
theorem dX11_count_33 : decode cX11_count 33 = .ok (.getfield 18, 3) := by decide +kernel
theorem dX11_count_36 : decode cX11_count 36 = .ok (.getfield 99, 3) := by decide +kernel
theorem dX11_count_39 : decode cX11_count 39 = .ok (.ireturn, 1) := by decide +kernel
theorem dX11_count_40 : decode cX11_count 40 = .ok (.aload_n 0, 1) := by decide +kernel
theorem dX11_count_41 : decode cX11_count 41 = .ok (.getfield 18, 3) := by decide +kernel
theorem dX11_count_44 : decode cX11_count 44 = .ok (.getfield 171, 3) := by decide +kernel
theorem dX11_count_47 : decode cX11_count 47 = .ok (.ireturn, 1) := by decide +kernel
theorem dX11_count_48 : decode cX11_count 48 = .ok (.aload_n 0, 1) := by decide +kernel
theorem dX11_count_49 : decode cX11_count 49 = .ok (.getfield 42, 3) := by decide +kernel
theorem dX11_count_52 : decode cX11_count 52 = .ok (.getfield 220, 3) := by decide +kernel
theorem dX11_count_55 : decode cX11_count 55 = .ok (.ireturn, 1) := by decide +kernel
theorem dX11_count_56 : decode cX11_count 56 = .ok (.aload_n 0, 1) := by decide +kernel
theorem dX11_count_57 : decode cX11_count 57 = .ok (.getfield 18, 3) := by decide +kernel
theorem dX11_count_60 : decode cX11_count 60 = .ok (.invokevirtual 276, 3) := by decide +kernel
theorem dX11_count_63 : decode cX11_count 63 = .ok (.ireturn, 1) := by decide +kernel
theorem dX11_count_64 : decode cX11_count 64 = .ok (.aload_n 0, 1) := by decide +kernel
theorem dX11_count_65 : decode cX11_count 65 = .ok (.ldc 72, 2) := by decide +kernel
theorem dX11_count_67 : decode cX11_count 67 = .ok (.invokevirtual 73, 3) := by decide +kernel
theorem dX11_count_70 : decode cX11_count 70 = .ok (.ireturn, 1) := by decide +kernel
theorem dX11_status_0 : decode cX11_status 0 = .ok (.iload_n 1, 1) := by decide +kernel
theorem dX11_status_1 : decode cX11_status 1 = .ok (.ifCond .lt 16, 3) := by decide +kernel
theorem dX11_status_4 : decode cX11_status 4 = .ok (.iload_n 1, 1) := by decide +kernel
theorem dX11_status_5 : decode cX11_status 5 = .ok (.bipush 7, 2) := by decide +kernel
theorem dX11_status_7 : decode cX11_status 7 = .ok (.if_icmp .ge 10, 3) := by decide +kernel
theorem dX11_status_10 : decode cX11_status 10 = .ok (.aload_n 0, 1) := by decide +kernel
theorem dX11_status_11 : decode cX11_status 11 = .ok (.getfield 53, 3) := by decide +kernel
theorem dX11_status_14 : decode cX11_status 14 = .ok (.iload_n 1, 1) := by decide +kernel
theorem dX11_status_15 : decode cX11_status 15 = .ok (.iaload, 1) := by decide +kernel
theorem dX11_status_16 : decode cX11_status 16 = .ok (.ireturn, 1) := by decide +kernel
theorem dX11_status_17 : decode cX11_status 17 = .ok (.iload_n 1, 1) := by decide +kernel
theorem dX11_status_18 : decode cX11_status 18 = .ok (.iconst (-1), 1) := by decide +kernel
theorem dX11_status_19 : decode cX11_status 19 = .ok (.if_icmp .eq 10, 3) := by decide +kernel
theorem dX11_status_22 : decode cX11_status 22 = .ok (.aload_n 0, 1) := by decide +kernel
theorem dX11_status_23 : decode cX11_status 23 = .ok (.ldc 72, 2) := by decide +kernel
theorem dX11_status_25 : decode cX11_status 25 = .ok (.invokevirtual 73, 3) := by decide +kernel
theorem dX11_status_28 : decode cX11_status 28 = .ok (.ireturn, 1) := by decide +kernel
theorem dX11_status_29 : decode cX11_status 29 = .ok (.iconst 0, 1) := by decide +kernel
theorem dX11_status_30 : decode cX11_status 30 = .ok (.istore_n 2, 1) := by decide +kernel
theorem dX11_status_31 : decode cX11_status 31 = .ok (.iconst 0, 1) := by decide +kernel
theorem dX11_status_32 : decode cX11_status 32 = .ok (.istore_n 3, 1) := by decide +kernel
theorem dX11_status_33 : decode cX11_status 33 = .ok (.iload_n 3, 1) := by decide +kernel
theorem dX11_status_34 : decode cX11_status 34 = .ok (.bipush 7, 2) := by decide +kernel
theorem dX11_status_36 : decode cX11_status 36 = .ok (.if_icmp .ge 18, 3) := by decide +kernel
theorem dX11_status_39 : decode cX11_status 39 = .ok (.iload_n 2, 1) := by decide +kernel
theorem dX11_status_40 : decode cX11_status 40 = .ok (.aload_n 0, 1) := by decide +kernel
theorem dX11_status_41 : decode cX11_status 41 = .ok (.getfield 53, 3) := by decide +kernel
theorem dX11_status_44 : decode cX11_status 44 = .ok (.iload_n 3, 1) := by decide +kernel
theorem dX11_status_45 : decode cX11_status 45 = .ok (.iaload, 1) := by decide +kernel
theorem dX11_status_46 : decode cX11_status 46 = .ok (.iadd, 1) := by decide +kernel
theorem dX11_status_47 : decode cX11_status 47 = .ok (.istore_n 2, 1) := by decide +kernel
theorem dX11_status_48 : decode cX11_status 48 = .ok (.iinc 3 1, 3) := by decide +kernel
theorem dX11_status_51 : decode cX11_status 51 = .ok (.goto (-18), 3) := by decide +kernel
theorem dX11_status_54 : decode cX11_status 54 = .ok (.iload_n 2, 1) := by decide +kernel
theorem dX11_status_55 : decode cX11_status 55 = .ok (.ireturn, 1) := by decide +kernel
theorem dX11_refuse_0 : decode cX11_refuse 0 = .ok (.ldc 72, 2) := by decide +kernel
theorem dX11_refuse_2 : decode cX11_refuse 2 = .ok (.iload_n 1, 1) := by decide +kernel
theorem dX11_refuse_3 : decode cX11_refuse 3 = .ok (.isub, 1) := by decide +kernel
theorem dX11_refuse_4 : decode cX11_refuse 4 = .ok (.istore_n 2, 1) := by decide +kernel
theorem dX11_refuse_5 : decode cX11_refuse 5 = .ok (.iload_n 2, 1) := by decide +kernel
theorem dX11_refuse_6 : decode cX11_refuse 6 = .ok (.ifCond .lt 19, 3) := by decide +kernel
theorem dX11_refuse_9 : decode cX11_refuse 9 = .ok (.iload_n 2, 1) := by decide +kernel
theorem dX11_refuse_10 : decode cX11_refuse 10 = .ok (.bipush 7, 2) := by decide +kernel
theorem dX11_refuse_12 : decode cX11_refuse 12 = .ok (.if_icmp .ge 13, 3) := by decide +kernel
theorem dX11_refuse_15 : decode cX11_refuse 15 = .ok (.aload_n 0, 1) := by decide +kernel
theorem dX11_refuse_16 : decode cX11_refuse 16 = .ok (.getfield 53, 3) := by decide +kernel
theorem dX11_refuse_19 : decode cX11_refuse 19 = .ok (.iload_n 2, 1) := by decide +kernel
theorem dX11_refuse_20 : decode cX11_refuse 20 = .ok (.dup2, 1) := by decide +kernel
theorem dX11_refuse_21 : decode cX11_refuse 21 = .ok (.iaload, 1) := by decide +kernel
theorem dX11_refuse_22 : decode cX11_refuse 22 = .ok (.iconst 1, 1) := by decide +kernel
theorem dX11_refuse_23 : decode cX11_refuse 23 = .ok (.iadd, 1) := by decide +kernel
theorem dX11_refuse_24 : decode cX11_refuse 24 = .ok (.iastore, 1) := by decide +kernel
theorem dX11_refuse_25 : decode cX11_refuse 25 = .ok (.iload_n 1, 1) := by decide +kernel
theorem dX11_refuse_26 : decode cX11_refuse 26 = .ok (.ireturn, 1) := by decide +kernel
theorem dX11_sheetAt_0 : decode cX11_sheetAt 0 = .ok (.iload_n 1, 1) := by decide +kernel
theorem dX11_sheetAt_1 : decode cX11_sheetAt 1 = .ok (.ifCond .lt 17, 3) := by decide +kernel
theorem dX11_sheetAt_4 : decode cX11_sheetAt 4 = .ok (.iload_n 1, 1) := by decide +kernel
theorem dX11_sheetAt_5 : decode cX11_sheetAt 5 = .ok (.iconst 4, 1) := by decide +kernel
theorem dX11_sheetAt_6 : decode cX11_sheetAt 6 = .ok (.if_icmp .ge 12, 3) := by decide +kernel
theorem dX11_sheetAt_9 : decode cX11_sheetAt 9 = .ok (.aload_n 0, 1) := by decide +kernel
theorem dX11_sheetAt_10 : decode cX11_sheetAt 10 = .ok (.getfield 48, 3) := by decide +kernel
theorem dX11_sheetAt_13 : decode cX11_sheetAt 13 = .ok (.iload_n 1, 1) := by decide +kernel
theorem dX11_sheetAt_14 : decode cX11_sheetAt 14 = .ok (.aaload, 1) := by decide +kernel
theorem dX11_sheetAt_15 : decode cX11_sheetAt 15 = .ok (.goto 4, 3) := by decide +kernel
theorem dX11_sheetAt_18 : decode cX11_sheetAt 18 = .ok (.aconst_null, 1) := by decide +kernel
theorem dX11_sheetAt_19 : decode cX11_sheetAt 19 = .ok (.areturn, 1) := by decide +kernel
theorem dX11_tryWashes_0 : decode cX11_tryWashes 0 = .ok (.aload_n 0, 1) := by decide +kernel
theorem dX11_tryWashes_1 : decode cX11_tryWashes 1 = .ok (.getfield 35, 3) := by decide +kernel
theorem dX11_tryWashes_4 : decode cX11_tryWashes 4 = .ok (.aload_n 1, 1) := by decide +kernel
theorem dX11_tryWashes_5 : decode cX11_tryWashes 5 = .ok (.invokevirtual 190, 3) := by decide +kernel
theorem dX11_tryWashes_8 : decode cX11_tryWashes 8 = .ok (.aload_n 0, 1) := by decide +kernel
theorem dX11_tryWashes_9 : decode cX11_tryWashes 9 = .ok (.getfield 35, 3) := by decide +kernel
theorem dX11_tryWashes_12 : decode cX11_tryWashes 12 = .ok (.iload_n 2, 1) := by decide +kernel
theorem dX11_tryWashes_13 : decode cX11_tryWashes 13 = .ok (.aload_n 0, 1) := by decide +kernel
theorem dX11_tryWashes_14 : decode cX11_tryWashes 14 = .ok (.getfield 18, 3) := by decide +kernel
theorem dX11_tryWashes_17 : decode cX11_tryWashes 17 = .ok (.getfield 65, 3) := by decide +kernel
theorem dX11_tryWashes_20 : decode cX11_tryWashes 20 = .ok (.aload_n 0, 1) := by decide +kernel
theorem dX11_tryWashes_21 : decode cX11_tryWashes 21 = .ok (.getfield 18, 3) := by decide +kernel
theorem dX11_tryWashes_24 : decode cX11_tryWashes 24 = .ok (.getfield 69, 3) := by decide +kernel
theorem dX11_tryWashes_27 : decode cX11_tryWashes 27 = .ok (.invokevirtual 210, 3) := by decide +kernel
theorem dX11_tryWashes_30 : decode cX11_tryWashes 30 = .ok (.return_, 1) := by decide +kernel
theorem dX11_wouldSuit_0 : decode cX11_wouldSuit 0 = .ok (.aload_n 0, 1) := by decide +kernel
theorem dX11_wouldSuit_1 : decode cX11_wouldSuit 1 = .ok (.getfield 35, 3) := by decide +kernel
theorem dX11_wouldSuit_4 : decode cX11_wouldSuit 4 = .ok (.aload_n 1, 1) := by decide +kernel
theorem dX11_wouldSuit_5 : decode cX11_wouldSuit 5 = .ok (.invokevirtual 190, 3) := by decide +kernel
theorem dX11_wouldSuit_8 : decode cX11_wouldSuit 8 = .ok (.aload_n 0, 1) := by decide +kernel
theorem dX11_wouldSuit_9 : decode cX11_wouldSuit 9 = .ok (.getfield 35, 3) := by decide +kernel
theorem dX11_wouldSuit_12 : decode cX11_wouldSuit 12 = .ok (.iload_n 3, 1) := by decide +kernel
theorem dX11_wouldSuit_13 : decode cX11_wouldSuit 13 = .ok (.iload 4, 2) := by decide +kernel
theorem dX11_wouldSuit_15 : decode cX11_wouldSuit 15 = .ok (.aload_n 0, 1) := by decide +kernel
theorem dX11_wouldSuit_16 : decode cX11_wouldSuit 16 = .ok (.getfield 18, 3) := by decide +kernel
theorem dX11_wouldSuit_19 : decode cX11_wouldSuit 19 = .ok (.getfield 69, 3) := by decide +kernel
theorem dX11_wouldSuit_22 : decode cX11_wouldSuit 22 = .ok (.invokevirtual 210, 3) := by decide +kernel
theorem dX11_wouldSuit_25 : decode cX11_wouldSuit 25 = .ok (.iload 5, 2) := by decide +kernel
theorem dX11_wouldSuit_27 : decode cX11_wouldSuit 27 = .ok (.ifCond .le 12, 3) := by decide +kernel
theorem dX11_wouldSuit_30 : decode cX11_wouldSuit 30 = .ok (.aload_n 0, 1) := by decide +kernel
theorem dX11_wouldSuit_31 : decode cX11_wouldSuit 31 = .ok (.getfield 35, 3) := by decide +kernel
theorem dX11_wouldSuit_34 : decode cX11_wouldSuit 34 = .ok (.iload 5, 2) := by decide +kernel
theorem dX11_wouldSuit_36 : decode cX11_wouldSuit 36 = .ok (.invokevirtual 152, 3) := by decide +kernel
theorem dX11_wouldSuit_39 : decode cX11_wouldSuit 39 = .ok (.aload_n 0, 1) := by decide +kernel
theorem dX11_wouldSuit_40 : decode cX11_wouldSuit 40 = .ok (.getfield 35, 3) := by decide +kernel
theorem dX11_wouldSuit_43 : decode cX11_wouldSuit 43 = .ok (.iconst 3, 1) := by decide +kernel
theorem dX11_wouldSuit_44 : decode cX11_wouldSuit 44 = .ok (.invokevirtual 194, 3) := by decide +kernel
theorem dX11_wouldSuit_47 : decode cX11_wouldSuit 47 = .ok (.aload_n 0, 1) := by decide +kernel
theorem dX11_wouldSuit_48 : decode cX11_wouldSuit 48 = .ok (.getfield 35, 3) := by decide +kernel
theorem dX11_wouldSuit_51 : decode cX11_wouldSuit 51 = .ok (.aload_n 2, 1) := by decide +kernel
theorem dX11_wouldSuit_52 : decode cX11_wouldSuit 52 = .ok (.invokevirtual 279, 3) := by decide +kernel
theorem dX11_wouldSuit_55 : decode cX11_wouldSuit 55 = .ok (.ireturn, 1) := by decide +kernel
theorem dX11_tryAs_0 : decode cX11_tryAs 0 = .ok (.aload_n 0, 1) := by decide +kernel
theorem dX11_tryAs_1 : decode cX11_tryAs 1 = .ok (.getfield 18, 3) := by decide +kernel
theorem dX11_tryAs_4 : decode cX11_tryAs 4 = .ok (.iload_n 2, 1) := by decide +kernel
theorem dX11_tryAs_5 : decode cX11_tryAs 5 = .ok (.invokevirtual 156, 3) := by decide +kernel
theorem dX11_tryAs_8 : decode cX11_tryAs 8 = .ok (.astore_n 3, 1) := by decide +kernel
theorem dX11_tryAs_9 : decode cX11_tryAs 9 = .ok (.aload_n 3, 1) := by decide +kernel
theorem dX11_tryAs_10 : decode cX11_tryAs 10 = .ok (.ifnonnull 5, 3) := by decide +kernel
theorem dX11_tryAs_13 : decode cX11_tryAs 13 = .ok (.iconst 0, 1) := by decide +kernel
theorem dX11_tryAs_14 : decode cX11_tryAs 14 = .ok (.ireturn, 1) := by decide +kernel
theorem dX11_tryAs_15 : decode cX11_tryAs 15 = .ok (.aload_n 0, 1) := by decide +kernel
theorem dX11_tryAs_16 : decode cX11_tryAs 16 = .ok (.getfield 35, 3) := by decide +kernel
theorem dX11_tryAs_19 : decode cX11_tryAs 19 = .ok (.aload_n 1, 1) := by decide +kernel
theorem dX11_tryAs_20 : decode cX11_tryAs 20 = .ok (.invokevirtual 190, 3) := by decide +kernel
theorem dX11_tryAs_23 : decode cX11_tryAs 23 = .ok (.aload_n 0, 1) := by decide +kernel
theorem dX11_tryAs_24 : decode cX11_tryAs 24 = .ok (.getfield 35, 3) := by decide +kernel
theorem dX11_tryAs_27 : decode cX11_tryAs 27 = .ok (.aload_n 3, 1) := by decide +kernel
theorem dX11_tryAs_28 : decode cX11_tryAs 28 = .ok (.putfield 105, 3) := by decide +kernel
theorem dX11_tryAs_31 : decode cX11_tryAs 31 = .ok (.iconst 1, 1) := by decide +kernel
theorem dX11_tryAs_32 : decode cX11_tryAs 32 = .ok (.ireturn, 1) := by decide +kernel
theorem dX11_explains_0 : decode cX11_explains 0 = .ok (.aload_n 0, 1) := by decide +kernel
theorem dX11_explains_1 : decode cX11_explains 1 = .ok (.aload_n 2, 1) := by decide +kernel
theorem dX11_explains_2 : decode cX11_explains 2 = .ok (.iload_n 3, 1) := by decide +kernel
theorem dX11_explains_3 : decode cX11_explains 3 = .ok (.invokevirtual 206, 3) := by decide +kernel
theorem dX11_explains_6 : decode cX11_explains 6 = .ok (.ifCond .ne 5, 3) := by decide +kernel
theorem dX11_explains_9 : decode cX11_explains 9 = .ok (.iconst 0, 1) := by decide +kernel
theorem dX11_explains_10 : decode cX11_explains 10 = .ok (.ireturn, 1) := by decide +kernel
theorem dX11_explains_11 : decode cX11_explains 11 = .ok (.iconst 0, 1) := by decide +kernel
theorem dX11_explains_12 : decode cX11_explains 12 = .ok (.istore 5, 2) := by decide +kernel
theorem dX11_explains_14 : decode cX11_explains 14 = .ok (.iload 5, 2) := by decide +kernel
theorem dX11_explains_16 : decode cX11_explains 16 = .ok (.aload_n 1, 1) := by decide +kernel
theorem dX11_explains_17 : decode cX11_explains 17 = .ok (.getfield 242, 3) := by decide +kernel
theorem dX11_explains_20 : decode cX11_explains 20 = .ok (.if_icmp .ge 46, 3) := by decide +kernel
theorem dX11_explains_23 : decode cX11_explains 23 = .ok (.aload_n 1, 1) := by decide +kernel
theorem dX11_explains_24 : decode cX11_explains 24 = .ok (.getfield 248, 3) := by decide +kernel
theorem dX11_explains_27 : decode cX11_explains 27 = .ok (.iload 5, 2) := by decide +kernel
theorem dX11_explains_29 : decode cX11_explains 29 = .ok (.laload, 1) := by decide +kernel
theorem dX11_explains_30 : decode cX11_explains 30 = .ok (.aload_n 0, 1) := by decide +kernel
theorem dX11_explains_31 : decode cX11_explains 31 = .ok (.getfield 35, 3) := by decide +kernel
theorem dX11_explains_34 : decode cX11_explains 34 = .ok (.getfield 116, 3) := by decide +kernel
theorem dX11_explains_37 : decode cX11_explains 37 = .ok (.i2l, 1) := by decide +kernel
theorem dX11_explains_38 : decode cX11_explains 38 = .ok (.lcmp, 1) := by decide +kernel
theorem dX11_explains_39 : decode cX11_explains 39 = .ok (.ifCond .eq 5, 3) := by decide +kernel
theorem dX11_explains_42 : decode cX11_explains 42 = .ok (.iconst 0, 1) := by decide +kernel
theorem dX11_explains_43 : decode cX11_explains 43 = .ok (.ireturn, 1) := by decide +kernel
theorem dX11_explains_44 : decode cX11_explains 44 = .ok (.aload_n 0, 1) := by decide +kernel
theorem dX11_explains_45 : decode cX11_explains 45 = .ok (.getfield 35, 3) := by decide +kernel
theorem dX11_explains_48 : decode cX11_explains 48 = .ok (.iload 4, 2) := by decide +kernel
theorem dX11_explains_50 : decode cX11_explains 50 = .ok (.aload_n 0, 1) := by decide +kernel
theorem dX11_explains_51 : decode cX11_explains 51 = .ok (.getfield 18, 3) := by decide +kernel
theorem dX11_explains_54 : decode cX11_explains 54 = .ok (.getfield 69, 3) := by decide +kernel
theorem dX11_explains_57 : decode cX11_explains 57 = .ok (.invokevirtual 147, 3) := by decide +kernel
theorem dX11_explains_60 : decode cX11_explains 60 = .ok (.iinc 5 1, 3) := by decide +kernel
theorem dX11_explains_63 : decode cX11_explains 63 = .ok (.goto (-49), 3) := by decide +kernel
theorem dX11_explains_66 : decode cX11_explains 66 = .ok (.iconst 1, 1) := by decide +kernel
theorem dX11_explains_67 : decode cX11_explains 67 = .ok (.ireturn, 1) := by decide +kernel
theorem dX11_within_0 : decode cX11_within 0 = .ok (.iload_n 0, 1) := by decide +kernel
theorem dX11_within_1 : decode cX11_within 1 = .ok (.iload_n 1, 1) := by decide +kernel
theorem dX11_within_2 : decode cX11_within 2 = .ok (.if_icmp .lt 12, 3) := by decide +kernel
theorem dX11_within_5 : decode cX11_within 5 = .ok (.iload_n 0, 1) := by decide +kernel
theorem dX11_within_6 : decode cX11_within 6 = .ok (.iload_n 2, 1) := by decide +kernel
theorem dX11_within_7 : decode cX11_within 7 = .ok (.if_icmp .gt 7, 3) := by decide +kernel
theorem dX11_within_10 : decode cX11_within 10 = .ok (.iconst 1, 1) := by decide +kernel
theorem dX11_within_11 : decode cX11_within 11 = .ok (.goto 4, 3) := by decide +kernel
theorem dX11_within_14 : decode cX11_within 14 = .ok (.iconst 0, 1) := by decide +kernel
theorem dX11_within_15 : decode cX11_within 15 = .ok (.ireturn, 1) := by decide +kernel
theorem dX11_isKind_0 : decode cX11_isKind 0 = .ok (.iload_n 0, 1) := by decide +kernel
theorem dX11_isKind_1 : decode cX11_isKind 1 = .ok (.iconst 0, 1) := by decide +kernel
theorem dX11_isKind_2 : decode cX11_isKind 2 = .ok (.iconst 5, 1) := by decide +kernel
theorem dX11_isKind_3 : decode cX11_isKind 3 = .ok (.invokestatic 61, 3) := by decide +kernel
theorem dX11_isKind_6 : decode cX11_isKind 6 = .ok (.ireturn, 1) := by decide +kernel
theorem dX11_isSpan_0 : decode cX11_isSpan 0 = .ok (.iload_n 0, 1) := by decide +kernel
theorem dX11_isSpan_1 : decode cX11_isSpan 1 = .ok (.bipush 10, 2) := by decide +kernel
theorem dX11_isSpan_3 : decode cX11_isSpan 3 = .ok (.sipush 200, 3) := by decide +kernel
theorem dX11_isSpan_6 : decode cX11_isSpan 6 = .ok (.invokestatic 61, 3) := by decide +kernel
theorem dX11_isSpan_9 : decode cX11_isSpan 9 = .ok (.ireturn, 1) := by decide +kernel
theorem dX11_maySet_0 : decode cX11_maySet 0 = .ok (.iload_n 0, 1) := by decide +kernel
theorem dX11_maySet_1 : decode cX11_maySet 1 = .ok (.tableswitch 66 1 6 #[39, 44, 49, 66, 66, 57], 39) := by decide +kernel
theorem dX11_maySet_40 : decode cX11_maySet 40 = .ok (.iload_n 1, 1) := by decide +kernel
theorem dX11_maySet_41 : decode cX11_maySet 41 = .ok (.invokestatic 164, 3) := by decide +kernel
theorem dX11_maySet_44 : decode cX11_maySet 44 = .ok (.ireturn, 1) := by decide +kernel
theorem dX11_maySet_45 : decode cX11_maySet 45 = .ok (.iload_n 1, 1) := by decide +kernel
theorem dX11_maySet_46 : decode cX11_maySet 46 = .ok (.invokestatic 164, 3) := by decide +kernel
theorem dX11_maySet_49 : decode cX11_maySet 49 = .ok (.ireturn, 1) := by decide +kernel
theorem dX11_maySet_50 : decode cX11_maySet 50 = .ok (.iload_n 1, 1) := by decide +kernel
theorem dX11_maySet_51 : decode cX11_maySet 51 = .ok (.iconst 1, 1) := by decide +kernel
theorem dX11_maySet_52 : decode cX11_maySet 52 = .ok (.bipush 99, 2) := by decide +kernel
theorem dX11_maySet_54 : decode cX11_maySet 54 = .ok (.invokestatic 61, 3) := by decide +kernel
theorem dX11_maySet_57 : decode cX11_maySet 57 = .ok (.ireturn, 1) := by decide +kernel
theorem dX11_maySet_58 : decode cX11_maySet 58 = .ok (.iload_n 1, 1) := by decide +kernel
theorem dX11_maySet_59 : decode cX11_maySet 59 = .ok (.iconst 0, 1) := by decide +kernel
theorem dX11_maySet_60 : decode cX11_maySet 60 = .ok (.sipush 9999, 3) := by decide +kernel
theorem dX11_maySet_63 : decode cX11_maySet 63 = .ok (.invokestatic 61, 3) := by decide +kernel
theorem dX11_maySet_66 : decode cX11_maySet 66 = .ok (.ireturn, 1) := by decide +kernel
theorem dX11_maySet_67 : decode cX11_maySet 67 = .ok (.iconst 0, 1) := by decide +kernel
theorem dX11_maySet_68 : decode cX11_maySet 68 = .ok (.ireturn, 1) := by decide +kernel
theorem dJ6_bitCount_0f7a4_0 : decode cJ6_bitCount_0f7a4 0 = .ok (.iload_n 0, 1) := by decide +kernel
theorem dJ6_bitCount_0f7a4_1 : decode cJ6_bitCount_0f7a4 1 = .ok (.iload_n 0, 1) := by decide +kernel
theorem dJ6_bitCount_0f7a4_2 : decode cJ6_bitCount_0f7a4 2 = .ok (.iconst 1, 1) := by decide +kernel
theorem dJ6_bitCount_0f7a4_3 : decode cJ6_bitCount_0f7a4 3 = .ok (.iushr, 1) := by decide +kernel
theorem dJ6_bitCount_0f7a4_4 : decode cJ6_bitCount_0f7a4 4 = .ok (.ldc_w 265, 3) := by decide +kernel
theorem dJ6_bitCount_0f7a4_7 : decode cJ6_bitCount_0f7a4 7 = .ok (.iand, 1) := by decide +kernel
theorem dJ6_bitCount_0f7a4_8 : decode cJ6_bitCount_0f7a4 8 = .ok (.isub, 1) := by decide +kernel
theorem dJ6_bitCount_0f7a4_9 : decode cJ6_bitCount_0f7a4 9 = .ok (.istore_n 0, 1) := by decide +kernel
theorem dJ6_bitCount_0f7a4_10 : decode cJ6_bitCount_0f7a4 10 = .ok (.iload_n 0, 1) := by decide +kernel
theorem dJ6_bitCount_0f7a4_11 : decode cJ6_bitCount_0f7a4 11 = .ok (.ldc_w 266, 3) := by decide +kernel
theorem dJ6_bitCount_0f7a4_14 : decode cJ6_bitCount_0f7a4 14 = .ok (.iand, 1) := by decide +kernel
theorem dJ6_bitCount_0f7a4_15 : decode cJ6_bitCount_0f7a4 15 = .ok (.iload_n 0, 1) := by decide +kernel
theorem dJ6_bitCount_0f7a4_16 : decode cJ6_bitCount_0f7a4 16 = .ok (.iconst 2, 1) := by decide +kernel
theorem dJ6_bitCount_0f7a4_17 : decode cJ6_bitCount_0f7a4 17 = .ok (.iushr, 1) := by decide +kernel
theorem dJ6_bitCount_0f7a4_18 : decode cJ6_bitCount_0f7a4 18 = .ok (.ldc_w 266, 3) := by decide +kernel
theorem dJ6_bitCount_0f7a4_21 : decode cJ6_bitCount_0f7a4 21 = .ok (.iand, 1) := by decide +kernel
theorem dJ6_bitCount_0f7a4_22 : decode cJ6_bitCount_0f7a4 22 = .ok (.iadd, 1) := by decide +kernel
theorem dJ6_bitCount_0f7a4_23 : decode cJ6_bitCount_0f7a4 23 = .ok (.istore_n 0, 1) := by decide +kernel
theorem dJ6_bitCount_0f7a4_24 : decode cJ6_bitCount_0f7a4 24 = .ok (.iload_n 0, 1) := by decide +kernel
theorem dJ6_bitCount_0f7a4_25 : decode cJ6_bitCount_0f7a4 25 = .ok (.iload_n 0, 1) := by decide +kernel
theorem dJ6_bitCount_0f7a4_26 : decode cJ6_bitCount_0f7a4 26 = .ok (.iconst 4, 1) := by decide +kernel
theorem dJ6_bitCount_0f7a4_27 : decode cJ6_bitCount_0f7a4 27 = .ok (.iushr, 1) := by decide +kernel
theorem dJ6_bitCount_0f7a4_28 : decode cJ6_bitCount_0f7a4 28 = .ok (.iadd, 1) := by decide +kernel
theorem dJ6_bitCount_0f7a4_29 : decode cJ6_bitCount_0f7a4 29 = .ok (.ldc_w 267, 3) := by decide +kernel
theorem dJ6_bitCount_0f7a4_32 : decode cJ6_bitCount_0f7a4 32 = .ok (.iand, 1) := by decide +kernel
theorem dJ6_bitCount_0f7a4_33 : decode cJ6_bitCount_0f7a4 33 = .ok (.istore_n 0, 1) := by decide +kernel
theorem dJ6_bitCount_0f7a4_34 : decode cJ6_bitCount_0f7a4 34 = .ok (.iload_n 0, 1) := by decide +kernel
theorem dJ6_bitCount_0f7a4_35 : decode cJ6_bitCount_0f7a4 35 = .ok (.iload_n 0, 1) := by decide +kernel
theorem dJ6_bitCount_0f7a4_36 : decode cJ6_bitCount_0f7a4 36 = .ok (.bipush 8, 2) := by decide +kernel
theorem dJ6_bitCount_0f7a4_38 : decode cJ6_bitCount_0f7a4 38 = .ok (.iushr, 1) := by decide +kernel
theorem dJ6_bitCount_0f7a4_39 : decode cJ6_bitCount_0f7a4 39 = .ok (.iadd, 1) := by decide +kernel
theorem dJ6_bitCount_0f7a4_40 : decode cJ6_bitCount_0f7a4 40 = .ok (.istore_n 0, 1) := by decide +kernel
theorem dJ6_bitCount_0f7a4_41 : decode cJ6_bitCount_0f7a4 41 = .ok (.iload_n 0, 1) := by decide +kernel
theorem dJ6_bitCount_0f7a4_42 : decode cJ6_bitCount_0f7a4 42 = .ok (.iload_n 0, 1) := by decide +kernel
theorem dJ6_bitCount_0f7a4_43 : decode cJ6_bitCount_0f7a4 43 = .ok (.bipush 16, 2) := by decide +kernel
theorem dJ6_bitCount_0f7a4_45 : decode cJ6_bitCount_0f7a4 45 = .ok (.iushr, 1) := by decide +kernel
theorem dJ6_bitCount_0f7a4_46 : decode cJ6_bitCount_0f7a4 46 = .ok (.iadd, 1) := by decide +kernel
theorem dJ6_bitCount_0f7a4_47 : decode cJ6_bitCount_0f7a4 47 = .ok (.istore_n 0, 1) := by decide +kernel
theorem dJ6_bitCount_0f7a4_48 : decode cJ6_bitCount_0f7a4 48 = .ok (.iload_n 0, 1) := by decide +kernel
theorem dJ6_bitCount_0f7a4_49 : decode cJ6_bitCount_0f7a4 49 = .ok (.bipush 63, 2) := by decide +kernel
theorem dJ6_bitCount_0f7a4_51 : decode cJ6_bitCount_0f7a4 51 = .ok (.iand, 1) := by decide +kernel
theorem dJ6_bitCount_0f7a4_52 : decode cJ6_bitCount_0f7a4 52 = .ok (.ireturn, 1) := by decide +kernel
theorem dJ9_max_7cf53_0 : decode cJ9_max_7cf53 0 = .ok (.iload_n 0, 1) := by decide +kernel
theorem dJ9_max_7cf53_1 : decode cJ9_max_7cf53 1 = .ok (.iload_n 1, 1) := by decide +kernel
theorem dJ9_max_7cf53_2 : decode cJ9_max_7cf53 2 = .ok (.if_icmp .lt 7, 3) := by decide +kernel
theorem dJ9_max_7cf53_5 : decode cJ9_max_7cf53 5 = .ok (.iload_n 0, 1) := by decide +kernel
theorem dJ9_max_7cf53_6 : decode cJ9_max_7cf53 6 = .ok (.goto 4, 3) := by decide +kernel
theorem dJ9_max_7cf53_9 : decode cJ9_max_7cf53 9 = .ok (.iload_n 1, 1) := by decide +kernel
theorem dJ9_max_7cf53_10 : decode cJ9_max_7cf53 10 = .ok (.ireturn, 1) := by decide +kernel
theorem dJ9_min_7cf53_0 : decode cJ9_min_7cf53 0 = .ok (.iload_n 0, 1) := by decide +kernel
theorem dJ9_min_7cf53_1 : decode cJ9_min_7cf53 1 = .ok (.iload_n 1, 1) := by decide +kernel
theorem dJ9_min_7cf53_2 : decode cJ9_min_7cf53 2 = .ok (.if_icmp .gt 7, 3) := by decide +kernel
theorem dJ9_min_7cf53_5 : decode cJ9_min_7cf53 5 = .ok (.iload_n 0, 1) := by decide +kernel
theorem dJ9_min_7cf53_6 : decode cJ9_min_7cf53 6 = .ok (.goto 4, 3) := by decide +kernel
theorem dJ9_min_7cf53_9 : decode cJ9_min_7cf53 9 = .ok (.iload_n 1, 1) := by decide +kernel
theorem dJ9_min_7cf53_10 : decode cJ9_min_7cf53 10 = .ok (.ireturn, 1) := by decide +kernel
theorem dJ0_length_8abf5_0 : decode cJ0_length_8abf5 0 = .ok (.aload_n 0, 1) := by decide +kernel
theorem dJ0_length_8abf5_1 : decode cJ0_length_8abf5 1 = .ok (.getfield 9, 3) := by decide +kernel
theorem dJ0_length_8abf5_4 : decode cJ0_length_8abf5 4 = .ok (.arraylength, 1) := by decide +kernel
theorem dJ0_length_8abf5_5 : decode cJ0_length_8abf5 5 = .ok (.aload_n 0, 1) := by decide +kernel
theorem dJ0_length_8abf5_6 : decode cJ0_length_8abf5 6 = .ok (.invokevirtual 335, 3) := by decide +kernel
theorem dJ0_length_8abf5_9 : decode cJ0_length_8abf5 9 = .ok (.ishr, 1) := by decide +kernel
theorem dJ0_length_8abf5_10 : decode cJ0_length_8abf5 10 = .ok (.ireturn, 1) := by decide +kernel
theorem dJ0_charAt_5068e_0 : decode cJ0_charAt_5068e 0 = .ok (.aload_n 0, 1) := by decide +kernel
theorem dJ0_charAt_5068e_1 : decode cJ0_charAt_5068e 1 = .ok (.invokevirtual 492, 3) := by decide +kernel
theorem dJ0_charAt_5068e_4 : decode cJ0_charAt_5068e 4 = .ok (.ifCond .eq 12, 3) := by decide +kernel
theorem dJ0_charAt_5068e_7 : decode cJ0_charAt_5068e 7 = .ok (.aload_n 0, 1) := by decide +kernel
theorem dJ0_charAt_5068e_8 : decode cJ0_charAt_5068e 8 = .ok (.getfield 9, 3) := by decide +kernel
theorem dJ0_charAt_5068e_11 : decode cJ0_charAt_5068e 11 = .ok (.iload_n 1, 1) := by decide +kernel
theorem dJ0_charAt_5068e_12 : decode cJ0_charAt_5068e 12 = .ok (.invokestatic 495, 3) := by decide +kernel
theorem dJ0_charAt_5068e_15 : decode cJ0_charAt_5068e 15 = .ok (.ireturn, 1) := by decide +kernel
theorem dJ0_charAt_5068e_16 : decode cJ0_charAt_5068e 16 = .ok (.aload_n 0, 1) := by decide +kernel
theorem dJ0_charAt_5068e_17 : decode cJ0_charAt_5068e 17 = .ok (.getfield 9, 3) := by decide +kernel
theorem dJ0_charAt_5068e_20 : decode cJ0_charAt_5068e 20 = .ok (.iload_n 1, 1) := by decide +kernel
theorem dJ0_charAt_5068e_21 : decode cJ0_charAt_5068e 21 = .ok (.invokestatic 498, 3) := by decide +kernel
theorem dJ0_charAt_5068e_24 : decode cJ0_charAt_5068e 24 = .ok (.ireturn, 1) := by decide +kernel
theorem dJ0_coder_7d493_0 : decode cJ0_coder_7d493 0 = .ok (.getstatic 38, 3) := by decide +kernel
theorem dJ0_coder_7d493_3 : decode cJ0_coder_7d493 3 = .ok (.ifCond .eq 10, 3) := by decide +kernel
theorem dJ0_coder_7d493_6 : decode cJ0_coder_7d493 6 = .ok (.aload_n 0, 1) := by decide +kernel
theorem dJ0_coder_7d493_7 : decode cJ0_coder_7d493 7 = .ok (.getfield 15, 3) := by decide +kernel
theorem dJ0_coder_7d493_10 : decode cJ0_coder_7d493 10 = .ok (.goto 4, 3) := by decide +kernel
theorem dJ0_coder_7d493_13 : decode cJ0_coder_7d493 13 = .ok (.iconst 1, 1) := by decide +kernel
theorem dJ0_coder_7d493_14 : decode cJ0_coder_7d493 14 = .ok (.ireturn, 1) := by decide +kernel
theorem dJ0_isLatin1_aae02_0 : decode cJ0_isLatin1_aae02 0 = .ok (.getstatic 38, 3) := by decide +kernel
theorem dJ0_isLatin1_aae02_3 : decode cJ0_isLatin1_aae02 3 = .ok (.ifCond .eq 14, 3) := by decide +kernel
theorem dJ0_isLatin1_aae02_6 : decode cJ0_isLatin1_aae02 6 = .ok (.aload_n 0, 1) := by decide +kernel
theorem dJ0_isLatin1_aae02_7 : decode cJ0_isLatin1_aae02 7 = .ok (.getfield 15, 3) := by decide +kernel
theorem dJ0_isLatin1_aae02_10 : decode cJ0_isLatin1_aae02 10 = .ok (.ifCond .ne 7, 3) := by decide +kernel
theorem dJ0_isLatin1_aae02_13 : decode cJ0_isLatin1_aae02 13 = .ok (.iconst 1, 1) := by decide +kernel
theorem dJ0_isLatin1_aae02_14 : decode cJ0_isLatin1_aae02 14 = .ok (.goto 4, 3) := by decide +kernel
theorem dJ0_isLatin1_aae02_17 : decode cJ0_isLatin1_aae02 17 = .ok (.iconst 0, 1) := by decide +kernel
theorem dJ0_isLatin1_aae02_18 : decode cJ0_isLatin1_aae02 18 = .ok (.ireturn, 1) := by decide +kernel
theorem dJ0_checkIndex_df160_0 : decode cJ0_checkIndex_df160 0 = .ok (.iload_n 0, 1) := by decide +kernel
theorem dJ0_checkIndex_df160_1 : decode cJ0_checkIndex_df160 1 = .ok (.iload_n 1, 1) := by decide +kernel
theorem dJ0_checkIndex_df160_2 : decode cJ0_checkIndex_df160 2 = .ok (.getstatic 1053, 3) := by decide +kernel
theorem dJ0_checkIndex_df160_5 : decode cJ0_checkIndex_df160 5 = .ok (.invokestatic 1059, 3) := by decide +kernel
theorem dJ0_checkIndex_df160_8 : decode cJ0_checkIndex_df160 8 = .ok (.pop, 1) := by decide +kernel
theorem dJ0_checkIndex_df160_9 : decode cJ0_checkIndex_df160 9 = .ok (.return_, 1) := by decide +kernel
theorem dJ1_charAt_3b067_0 : decode cJ1_charAt_3b067 0 = .ok (.iload_n 1, 1) := by decide +kernel
theorem dJ1_charAt_3b067_1 : decode cJ1_charAt_3b067 1 = .ok (.aload_n 0, 1) := by decide +kernel
theorem dJ1_charAt_3b067_2 : decode cJ1_charAt_3b067 2 = .ok (.arraylength, 1) := by decide +kernel
theorem dJ1_charAt_3b067_3 : decode cJ1_charAt_3b067 3 = .ok (.invokestatic 9, 3) := by decide +kernel
theorem dJ1_charAt_3b067_6 : decode cJ1_charAt_3b067 6 = .ok (.aload_n 0, 1) := by decide +kernel
theorem dJ1_charAt_3b067_7 : decode cJ1_charAt_3b067 7 = .ok (.iload_n 1, 1) := by decide +kernel
theorem dJ1_charAt_3b067_8 : decode cJ1_charAt_3b067 8 = .ok (.baload, 1) := by decide +kernel
theorem dJ1_charAt_3b067_9 : decode cJ1_charAt_3b067 9 = .ok (.sipush 255, 3) := by decide +kernel
theorem dJ1_charAt_3b067_12 : decode cJ1_charAt_3b067 12 = .ok (.iand, 1) := by decide +kernel
theorem dJ1_charAt_3b067_13 : decode cJ1_charAt_3b067 13 = .ok (.i2c, 1) := by decide +kernel
theorem dJ1_charAt_3b067_14 : decode cJ1_charAt_3b067 14 = .ok (.ireturn, 1) := by decide +kernel
theorem dJ2_getChar_3b067_0 : decode cJ2_getChar_3b067 0 = .ok (.getstatic 44, 3) := by decide +kernel
theorem dJ2_getChar_3b067_3 : decode cJ2_getChar_3b067 3 = .ok (.ifCond .ne 25, 3) := by decide +kernel
theorem dJ2_getChar_3b067_6 : decode cJ2_getChar_3b067 6 = .ok (.iload_n 1, 1) := by decide +kernel
theorem dJ2_getChar_3b067_7 : decode cJ2_getChar_3b067 7 = .ok (.ifCond .lt 11, 3) := by decide +kernel
theorem dJ2_getChar_3b067_10 : decode cJ2_getChar_3b067 10 = .ok (.iload_n 1, 1) := by decide +kernel
theorem dJ2_getChar_3b067_11 : decode cJ2_getChar_3b067 11 = .ok (.aload_n 0, 1) := by decide +kernel
theorem dJ2_getChar_3b067_12 : decode cJ2_getChar_3b067 12 = .ok (.invokestatic 48, 3) := by decide +kernel
theorem dJ2_getChar_3b067_15 : decode cJ2_getChar_3b067 15 = .ok (.if_icmp .lt 13, 3) := by decide +kernel
theorem dJ2_getChar_3b067_18 : decode cJ2_getChar_3b067 18 = .ok (.new 52, 3) := by decide +kernel
theorem dJ2_getChar_3b067_21 : decode cJ2_getChar_3b067 21 = .ok (.dup, 1) := by decide +kernel
theorem dJ2_getChar_3b067_22 : decode cJ2_getChar_3b067 22 = .ok (.ldc 54, 2) := by decide +kernel
theorem dJ2_getChar_3b067_24 : decode cJ2_getChar_3b067 24 = .ok (.invokespecial 56, 3) := by decide +kernel
theorem dJ2_getChar_3b067_27 : decode cJ2_getChar_3b067 27 = .ok (.athrow, 1) := by decide +kernel
theorem dJ2_getChar_3b067_28 : decode cJ2_getChar_3b067 28 = .ok (.iload_n 1, 1) := by decide +kernel
theorem dJ2_getChar_3b067_29 : decode cJ2_getChar_3b067 29 = .ok (.iconst 1, 1) := by decide +kernel
theorem dJ2_getChar_3b067_30 : decode cJ2_getChar_3b067 30 = .ok (.ishl, 1) := by decide +kernel
theorem dJ2_getChar_3b067_31 : decode cJ2_getChar_3b067 31 = .ok (.istore_n 1, 1) := by decide +kernel
theorem dJ2_getChar_3b067_32 : decode cJ2_getChar_3b067 32 = .ok (.aload_n 0, 1) := by decide +kernel
theorem dJ2_getChar_3b067_33 : decode cJ2_getChar_3b067 33 = .ok (.iload_n 1, 1) := by decide +kernel
theorem dJ2_getChar_3b067_34 : decode cJ2_getChar_3b067 34 = .ok (.iinc 1 1, 3) := by decide +kernel
theorem dJ2_getChar_3b067_37 : decode cJ2_getChar_3b067 37 = .ok (.baload, 1) := by decide +kernel
theorem dJ2_getChar_3b067_38 : decode cJ2_getChar_3b067 38 = .ok (.sipush 255, 3) := by decide +kernel
theorem dJ2_getChar_3b067_41 : decode cJ2_getChar_3b067 41 = .ok (.iand, 1) := by decide +kernel
theorem dJ2_getChar_3b067_42 : decode cJ2_getChar_3b067 42 = .ok (.getstatic 59, 3) := by decide +kernel
theorem dJ2_getChar_3b067_45 : decode cJ2_getChar_3b067 45 = .ok (.ishl, 1) := by decide +kernel
theorem dJ2_getChar_3b067_46 : decode cJ2_getChar_3b067 46 = .ok (.aload_n 0, 1) := by decide +kernel
theorem dJ2_getChar_3b067_47 : decode cJ2_getChar_3b067 47 = .ok (.iload_n 1, 1) := by decide +kernel
theorem dJ2_getChar_3b067_48 : decode cJ2_getChar_3b067 48 = .ok (.baload, 1) := by decide +kernel
theorem dJ2_getChar_3b067_49 : decode cJ2_getChar_3b067 49 = .ok (.sipush 255, 3) := by decide +kernel
theorem dJ2_getChar_3b067_52 : decode cJ2_getChar_3b067 52 = .ok (.iand, 1) := by decide +kernel
theorem dJ2_getChar_3b067_53 : decode cJ2_getChar_3b067 53 = .ok (.getstatic 63, 3) := by decide +kernel
theorem dJ2_getChar_3b067_56 : decode cJ2_getChar_3b067 56 = .ok (.ishl, 1) := by decide +kernel
theorem dJ2_getChar_3b067_57 : decode cJ2_getChar_3b067 57 = .ok (.ior, 1) := by decide +kernel
theorem dJ2_getChar_3b067_58 : decode cJ2_getChar_3b067 58 = .ok (.i2c, 1) := by decide +kernel
theorem dJ2_getChar_3b067_59 : decode cJ2_getChar_3b067 59 = .ok (.ireturn, 1) := by decide +kernel
theorem dJ2_length_9d52b_0 : decode cJ2_length_9d52b 0 = .ok (.aload_n 0, 1) := by decide +kernel
theorem dJ2_length_9d52b_1 : decode cJ2_length_9d52b 1 = .ok (.arraylength, 1) := by decide +kernel
theorem dJ2_length_9d52b_2 : decode cJ2_length_9d52b 2 = .ok (.iconst 1, 1) := by decide +kernel
theorem dJ2_length_9d52b_3 : decode cJ2_length_9d52b 3 = .ok (.ishr, 1) := by decide +kernel
theorem dJ2_length_9d52b_4 : decode cJ2_length_9d52b 4 = .ok (.ireturn, 1) := by decide +kernel
theorem dJ2_charAt_3b067_0 : decode cJ2_charAt_3b067 0 = .ok (.iload_n 1, 1) := by decide +kernel
theorem dJ2_charAt_3b067_1 : decode cJ2_charAt_3b067 1 = .ok (.aload_n 0, 1) := by decide +kernel
theorem dJ2_charAt_3b067_2 : decode cJ2_charAt_3b067 2 = .ok (.invokestatic 67, 3) := by decide +kernel
theorem dJ2_charAt_3b067_5 : decode cJ2_charAt_3b067 5 = .ok (.aload_n 0, 1) := by decide +kernel
theorem dJ2_charAt_3b067_6 : decode cJ2_charAt_3b067 6 = .ok (.iload_n 1, 1) := by decide +kernel
theorem dJ2_charAt_3b067_7 : decode cJ2_charAt_3b067 7 = .ok (.invokestatic 71, 3) := by decide +kernel
theorem dJ2_charAt_3b067_10 : decode cJ2_charAt_3b067 10 = .ok (.ireturn, 1) := by decide +kernel
theorem dJ2_checkIndex_2214a_0 : decode cJ2_checkIndex_2214a 0 = .ok (.iload_n 0, 1) := by decide +kernel
theorem dJ2_checkIndex_2214a_1 : decode cJ2_checkIndex_2214a 1 = .ok (.aload_n 1, 1) := by decide +kernel
theorem dJ2_checkIndex_2214a_2 : decode cJ2_checkIndex_2214a 2 = .ok (.invokestatic 48, 3) := by decide +kernel
theorem dJ2_checkIndex_2214a_5 : decode cJ2_checkIndex_2214a 5 = .ok (.invokestatic 414, 3) := by decide +kernel
theorem dJ2_checkIndex_2214a_8 : decode cJ2_checkIndex_2214a 8 = .ok (.return_, 1) := by decide +kernel
theorem dJ3_checkIndex_8e157_0 : decode cJ3_checkIndex_8e157 0 = .ok (.iload_n 0, 1) := by decide +kernel
theorem dJ3_checkIndex_8e157_1 : decode cJ3_checkIndex_8e157 1 = .ok (.ifCond .lt 8, 3) := by decide +kernel
theorem dJ3_checkIndex_8e157_4 : decode cJ3_checkIndex_8e157 4 = .ok (.iload_n 0, 1) := by decide +kernel
theorem dJ3_checkIndex_8e157_5 : decode cJ3_checkIndex_8e157 5 = .ok (.iload_n 1, 1) := by decide +kernel
theorem dJ3_checkIndex_8e157_6 : decode cJ3_checkIndex_8e157 6 = .ok (.if_icmp .lt 10, 3) := by decide +kernel
theorem dJ3_checkIndex_8e157_9 : decode cJ3_checkIndex_8e157 9 = .ok (.aload_n 2, 1) := by decide +kernel
theorem dJ3_checkIndex_8e157_10 : decode cJ3_checkIndex_8e157 10 = .ok (.iload_n 0, 1) := by decide +kernel
theorem dJ3_checkIndex_8e157_11 : decode cJ3_checkIndex_8e157 11 = .ok (.iload_n 1, 1) := by decide +kernel
theorem dJ3_checkIndex_8e157_12 : decode cJ3_checkIndex_8e157 12 = .ok (.invokestatic 95, 3) := by decide +kernel
theorem dJ3_checkIndex_8e157_15 : decode cJ3_checkIndex_8e157 15 = .ok (.athrow, 1) := by decide +kernel
theorem dJ3_checkIndex_8e157_16 : decode cJ3_checkIndex_8e157 16 = .ok (.iload_n 0, 1) := by decide +kernel
theorem dJ3_checkIndex_8e157_17 : decode cJ3_checkIndex_8e157 17 = .ok (.ireturn, 1) := by decide +kernel
