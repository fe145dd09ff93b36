theorem dX0_init_0 : decode cX0_init 0 = .ok (.aload_n 0, 1) := by decide +kernel
theorem dX0_init_1 : decode cX0_init 1 = .ok (.invokespecial 3, 3) := by decide +kernel
theorem dX0_init_4 : decode cX0_init 4 = .ok (.aload_n 0, 1) := by decide +kernel
theorem dX0_init_5 : decode cX0_init 5 = .ok (.bipush 12, 2) := by decide +kernel
theorem dX0_init_7 : decode cX0_init 7 = .ok (.newarray .int, 2) := by decide +kernel
theorem dX0_init_9 : decode cX0_init 9 = .ok (.putfield 9, 3) := by decide +kernel
theorem dX0_init_12 : decode cX0_init 12 = .ok (.aload_n 0, 1) := by decide +kernel
theorem dX0_init_13 : decode cX0_init 13 = .ok (.bipush 12, 2) := by decide +kernel
theorem dX0_init_15 : decode cX0_init 15 = .ok (.newarray .int, 2) := by decide +kernel
theorem dX0_init_17 : decode cX0_init 17 = .ok (.putfield 15, 3) := by decide +kernel
theorem dX0_init_20 : decode cX0_init 20 = .ok (.aload_n 0, 1) := by decide +kernel
theorem dX0_init_21 : decode cX0_init 21 = .ok (.bipush 12, 2) := by decide +kernel
theorem dX0_init_23 : decode cX0_init 23 = .ok (.newarray .int, 2) := by decide +kernel
theorem dX0_init_25 : decode cX0_init 25 = .ok (.putfield 18, 3) := by decide +kernel
theorem dX0_init_28 : decode cX0_init 28 = .ok (.aload_n 0, 1) := by decide +kernel
theorem dX0_init_29 : decode cX0_init 29 = .ok (.bipush 12, 2) := by decide +kernel
theorem dX0_init_31 : decode cX0_init 31 = .ok (.newarray .int, 2) := by decide +kernel
theorem dX0_init_33 : decode cX0_init 33 = .ok (.putfield 21, 3) := by decide +kernel
theorem dX0_init_36 : decode cX0_init 36 = .ok (.aload_n 0, 1) := by decide +kernel
theorem dX0_init_37 : decode cX0_init 37 = .ok (.iconst 0, 1) := by decide +kernel
theorem dX0_init_38 : decode cX0_init 38 = .ok (.putfield 24, 3) := by decide +kernel
theorem dX0_init_41 : decode cX0_init 41 = .ok (.return_, 1) := by decide +kernel
theorem dX0_add_0 : decode cX0_add 0 = .ok (.aload_n 0, 1) := by decide +kernel
theorem dX0_add_1 : decode cX0_add 1 = .ok (.getfield 24, 3) := by decide +kernel
theorem dX0_add_4 : decode cX0_add 4 = .ok (.bipush 12, 2) := by decide +kernel
theorem dX0_add_6 : decode cX0_add 6 = .ok (.if_icmp .lt 7, 3) := by decide +kernel
theorem dX0_add_9 : decode cX0_add 9 = .ok (.aload_n 0, 1) := by decide +kernel
theorem dX0_add_10 : decode cX0_add 10 = .ok (.invokevirtual 28, 3) := by decide +kernel
theorem dX0_add_13 : decode cX0_add 13 = .ok (.aload_n 0, 1) := by decide +kernel
theorem dX0_add_14 : decode cX0_add 14 = .ok (.getfield 9, 3) := by decide +kernel
theorem dX0_add_17 : decode cX0_add 17 = .ok (.aload_n 0, 1) := by decide +kernel
theorem dX0_add_18 : decode cX0_add 18 = .ok (.getfield 24, 3) := by decide +kernel
theorem dX0_add_21 : decode cX0_add 21 = .ok (.iload_n 1, 1) := by decide +kernel
theorem dX0_add_22 : decode cX0_add 22 = .ok (.iastore, 1) := by decide +kernel
theorem dX0_add_23 : decode cX0_add 23 = .ok (.aload_n 0, 1) := by decide +kernel
theorem dX0_add_24 : decode cX0_add 24 = .ok (.getfield 15, 3) := by decide +kernel
theorem dX0_add_27 : decode cX0_add 27 = .ok (.aload_n 0, 1) := by decide +kernel
theorem dX0_add_28 : decode cX0_add 28 = .ok (.getfield 24, 3) := by decide +kernel
theorem dX0_add_31 : decode cX0_add 31 = .ok (.iload_n 2, 1) := by decide +kernel
theorem dX0_add_32 : decode cX0_add 32 = .ok (.iastore, 1) := by decide +kernel
theorem dX0_add_33 : decode cX0_add 33 = .ok (.aload_n 0, 1) := by decide +kernel
theorem dX0_add_34 : decode cX0_add 34 = .ok (.getfield 18, 3) := by decide +kernel
theorem dX0_add_37 : decode cX0_add 37 = .ok (.aload_n 0, 1) := by decide +kernel
theorem dX0_add_38 : decode cX0_add 38 = .ok (.getfield 24, 3) := by decide +kernel
theorem dX0_add_41 : decode cX0_add 41 = .ok (.iload_n 3, 1) := by decide +kernel
theorem dX0_add_42 : decode cX0_add 42 = .ok (.iastore, 1) := by decide +kernel
theorem dX0_add_43 : decode cX0_add 43 = .ok (.aload_n 0, 1) := by decide +kernel
theorem dX0_add_44 : decode cX0_add 44 = .ok (.getfield 21, 3) := by decide +kernel
theorem dX0_add_47 : decode cX0_add 47 = .ok (.aload_n 0, 1) := by decide +kernel
theorem dX0_add_48 : decode cX0_add 48 = .ok (.getfield 24, 3) := by decide +kernel
theorem dX0_add_51 : decode cX0_add 51 = .ok (.iload 4, 2) := by decide +kernel
theorem dX0_add_53 : decode cX0_add 53 = .ok (.iastore, 1) := by decide +kernel
theorem dX0_add_54 : decode cX0_add 54 = .ok (.aload_n 0, 1) := by decide +kernel
theorem dX0_add_55 : decode cX0_add 55 = .ok (.dup, 1) := by decide +kernel
theorem dX0_add_56 : decode cX0_add 56 = .ok (.getfield 24, 3) := by decide +kernel
theorem dX0_add_59 : decode cX0_add 59 = .ok (.iconst 1, 1) := by decide +kernel
theorem dX0_add_60 : decode cX0_add 60 = .ok (.iadd, 1) := by decide +kernel
theorem dX0_add_61 : decode cX0_add 61 = .ok (.putfield 24, 3) := by decide +kernel
theorem dX0_add_64 : decode cX0_add 64 = .ok (.return_, 1) := by decide +kernel
theorem dX0_loseOldest_0 : decode cX0_loseOldest 0 = .ok (.iconst 1, 1) := by decide +kernel
theorem dX0_loseOldest_1 : decode cX0_loseOldest 1 = .ok (.istore_n 1, 1) := by decide +kernel
theorem dX0_loseOldest_2 : decode cX0_loseOldest 2 = .ok (.iload_n 1, 1) := by decide +kernel
theorem dX0_loseOldest_3 : decode cX0_loseOldest 3 = .ok (.bipush 12, 2) := by decide +kernel
theorem dX0_loseOldest_5 : decode cX0_loseOldest 5 = .ok (.if_icmp .ge 65, 3) := by decide +kernel
theorem dX0_loseOldest_8 : decode cX0_loseOldest 8 = .ok (.aload_n 0, 1) := by decide +kernel
theorem dX0_loseOldest_9 : decode cX0_loseOldest 9 = .ok (.getfield 9, 3) := by decide +kernel
theorem dX0_loseOldest_12 : decode cX0_loseOldest 12 = .ok (.iload_n 1, 1) := by decide +kernel
theorem dX0_loseOldest_13 : decode cX0_loseOldest 13 = .ok (.iconst 1, 1) := by decide +kernel
theorem dX0_loseOldest_14 : decode cX0_loseOldest 14 = .ok (.isub, 1) := by decide +kernel
theorem dX0_loseOldest_15 : decode cX0_loseOldest 15 = .ok (.aload_n 0, 1) := by decide +kernel
theorem dX0_loseOldest_16 : decode cX0_loseOldest 16 = .ok (.getfield 9, 3) := by decide +kernel
theorem dX0_loseOldest_19 : decode cX0_loseOldest 19 = .ok (.iload_n 1, 1) := by decide +kernel
theorem dX0_loseOldest_20 : decode cX0_loseOldest 20 = .ok (.iaload, 1) := by decide +kernel
theorem dX0_loseOldest_21 : decode cX0_loseOldest 21 = .ok (.iastore, 1) := by decide +kernel
theorem dX0_loseOldest_22 : decode cX0_loseOldest 22 = .ok (.aload_n 0, 1) := by decide +kernel
theorem dX0_loseOldest_23 : decode cX0_loseOldest 23 = .ok (.getfield 15, 3) := by decide +kernel
theorem dX0_loseOldest_26 : decode cX0_loseOldest 26 = .ok (.iload_n 1, 1) := by decide +kernel
theorem dX0_loseOldest_27 : decode cX0_loseOldest 27 = .ok (.iconst 1, 1) := by decide +kernel
theorem dX0_loseOldest_28 : decode cX0_loseOldest 28 = .ok (.isub, 1) := by decide +kernel
theorem dX0_loseOldest_29 : decode cX0_loseOldest 29 = .ok (.aload_n 0, 1) := by decide +kernel
theorem dX0_loseOldest_30 : decode cX0_loseOldest 30 = .ok (.getfield 15, 3) := by decide +kernel
theorem dX0_loseOldest_33 : decode cX0_loseOldest 33 = .ok (.iload_n 1, 1) := by decide +kernel
theorem dX0_loseOldest_34 : decode cX0_loseOldest 34 = .ok (.iaload, 1) := by decide +kernel
theorem dX0_loseOldest_35 : decode cX0_loseOldest 35 = .ok (.iastore, 1) := by decide +kernel
theorem dX0_loseOldest_36 : decode cX0_loseOldest 36 = .ok (.aload_n 0, 1) := by decide +kernel
theorem dX0_loseOldest_37 : decode cX0_loseOldest 37 = .ok (.getfield 18, 3) := by decide +kernel
theorem dX0_loseOldest_40 : decode cX0_loseOldest 40 = .ok (.iload_n 1, 1) := by decide +kernel
theorem dX0_loseOldest_41 : decode cX0_loseOldest 41 = .ok (.iconst 1, 1) := by decide +kernel
theorem dX0_loseOldest_42 : decode cX0_loseOldest 42 = .ok (.isub, 1) := by decide +kernel
theorem dX0_loseOldest_43 : decode cX0_loseOldest 43 = .ok (.aload_n 0, 1) := by decide +kernel
theorem dX0_loseOldest_44 : decode cX0_loseOldest 44 = .ok (.getfield 18, 3) := by decide +kernel
theorem dX0_loseOldest_47 : decode cX0_loseOldest 47 = .ok (.iload_n 1, 1) := by decide +kernel
theorem dX0_loseOldest_48 : decode cX0_loseOldest 48 = .ok (.iaload, 1) := by decide +kernel
theorem dX0_loseOldest_49 : decode cX0_loseOldest 49 = .ok (.iastore, 1) := by decide +kernel
theorem dX0_loseOldest_50 : decode cX0_loseOldest 50 = .ok (.aload_n 0, 1) := by decide +kernel
theorem dX0_loseOldest_51 : decode cX0_loseOldest 51 = .ok (.getfield 21, 3) := by decide +kernel
theorem dX0_loseOldest_54 : decode cX0_loseOldest 54 = .ok (.iload_n 1, 1) := by decide +kernel
theorem dX0_loseOldest_55 : decode cX0_loseOldest 55 = .ok (.iconst 1, 1) := by decide +kernel
theorem dX0_loseOldest_56 : decode cX0_loseOldest 56 = .ok (.isub, 1) := by decide +kernel
theorem dX0_loseOldest_57 : decode cX0_loseOldest 57 = .ok (.aload_n 0, 1) := by decide +kernel
theorem dX0_loseOldest_58 : decode cX0_loseOldest 58 = .ok (.getfield 21, 3) := by decide +kernel
theorem dX0_loseOldest_61 : decode cX0_loseOldest 61 = .ok (.iload_n 1, 1) := by decide +kernel
theorem dX0_loseOldest_62 : decode cX0_loseOldest 62 = .ok (.iaload, 1) := by decide +kernel
theorem dX0_loseOldest_63 : decode cX0_loseOldest 63 = .ok (.iastore, 1) := by decide +kernel
theorem dX0_loseOldest_64 : decode cX0_loseOldest 64 = .ok (.iinc 1 1, 3) := by decide +kernel
theorem dX0_loseOldest_67 : decode cX0_loseOldest 67 = .ok (.goto (-65), 3) := by decide +kernel
theorem dX0_loseOldest_70 : decode cX0_loseOldest 70 = .ok (.aload_n 0, 1) := by decide +kernel
theorem dX0_loseOldest_71 : decode cX0_loseOldest 71 = .ok (.bipush 11, 2) := by decide +kernel
theorem dX0_loseOldest_73 : decode cX0_loseOldest 73 = .ok (.putfield 24, 3) := by decide +kernel
theorem dX0_loseOldest_76 : decode cX0_loseOldest 76 = .ok (.return_, 1) := by decide +kernel
theorem dX0_takeBack_0 : decode cX0_takeBack 0 = .ok (.aload_n 0, 1) := by decide +kernel
theorem dX0_takeBack_1 : decode cX0_takeBack 1 = .ok (.getfield 24, 3) := by decide +kernel
theorem dX0_takeBack_4 : decode cX0_takeBack 4 = .ok (.iconst 1, 1) := by decide +kernel
theorem dX0_takeBack_5 : decode cX0_takeBack 5 = .ok (.bipush 12, 2) := by decide +kernel
theorem dX0_takeBack_7 : decode cX0_takeBack 7 = .ok (.invokestatic 31, 3) := by decide +kernel
theorem dX0_takeBack_10 : decode cX0_takeBack 10 = .ok (.ifCond .ne 4, 3) := by decide +kernel
theorem dX0_takeBack_13 : decode cX0_takeBack 13 = .ok (.return_, 1) := by decide +kernel
theorem dX0_takeBack_14 : decode cX0_takeBack 14 = .ok (.aload_n 0, 1) := by decide +kernel
theorem dX0_takeBack_15 : decode cX0_takeBack 15 = .ok (.dup, 1) := by decide +kernel
theorem dX0_takeBack_16 : decode cX0_takeBack 16 = .ok (.getfield 24, 3) := by decide +kernel
theorem dX0_takeBack_19 : decode cX0_takeBack 19 = .ok (.iconst 1, 1) := by decide +kernel
theorem dX0_takeBack_20 : decode cX0_takeBack 20 = .ok (.isub, 1) := by decide +kernel
theorem dX0_takeBack_21 : decode cX0_takeBack 21 = .ok (.putfield 24, 3) := by decide +kernel
theorem dX0_takeBack_24 : decode cX0_takeBack 24 = .ok (.aload_n 0, 1) := by decide +kernel
theorem dX0_takeBack_25 : decode cX0_takeBack 25 = .ok (.getfield 9, 3) := by decide +kernel
theorem dX0_takeBack_28 : decode cX0_takeBack 28 = .ok (.aload_n 0, 1) := by decide +kernel
theorem dX0_takeBack_29 : decode cX0_takeBack 29 = .ok (.getfield 24, 3) := by decide +kernel
theorem dX0_takeBack_32 : decode cX0_takeBack 32 = .ok (.iaload, 1) := by decide +kernel
theorem dX0_takeBack_33 : decode cX0_takeBack 33 = .ok (.lookupswitch 68 #[(0, 27), (1, 34)], 27) := by decide +kernel
theorem dX0_takeBack_60 : decode cX0_takeBack 60 = .ok (.aload_n 1, 1) := by decide +kernel
theorem dX0_takeBack_61 : decode cX0_takeBack 61 = .ok (.invokevirtual 35, 3) := by decide +kernel
theorem dX0_takeBack_64 : decode cX0_takeBack 64 = .ok (.goto 59, 3) := by decide +kernel
theorem dX0_takeBack_67 : decode cX0_takeBack 67 = .ok (.aload_n 1, 1) := by decide +kernel
theorem dX0_takeBack_68 : decode cX0_takeBack 68 = .ok (.aload_n 0, 1) := by decide +kernel
theorem dX0_takeBack_69 : decode cX0_takeBack 69 = .ok (.getfield 15, 3) := by decide +kernel
theorem dX0_takeBack_72 : decode cX0_takeBack 72 = .ok (.aload_n 0, 1) := by decide +kernel
theorem dX0_takeBack_73 : decode cX0_takeBack 73 = .ok (.getfield 24, 3) := by decide +kernel
theorem dX0_takeBack_76 : decode cX0_takeBack 76 = .ok (.iaload, 1) := by decide +kernel
theorem dX0_takeBack_77 : decode cX0_takeBack 77 = .ok (.aload_n 0, 1) := by decide +kernel
theorem dX0_takeBack_78 : decode cX0_takeBack 78 = .ok (.getfield 18, 3) := by decide +kernel
theorem dX0_takeBack_81 : decode cX0_takeBack 81 = .ok (.aload_n 0, 1) := by decide +kernel
theorem dX0_takeBack_82 : decode cX0_takeBack 82 = .ok (.getfield 24, 3) := by decide +kernel
theorem dX0_takeBack_85 : decode cX0_takeBack 85 = .ok (.iaload, 1) := by decide +kernel
theorem dX0_takeBack_86 : decode cX0_takeBack 86 = .ok (.aload_n 0, 1) := by decide +kernel
theorem dX0_takeBack_87 : decode cX0_takeBack 87 = .ok (.getfield 21, 3) := by decide +kernel
theorem dX0_takeBack_90 : decode cX0_takeBack 90 = .ok (.aload_n 0, 1) := by decide +kernel
theorem dX0_takeBack_91 : decode cX0_takeBack 91 = .ok (.getfield 24, 3) := by decide +kernel
theorem dX0_takeBack_94 : decode cX0_takeBack 94 = .ok (.iaload, 1) := by decide +kernel
theorem dX0_takeBack_95 : decode cX0_takeBack 95 = .ok (.invokevirtual 40, 3) := by decide +kernel
theorem dX0_takeBack_98 : decode cX0_takeBack 98 = .ok (.goto 25, 3) := by decide +kernel
theorem dX0_takeBack_101 : decode cX0_takeBack 101 = .ok (.aload_n 1, 1) := by decide +kernel
theorem dX0_takeBack_102 : decode cX0_takeBack 102 = .ok (.aload_n 0, 1) := by decide +kernel
theorem dX0_takeBack_103 : decode cX0_takeBack 103 = .ok (.getfield 15, 3) := by decide +kernel
theorem dX0_takeBack_106 : decode cX0_takeBack 106 = .ok (.aload_n 0, 1) := by decide +kernel
theorem dX0_takeBack_107 : decode cX0_takeBack 107 = .ok (.getfield 24, 3) := by decide +kernel
theorem dX0_takeBack_110 : decode cX0_takeBack 110 = .ok (.iaload, 1) := by decide +kernel
theorem dX0_takeBack_111 : decode cX0_takeBack 111 = .ok (.aload_n 0, 1) := by decide +kernel
theorem dX0_takeBack_112 : decode cX0_takeBack 112 = .ok (.getfield 18, 3) := by decide +kernel
theorem dX0_takeBack_115 : decode cX0_takeBack 115 = .ok (.aload_n 0, 1) := by decide +kernel
theorem dX0_takeBack_116 : decode cX0_takeBack 116 = .ok (.getfield 24, 3) := by decide +kernel
theorem dX0_takeBack_119 : decode cX0_takeBack 119 = .ok (.iaload, 1) := by decide +kernel
theorem dX0_takeBack_120 : decode cX0_takeBack 120 = .ok (.invokevirtual 44, 3) := by decide +kernel
theorem dX0_takeBack_123 : decode cX0_takeBack 123 = .ok (.return_, 1) := by decide +kernel
theorem dX1_init_0 : decode cX1_init 0 = .ok (.aload_n 0, 1) := by decide +kernel
theorem dX1_init_1 : decode cX1_init 1 = .ok (.invokespecial 3, 3) := by decide +kernel
theorem dX1_init_4 : decode cX1_init 4 = .ok (.aload_n 0, 1) := by decide +kernel
theorem dX1_init_5 : decode cX1_init 5 = .ok (.bipush 13, 2) := by decide +kernel
theorem dX1_init_7 : decode cX1_init 7 = .ok (.anewarray 9, 3) := by decide +kernel
theorem dX1_init_10 : decode cX1_init 10 = .ok (.putfield 11, 3) := by decide +kernel
theorem dX1_init_13 : decode cX1_init 13 = .ok (.aload_n 0, 1) := by decide +kernel
theorem dX1_init_14 : decode cX1_init 14 = .ok (.bipush 18, 2) := by decide +kernel
theorem dX1_init_16 : decode cX1_init 16 = .ok (.newarray .int, 2) := by decide +kernel
theorem dX1_init_18 : decode cX1_init 18 = .ok (.putfield 17, 3) := by decide +kernel
theorem dX1_init_21 : decode cX1_init 21 = .ok (.aload_n 0, 1) := by decide +kernel
theorem dX1_init_22 : decode cX1_init 22 = .ok (.bipush 18, 2) := by decide +kernel
theorem dX1_init_24 : decode cX1_init 24 = .ok (.newarray .int, 2) := by decide +kernel
theorem dX1_init_26 : decode cX1_init 26 = .ok (.putfield 21, 3) := by decide +kernel
theorem dX1_init_29 : decode cX1_init 29 = .ok (.aload_n 0, 1) := by decide +kernel
theorem dX1_init_30 : decode cX1_init 30 = .ok (.iconst 0, 1) := by decide +kernel
theorem dX1_init_31 : decode cX1_init 31 = .ok (.putfield 24, 3) := by decide +kernel
theorem dX1_init_34 : decode cX1_init 34 = .ok (.aload_n 0, 1) := by decide +kernel
theorem dX1_init_35 : decode cX1_init 35 = .ok (.iconst 1, 1) := by decide +kernel
theorem dX1_init_36 : decode cX1_init 36 = .ok (.putfield 28, 3) := by decide +kernel
theorem dX1_init_39 : decode cX1_init 39 = .ok (.aload_n 0, 1) := by decide +kernel
theorem dX1_init_40 : decode cX1_init 40 = .ok (.iconst 1, 1) := by decide +kernel
theorem dX1_init_41 : decode cX1_init 41 = .ok (.putfield 31, 3) := by decide +kernel
theorem dX1_init_44 : decode cX1_init 44 = .ok (.aload_n 0, 1) := by decide +kernel
theorem dX1_init_45 : decode cX1_init 45 = .ok (.iconst 0, 1) := by decide +kernel
theorem dX1_init_46 : decode cX1_init 46 = .ok (.putfield 34, 3) := by decide +kernel
theorem dX1_init_49 : decode cX1_init 49 = .ok (.aload_n 0, 1) := by decide +kernel
theorem dX1_init_50 : decode cX1_init 50 = .ok (.iconst 0, 1) := by decide +kernel
theorem dX1_init_51 : decode cX1_init 51 = .ok (.putfield 37, 3) := by decide +kernel
theorem dX1_init_54 : decode cX1_init 54 = .ok (.iconst 0, 1) := by decide +kernel
theorem dX1_init_55 : decode cX1_init 55 = .ok (.istore_n 1, 1) := by decide +kernel
theorem dX1_init_56 : decode cX1_init 56 = .ok (.iload_n 1, 1) := by decide +kernel
theorem dX1_init_57 : decode cX1_init 57 = .ok (.bipush 12, 2) := by decide +kernel
theorem dX1_init_59 : decode cX1_init 59 = .ok (.if_icmp .gt 22, 3) := by decide +kernel
theorem dX1_init_62 : decode cX1_init 62 = .ok (.aload_n 0, 1) := by decide +kernel
theorem dX1_init_63 : decode cX1_init 63 = .ok (.getfield 11, 3) := by decide +kernel
theorem dX1_init_66 : decode cX1_init 66 = .ok (.iload_n 1, 1) := by decide +kernel
theorem dX1_init_67 : decode cX1_init 67 = .ok (.new 9, 3) := by decide +kernel
theorem dX1_init_70 : decode cX1_init 70 = .ok (.dup, 1) := by decide +kernel
theorem dX1_init_71 : decode cX1_init 71 = .ok (.invokespecial 40, 3) := by decide +kernel
theorem dX1_init_74 : decode cX1_init 74 = .ok (.aastore, 1) := by decide +kernel
theorem dX1_init_75 : decode cX1_init 75 = .ok (.iinc 1 1, 3) := by decide +kernel
theorem dX1_init_78 : decode cX1_init 78 = .ok (.goto (-22), 3) := by decide +kernel
theorem dX1_init_81 : decode cX1_init 81 = .ok (.return_, 1) := by decide +kernel
theorem dX1_reset_0 : decode cX1_reset 0 = .ok (.aload_n 0, 1) := by decide +kernel
theorem dX1_reset_1 : decode cX1_reset 1 = .ok (.iconst 0, 1) := by decide +kernel
theorem dX1_reset_2 : decode cX1_reset 2 = .ok (.putfield 24, 3) := by decide +kernel
theorem dX1_reset_5 : decode cX1_reset 5 = .ok (.aload_n 0, 1) := by decide +kernel
theorem dX1_reset_6 : decode cX1_reset 6 = .ok (.iconst 1, 1) := by decide +kernel
theorem dX1_reset_7 : decode cX1_reset 7 = .ok (.putfield 28, 3) := by decide +kernel
theorem dX1_reset_10 : decode cX1_reset 10 = .ok (.aload_n 0, 1) := by decide +kernel
theorem dX1_reset_11 : decode cX1_reset 11 = .ok (.iconst 1, 1) := by decide +kernel
theorem dX1_reset_12 : decode cX1_reset 12 = .ok (.putfield 31, 3) := by decide +kernel
theorem dX1_reset_15 : decode cX1_reset 15 = .ok (.aload_n 0, 1) := by decide +kernel
theorem dX1_reset_16 : decode cX1_reset 16 = .ok (.iconst 0, 1) := by decide +kernel
theorem dX1_reset_17 : decode cX1_reset 17 = .ok (.putfield 34, 3) := by decide +kernel
theorem dX1_reset_20 : decode cX1_reset 20 = .ok (.aload_n 0, 1) := by decide +kernel
theorem dX1_reset_21 : decode cX1_reset 21 = .ok (.iconst 0, 1) := by decide +kernel
theorem dX1_reset_22 : decode cX1_reset 22 = .ok (.putfield 37, 3) := by decide +kernel
theorem dX1_reset_25 : decode cX1_reset 25 = .ok (.iconst 0, 1) := by decide +kernel
theorem dX1_reset_26 : decode cX1_reset 26 = .ok (.istore_n 1, 1) := by decide +kernel
theorem dX1_reset_27 : decode cX1_reset 27 = .ok (.iload_n 1, 1) := by decide +kernel
theorem dX1_reset_28 : decode cX1_reset 28 = .ok (.bipush 17, 2) := by decide +kernel
theorem dX1_reset_30 : decode cX1_reset 30 = .ok (.if_icmp .gt 23, 3) := by decide +kernel
theorem dX1_reset_33 : decode cX1_reset 33 = .ok (.aload_n 0, 1) := by decide +kernel
theorem dX1_reset_34 : decode cX1_reset 34 = .ok (.getfield 17, 3) := by decide +kernel
theorem dX1_reset_37 : decode cX1_reset 37 = .ok (.iload_n 1, 1) := by decide +kernel
theorem dX1_reset_38 : decode cX1_reset 38 = .ok (.iconst 0, 1) := by decide +kernel
theorem dX1_reset_39 : decode cX1_reset 39 = .ok (.iastore, 1) := by decide +kernel
theorem dX1_reset_40 : decode cX1_reset 40 = .ok (.aload_n 0, 1) := by decide +kernel
theorem dX1_reset_41 : decode cX1_reset 41 = .ok (.getfield 21, 3) := by decide +kernel
theorem dX1_reset_44 : decode cX1_reset 44 = .ok (.iload_n 1, 1) := by decide +kernel
theorem dX1_reset_45 : decode cX1_reset 45 = .ok (.iconst 0, 1) := by decide +kernel
theorem dX1_reset_46 : decode cX1_reset 46 = .ok (.iastore, 1) := by decide +kernel
theorem dX1_reset_47 : decode cX1_reset 47 = .ok (.iinc 1 1, 3) := by decide +kernel
theorem dX1_reset_50 : decode cX1_reset 50 = .ok (.goto (-23), 3) := by decide +kernel
theorem dX1_reset_53 : decode cX1_reset 53 = .ok (.return_, 1) := by decide +kernel
theorem dX1_copy_0 : decode cX1_copy 0 = .ok (.aload_n 0, 1) := by decide +kernel
theorem dX1_copy_1 : decode cX1_copy 1 = .ok (.aload_n 1, 1) := by decide +kernel
theorem dX1_copy_2 : decode cX1_copy 2 = .ok (.getfield 24, 3) := by decide +kernel
theorem dX1_copy_5 : decode cX1_copy 5 = .ok (.putfield 24, 3) := by decide +kernel
theorem dX1_copy_8 : decode cX1_copy 8 = .ok (.aload_n 0, 1) := by decide +kernel
theorem dX1_copy_9 : decode cX1_copy 9 = .ok (.aload_n 1, 1) := by decide +kernel
theorem dX1_copy_10 : decode cX1_copy 10 = .ok (.getfield 28, 3) := by decide +kernel
theorem dX1_copy_13 : decode cX1_copy 13 = .ok (.putfield 28, 3) := by decide +kernel
theorem dX1_copy_16 : decode cX1_copy 16 = .ok (.aload_n 0, 1) := by decide +kernel
theorem dX1_copy_17 : decode cX1_copy 17 = .ok (.aload_n 1, 1) := by decide +kernel
theorem dX1_copy_18 : decode cX1_copy 18 = .ok (.getfield 31, 3) := by decide +kernel
theorem dX1_copy_21 : decode cX1_copy 21 = .ok (.putfield 31, 3) := by decide +kernel
theorem dX1_copy_24 : decode cX1_copy 24 = .ok (.aload_n 0, 1) := by decide +kernel
theorem dX1_copy_25 : decode cX1_copy 25 = .ok (.aload_n 1, 1) := by decide +kernel
theorem dX1_copy_26 : decode cX1_copy 26 = .ok (.getfield 34, 3) := by decide +kernel
theorem dX1_copy_29 : decode cX1_copy 29 = .ok (.putfield 34, 3) := by decide +kernel
theorem dX1_copy_32 : decode cX1_copy 32 = .ok (.aload_n 0, 1) := by decide +kernel
theorem dX1_copy_33 : decode cX1_copy 33 = .ok (.aload_n 1, 1) := by decide +kernel
theorem dX1_copy_34 : decode cX1_copy 34 = .ok (.getfield 37, 3) := by decide +kernel
theorem dX1_copy_37 : decode cX1_copy 37 = .ok (.putfield 37, 3) := by decide +kernel
theorem dX1_copy_40 : decode cX1_copy 40 = .ok (.iconst 0, 1) := by decide +kernel
theorem dX1_copy_41 : decode cX1_copy 41 = .ok (.istore_n 2, 1) := by decide +kernel
theorem dX1_copy_42 : decode cX1_copy 42 = .ok (.iload_n 2, 1) := by decide +kernel
theorem dX1_copy_43 : decode cX1_copy 43 = .ok (.aload_n 0, 1) := by decide +kernel
theorem dX1_copy_44 : decode cX1_copy 44 = .ok (.getfield 24, 3) := by decide +kernel
theorem dX1_copy_47 : decode cX1_copy 47 = .ok (.if_icmp .gt 30, 3) := by decide +kernel
theorem dX1_copy_50 : decode cX1_copy 50 = .ok (.iload_n 2, 1) := by decide +kernel
theorem dX1_copy_51 : decode cX1_copy 51 = .ok (.bipush 12, 2) := by decide +kernel
theorem dX1_copy_53 : decode cX1_copy 53 = .ok (.if_icmp .gt 24, 3) := by decide +kernel
theorem dX1_copy_56 : decode cX1_copy 56 = .ok (.aload_n 0, 1) := by decide +kernel
theorem dX1_copy_57 : decode cX1_copy 57 = .ok (.getfield 11, 3) := by decide +kernel
theorem dX1_copy_60 : decode cX1_copy 60 = .ok (.iload_n 2, 1) := by decide +kernel
theorem dX1_copy_61 : decode cX1_copy 61 = .ok (.aaload, 1) := by decide +kernel
theorem dX1_copy_62 : decode cX1_copy 62 = .ok (.aload_n 1, 1) := by decide +kernel
theorem dX1_copy_63 : decode cX1_copy 63 = .ok (.getfield 11, 3) := by decide +kernel
theorem dX1_copy_66 : decode cX1_copy 66 = .ok (.iload_n 2, 1) := by decide +kernel
theorem dX1_copy_67 : decode cX1_copy 67 = .ok (.aaload, 1) := by decide +kernel
theorem dX1_copy_68 : decode cX1_copy 68 = .ok (.invokevirtual 41, 3) := by decide +kernel
theorem dX1_copy_71 : decode cX1_copy 71 = .ok (.iinc 2 1, 3) := by decide +kernel
theorem dX1_copy_74 : decode cX1_copy 74 = .ok (.goto (-32), 3) := by decide +kernel
theorem dX1_copy_77 : decode cX1_copy 77 = .ok (.iconst 0, 1) := by decide +kernel
theorem dX1_copy_78 : decode cX1_copy 78 = .ok (.istore_n 2, 1) := by decide +kernel
theorem dX1_copy_79 : decode cX1_copy 79 = .ok (.iload_n 2, 1) := by decide +kernel
theorem dX1_copy_80 : decode cX1_copy 80 = .ok (.bipush 17, 2) := by decide +kernel
theorem dX1_copy_82 : decode cX1_copy 82 = .ok (.if_icmp .gt 33, 3) := by decide +kernel
theorem dX1_copy_85 : decode cX1_copy 85 = .ok (.aload_n 0, 1) := by decide +kernel
theorem dX1_copy_86 : decode cX1_copy 86 = .ok (.getfield 17, 3) := by decide +kernel
theorem dX1_copy_89 : decode cX1_copy 89 = .ok (.iload_n 2, 1) := by decide +kernel
theorem dX1_copy_90 : decode cX1_copy 90 = .ok (.aload_n 1, 1) := by decide +kernel
theorem dX1_copy_91 : decode cX1_copy 91 = .ok (.getfield 17, 3) := by decide +kernel
theorem dX1_copy_94 : decode cX1_copy 94 = .ok (.iload_n 2, 1) := by decide +kernel
theorem dX1_copy_95 : decode cX1_copy 95 = .ok (.iaload, 1) := by decide +kernel
theorem dX1_copy_96 : decode cX1_copy 96 = .ok (.iastore, 1) := by decide +kernel
theorem dX1_copy_97 : decode cX1_copy 97 = .ok (.aload_n 0, 1) := by decide +kernel
theorem dX1_copy_98 : decode cX1_copy 98 = .ok (.getfield 21, 3) := by decide +kernel
theorem dX1_copy_101 : decode cX1_copy 101 = .ok (.iload_n 2, 1) := by decide +kernel
theorem dX1_copy_102 : decode cX1_copy 102 = .ok (.aload_n 1, 1) := by decide +kernel
theorem dX1_copy_103 : decode cX1_copy 103 = .ok (.getfield 21, 3) := by decide +kernel
theorem dX1_copy_106 : decode cX1_copy 106 = .ok (.iload_n 2, 1) := by decide +kernel
theorem dX1_copy_107 : decode cX1_copy 107 = .ok (.iaload, 1) := by decide +kernel
theorem dX1_copy_108 : decode cX1_copy 108 = .ok (.iastore, 1) := by decide +kernel
theorem dX1_copy_109 : decode cX1_copy 109 = .ok (.iinc 2 1, 3) := by decide +kernel
theorem dX1_copy_112 : decode cX1_copy 112 = .ok (.goto (-33), 3) := by decide +kernel
theorem dX1_copy_115 : decode cX1_copy 115 = .ok (.return_, 1) := by decide +kernel
theorem dX1_last_0 : decode cX1_last 0 = .ok (.aload_n 0, 1) := by decide +kernel
theorem dX1_last_1 : decode cX1_last 1 = .ok (.getfield 11, 3) := by decide +kernel
theorem dX1_last_4 : decode cX1_last 4 = .ok (.aload_n 0, 1) := by decide +kernel
theorem dX1_last_5 : decode cX1_last 5 = .ok (.getfield 24, 3) := by decide +kernel
theorem dX1_last_8 : decode cX1_last 8 = .ok (.iconst 0, 1) := by decide +kernel
theorem dX1_last_9 : decode cX1_last 9 = .ok (.bipush 12, 2) := by decide +kernel
theorem dX1_last_11 : decode cX1_last 11 = .ok (.invokestatic 45, 3) := by decide +kernel
theorem dX1_last_14 : decode cX1_last 14 = .ok (.ifCond .eq 10, 3) := by decide +kernel
theorem dX1_last_17 : decode cX1_last 17 = .ok (.aload_n 0, 1) := by decide +kernel
theorem dX1_last_18 : decode cX1_last 18 = .ok (.getfield 24, 3) := by decide +kernel
theorem dX1_last_21 : decode cX1_last 21 = .ok (.goto 4, 3) := by decide +kernel
theorem dX1_last_24 : decode cX1_last 24 = .ok (.iconst 0, 1) := by decide +kernel
theorem dX1_last_25 : decode cX1_last 25 = .ok (.aaload, 1) := by decide +kernel
theorem dX1_last_26 : decode cX1_last 26 = .ok (.areturn, 1) := by decide +kernel
theorem dX1_build_0 : decode cX1_build 0 = .ok (.aload_n 0, 1) := by decide +kernel
theorem dX1_build_1 : decode cX1_build 1 = .ok (.getfield 24, 3) := by decide +kernel
theorem dX1_build_4 : decode cX1_build 4 = .ok (.bipush 12, 2) := by decide +kernel
theorem dX1_build_6 : decode cX1_build 6 = .ok (.if_icmp .lt 4, 3) := by decide +kernel
theorem dX1_build_9 : decode cX1_build 9 = .ok (.return_, 1) := by decide +kernel
theorem dX1_build_10 : decode cX1_build 10 = .ok (.aload_n 0, 1) := by decide +kernel
theorem dX1_build_11 : decode cX1_build 11 = .ok (.getfield 11, 3) := by decide +kernel
theorem dX1_build_14 : decode cX1_build 14 = .ok (.aload_n 0, 1) := by decide +kernel
theorem dX1_build_15 : decode cX1_build 15 = .ok (.getfield 24, 3) := by decide +kernel
theorem dX1_build_18 : decode cX1_build 18 = .ok (.iconst 1, 1) := by decide +kernel
theorem dX1_build_19 : decode cX1_build 19 = .ok (.iadd, 1) := by decide +kernel
theorem dX1_build_20 : decode cX1_build 20 = .ok (.aaload, 1) := by decide +kernel
theorem dX1_build_21 : decode cX1_build 21 = .ok (.astore_n 2, 1) := by decide +kernel
theorem dX1_build_22 : decode cX1_build 22 = .ok (.aload_n 2, 1) := by decide +kernel
theorem dX1_build_23 : decode cX1_build 23 = .ok (.aload_n 0, 1) := by decide +kernel
theorem dX1_build_24 : decode cX1_build 24 = .ok (.invokevirtual 49, 3) := by decide +kernel
theorem dX1_build_27 : decode cX1_build 27 = .ok (.invokevirtual 41, 3) := by decide +kernel
theorem dX1_build_30 : decode cX1_build 30 = .ok (.aload_n 2, 1) := by decide +kernel
theorem dX1_build_31 : decode cX1_build 31 = .ok (.iload_n 1, 1) := by decide +kernel
theorem dX1_build_32 : decode cX1_build 32 = .ok (.aload_n 0, 1) := by decide +kernel
theorem dX1_build_33 : decode cX1_build 33 = .ok (.getfield 28, 3) := by decide +kernel
theorem dX1_build_36 : decode cX1_build 36 = .ok (.invokevirtual 53, 3) := by decide +kernel
theorem dX1_build_39 : decode cX1_build 39 = .ok (.aload_n 0, 1) := by decide +kernel
theorem dX1_build_40 : decode cX1_build 40 = .ok (.dup, 1) := by decide +kernel
theorem dX1_build_41 : decode cX1_build 41 = .ok (.getfield 24, 3) := by decide +kernel
theorem dX1_build_44 : decode cX1_build 44 = .ok (.iconst 1, 1) := by decide +kernel
theorem dX1_build_45 : decode cX1_build 45 = .ok (.iadd, 1) := by decide +kernel
theorem dX1_build_46 : decode cX1_build 46 = .ok (.putfield 24, 3) := by decide +kernel
theorem dX1_build_49 : decode cX1_build 49 = .ok (.return_, 1) := by decide +kernel
theorem dX1_dropLast_0 : decode cX1_dropLast 0 = .ok (.aload_n 0, 1) := by decide +kernel
theorem dX1_dropLast_1 : decode cX1_dropLast 1 = .ok (.getfield 24, 3) := by decide +kernel
theorem dX1_dropLast_4 : decode cX1_dropLast 4 = .ok (.ifCond .le 13, 3) := by decide +kernel
theorem dX1_dropLast_7 : decode cX1_dropLast 7 = .ok (.aload_n 0, 1) := by decide +kernel
theorem dX1_dropLast_8 : decode cX1_dropLast 8 = .ok (.dup, 1) := by decide +kernel
theorem dX1_dropLast_9 : decode cX1_dropLast 9 = .ok (.getfield 24, 3) := by decide +kernel
theorem dX1_dropLast_12 : decode cX1_dropLast 12 = .ok (.iconst 1, 1) := by decide +kernel
theorem dX1_dropLast_13 : decode cX1_dropLast 13 = .ok (.isub, 1) := by decide +kernel
theorem dX1_dropLast_14 : decode cX1_dropLast 14 = .ok (.putfield 24, 3) := by decide +kernel
theorem dX1_dropLast_17 : decode cX1_dropLast 17 = .ok (.return_, 1) := by decide +kernel
theorem dX1_setWish_0 : decode cX1_setWish 0 = .ok (.iload_n 1, 1) := by decide +kernel
theorem dX1_setWish_1 : decode cX1_setWish 1 = .ok (.iconst 1, 1) := by decide +kernel
theorem dX1_setWish_2 : decode cX1_setWish 2 = .ok (.bipush 17, 2) := by decide +kernel
theorem dX1_setWish_4 : decode cX1_setWish 4 = .ok (.invokestatic 45, 3) := by decide +kernel
theorem dX1_setWish_7 : decode cX1_setWish 7 = .ok (.ifCond .eq 17, 3) := by decide +kernel
theorem dX1_setWish_10 : decode cX1_setWish 10 = .ok (.aload_n 0, 1) := by decide +kernel
theorem dX1_setWish_11 : decode cX1_setWish 11 = .ok (.getfield 17, 3) := by decide +kernel
theorem dX1_setWish_14 : decode cX1_setWish 14 = .ok (.iload_n 1, 1) := by decide +kernel
theorem dX1_setWish_15 : decode cX1_setWish 15 = .ok (.iload_n 2, 1) := by decide +kernel
theorem dX1_setWish_16 : decode cX1_setWish 16 = .ok (.iastore, 1) := by decide +kernel
theorem dX1_setWish_17 : decode cX1_setWish 17 = .ok (.aload_n 0, 1) := by decide +kernel
theorem dX1_setWish_18 : decode cX1_setWish 18 = .ok (.getfield 21, 3) := by decide +kernel
theorem dX1_setWish_21 : decode cX1_setWish 21 = .ok (.iload_n 1, 1) := by decide +kernel
theorem dX1_setWish_22 : decode cX1_setWish 22 = .ok (.iload_n 3, 1) := by decide +kernel
theorem dX1_setWish_23 : decode cX1_setWish 23 = .ok (.iastore, 1) := by decide +kernel
theorem dX1_setWish_24 : decode cX1_setWish 24 = .ok (.return_, 1) := by decide +kernel
theorem dX1_rule_0 : decode cX1_rule 0 = .ok (.iload_n 1, 1) := by decide +kernel
theorem dX1_rule_1 : decode cX1_rule 1 = .ok (.lookupswitch 37 #[(0, 27), (1, 32)], 27) := by decide +kernel
theorem dX1_rule_28 : decode cX1_rule 28 = .ok (.aload_n 0, 1) := by decide +kernel
theorem dX1_rule_29 : decode cX1_rule 29 = .ok (.getfield 31, 3) := by decide +kernel
theorem dX1_rule_32 : decode cX1_rule 32 = .ok (.ireturn, 1) := by decide +kernel
theorem dX1_rule_33 : decode cX1_rule 33 = .ok (.aload_n 0, 1) := by decide +kernel
theorem dX1_rule_34 : decode cX1_rule 34 = .ok (.getfield 34, 3) := by decide +kernel
theorem dX1_rule_37 : decode cX1_rule 37 = .ok (.ireturn, 1) := by decide +kernel
theorem dX1_rule_38 : decode cX1_rule 38 = .ok (.aload_n 0, 1) := by decide +kernel
theorem dX1_rule_39 : decode cX1_rule 39 = .ok (.getfield 37, 3) := by decide +kernel
theorem dX1_rule_42 : decode cX1_rule 42 = .ok (.ireturn, 1) := by decide +kernel
theorem dX1_setRule_0 : decode cX1_setRule 0 = .ok (.iload_n 1, 1) := by decide +kernel
theorem dX1_setRule_1 : decode cX1_setRule 1 = .ok (.lookupswitch 43 #[(0, 27), (1, 35)], 27) := by decide +kernel
theorem dX1_setRule_28 : decode cX1_setRule 28 = .ok (.aload_n 0, 1) := by decide +kernel
theorem dX1_setRule_29 : decode cX1_setRule 29 = .ok (.iload_n 2, 1) := by decide +kernel
theorem dX1_setRule_30 : decode cX1_setRule 30 = .ok (.putfield 31, 3) := by decide +kernel
theorem dX1_setRule_33 : decode cX1_setRule 33 = .ok (.goto 16, 3) := by decide +kernel
theorem dX1_setRule_36 : decode cX1_setRule 36 = .ok (.aload_n 0, 1) := by decide +kernel
theorem dX1_setRule_37 : decode cX1_setRule 37 = .ok (.iload_n 2, 1) := by decide +kernel
theorem dX1_setRule_38 : decode cX1_setRule 38 = .ok (.putfield 34, 3) := by decide +kernel
theorem dX1_setRule_41 : decode cX1_setRule 41 = .ok (.goto 8, 3) := by decide +kernel
theorem dX1_setRule_44 : decode cX1_setRule 44 = .ok (.aload_n 0, 1) := by decide +kernel
theorem dX1_setRule_45 : decode cX1_setRule 45 = .ok (.iload_n 2, 1) := by decide +kernel
theorem dX1_setRule_46 : decode cX1_setRule 46 = .ok (.putfield 37, 3) := by decide +kernel
theorem dX1_setRule_49 : decode cX1_setRule 49 = .ok (.return_, 1) := by decide +kernel
theorem dX1_mayFollow_0 : decode cX1_mayFollow 0 = .ok (.aload_n 0, 1) := by decide +kernel
theorem dX1_mayFollow_1 : decode cX1_mayFollow 1 = .ok (.aload_n 1, 1) := by decide +kernel
theorem dX1_mayFollow_2 : decode cX1_mayFollow 2 = .ok (.getfield 57, 3) := by decide +kernel
theorem dX1_mayFollow_5 : decode cX1_mayFollow 5 = .ok (.iload_n 2, 1) := by decide +kernel
theorem dX1_mayFollow_6 : decode cX1_mayFollow 6 = .ok (.invokevirtual 60, 3) := by decide +kernel
theorem dX1_mayFollow_9 : decode cX1_mayFollow 9 = .ok (.ifCond .ne 16, 3) := by decide +kernel
theorem dX1_mayFollow_12 : decode cX1_mayFollow 12 = .ok (.aload_n 0, 1) := by decide +kernel
theorem dX1_mayFollow_13 : decode cX1_mayFollow 13 = .ok (.aload_n 1, 1) := by decide +kernel
theorem dX1_mayFollow_14 : decode cX1_mayFollow 14 = .ok (.iload_n 2, 1) := by decide +kernel
theorem dX1_mayFollow_15 : decode cX1_mayFollow 15 = .ok (.invokevirtual 64, 3) := by decide +kernel
theorem dX1_mayFollow_18 : decode cX1_mayFollow 18 = .ok (.ifCond .eq 7, 3) := by decide +kernel
theorem dX1_mayFollow_21 : decode cX1_mayFollow 21 = .ok (.iconst 1, 1) := by decide +kernel
theorem dX1_mayFollow_22 : decode cX1_mayFollow 22 = .ok (.goto 4, 3) := by decide +kernel
theorem dX1_mayFollow_25 : decode cX1_mayFollow 25 = .ok (.iconst 0, 1) := by decide +kernel
theorem dX1_mayFollow_26 : decode cX1_mayFollow 26 = .ok (.ireturn, 1) := by decide +kernel
theorem dX1_isBarred_0 : decode cX1_isBarred 0 = .ok (.iload_n 1, 1) := by decide +kernel
theorem dX1_isBarred_1 : decode cX1_isBarred 1 = .ok (.bipush (-9), 2) := by decide +kernel
theorem dX1_isBarred_3 : decode cX1_isBarred 3 = .ok (.if_icmp .ne 5, 3) := by decide +kernel
theorem dX1_isBarred_6 : decode cX1_isBarred 6 = .ok (.iconst 0, 1) := by decide +kernel
theorem dX1_isBarred_7 : decode cX1_isBarred 7 = .ok (.ireturn, 1) := by decide +kernel
theorem dX1_isBarred_8 : decode cX1_isBarred 8 = .ok (.iload_n 2, 1) := by decide +kernel
theorem dX1_isBarred_9 : decode cX1_isBarred 9 = .ok (.iload_n 1, 1) := by decide +kernel
theorem dX1_isBarred_10 : decode cX1_isBarred 10 = .ok (.isub, 1) := by decide +kernel
theorem dX1_isBarred_11 : decode cX1_isBarred 11 = .ok (.bipush 8, 2) := by decide +kernel
theorem dX1_isBarred_13 : decode cX1_isBarred 13 = .ok (.invokestatic 68, 3) := by decide +kernel
theorem dX1_isBarred_16 : decode cX1_isBarred 16 = .ok (.istore_n 3, 1) := by decide +kernel
theorem dX1_isBarred_17 : decode cX1_isBarred 17 = .ok (.aload_n 0, 1) := by decide +kernel
theorem dX1_isBarred_18 : decode cX1_isBarred 18 = .ok (.getfield 31, 3) := by decide +kernel
theorem dX1_isBarred_21 : decode cX1_isBarred 21 = .ok (.tableswitch 73 1 3 #[27, 37, 52], 27) := by decide +kernel
theorem dX1_isBarred_48 : decode cX1_isBarred 48 = .ok (.iload_n 3, 1) := by decide +kernel
theorem dX1_isBarred_49 : decode cX1_isBarred 49 = .ok (.ifCond .ne 7, 3) := by decide +kernel
theorem dX1_isBarred_52 : decode cX1_isBarred 52 = .ok (.iconst 1, 1) := by decide +kernel
theorem dX1_isBarred_53 : decode cX1_isBarred 53 = .ok (.goto 4, 3) := by decide +kernel
theorem dX1_isBarred_56 : decode cX1_isBarred 56 = .ok (.iconst 0, 1) := by decide +kernel
theorem dX1_isBarred_57 : decode cX1_isBarred 57 = .ok (.ireturn, 1) := by decide +kernel
theorem dX1_isBarred_58 : decode cX1_isBarred 58 = .ok (.iload_n 3, 1) := by decide +kernel
theorem dX1_isBarred_59 : decode cX1_isBarred 59 = .ok (.ifCond .eq 8, 3) := by decide +kernel
theorem dX1_isBarred_62 : decode cX1_isBarred 62 = .ok (.iload_n 3, 1) := by decide +kernel
theorem dX1_isBarred_63 : decode cX1_isBarred 63 = .ok (.iconst 4, 1) := by decide +kernel
theorem dX1_isBarred_64 : decode cX1_isBarred 64 = .ok (.if_icmp .ne 7, 3) := by decide +kernel
theorem dX1_isBarred_67 : decode cX1_isBarred 67 = .ok (.iconst 1, 1) := by decide +kernel
theorem dX1_isBarred_68 : decode cX1_isBarred 68 = .ok (.goto 4, 3) := by decide +kernel
theorem dX1_isBarred_71 : decode cX1_isBarred 71 = .ok (.iconst 0, 1) := by decide +kernel
theorem dX1_isBarred_72 : decode cX1_isBarred 72 = .ok (.ireturn, 1) := by decide +kernel
theorem dX1_isBarred_73 : decode cX1_isBarred 73 = .ok (.iload_n 3, 1) := by decide +kernel
theorem dX1_isBarred_74 : decode cX1_isBarred 74 = .ok (.ifCond .eq 14, 3) := by decide +kernel
theorem dX1_isBarred_77 : decode cX1_isBarred 77 = .ok (.iload_n 3, 1) := by decide +kernel
theorem dX1_isBarred_78 : decode cX1_isBarred 78 = .ok (.iconst 1, 1) := by decide +kernel
theorem dX1_isBarred_79 : decode cX1_isBarred 79 = .ok (.if_icmp .eq 9, 3) := by decide +kernel
theorem dX1_isBarred_82 : decode cX1_isBarred 82 = .ok (.iload_n 3, 1) := by decide +kernel
theorem dX1_isBarred_83 : decode cX1_isBarred 83 = .ok (.bipush 7, 2) := by decide +kernel
theorem dX1_isBarred_85 : decode cX1_isBarred 85 = .ok (.if_icmp .ne 7, 3) := by decide +kernel
theorem dX1_isBarred_88 : decode cX1_isBarred 88 = .ok (.iconst 1, 1) := by decide +kernel
theorem dX1_isBarred_89 : decode cX1_isBarred 89 = .ok (.goto 4, 3) := by decide +kernel
theorem dX1_isBarred_92 : decode cX1_isBarred 92 = .ok (.iconst 0, 1) := by decide +kernel
theorem dX1_isBarred_93 : decode cX1_isBarred 93 = .ok (.ireturn, 1) := by decide +kernel
theorem dX1_isBarred_94 : decode cX1_isBarred 94 = .ok (.iconst 0, 1) := by decide +kernel
theorem dX1_isBarred_95 : decode cX1_isBarred 95 = .ok (.ireturn, 1) := by decide +kernel
theorem dX1_hasRoom_0 : decode cX1_hasRoom 0 = .ok (.aload_n 0, 1) := by decide +kernel
theorem dX1_hasRoom_1 : decode cX1_hasRoom 1 = .ok (.getfield 37, 3) := by decide +kernel
theorem dX1_hasRoom_4 : decode cX1_hasRoom 4 = .ok (.ifCond .ne 5, 3) := by decide +kernel
theorem dX1_hasRoom_7 : decode cX1_hasRoom 7 = .ok (.iconst 1, 1) := by decide +kernel
theorem dX1_hasRoom_8 : decode cX1_hasRoom 8 = .ok (.ireturn, 1) := by decide +kernel
theorem dX1_hasRoom_9 : decode cX1_hasRoom 9 = .ok (.aload_n 1, 1) := by decide +kernel
theorem dX1_hasRoom_10 : decode cX1_hasRoom 10 = .ok (.getfield 74, 3) := by decide +kernel
theorem dX1_hasRoom_13 : decode cX1_hasRoom 13 = .ok (.iconst 1, 1) := by decide +kernel
theorem dX1_hasRoom_14 : decode cX1_hasRoom 14 = .ok (.iadd, 1) := by decide +kernel
theorem dX1_hasRoom_15 : decode cX1_hasRoom 15 = .ok (.istore_n 3, 1) := by decide +kernel
theorem dX1_hasRoom_16 : decode cX1_hasRoom 16 = .ok (.iload_n 3, 1) := by decide +kernel
theorem dX1_hasRoom_17 : decode cX1_hasRoom 17 = .ok (.iconst 1, 1) := by decide +kernel
theorem dX1_hasRoom_18 : decode cX1_hasRoom 18 = .ok (.bipush 17, 2) := by decide +kernel
theorem dX1_hasRoom_20 : decode cX1_hasRoom 20 = .ok (.invokestatic 45, 3) := by decide +kernel
theorem dX1_hasRoom_23 : decode cX1_hasRoom 23 = .ok (.ifCond .ne 5, 3) := by decide +kernel
theorem dX1_hasRoom_26 : decode cX1_hasRoom 26 = .ok (.iconst 0, 1) := by decide +kernel
theorem dX1_hasRoom_27 : decode cX1_hasRoom 27 = .ok (.ireturn, 1) := by decide +kernel
theorem dX1_hasRoom_28 : decode cX1_hasRoom 28 = .ok (.aload_n 0, 1) := by decide +kernel
theorem dX1_hasRoom_29 : decode cX1_hasRoom 29 = .ok (.getfield 17, 3) := by decide +kernel
theorem dX1_hasRoom_32 : decode cX1_hasRoom 32 = .ok (.iload_n 3, 1) := by decide +kernel
theorem dX1_hasRoom_33 : decode cX1_hasRoom 33 = .ok (.iaload, 1) := by decide +kernel
theorem dX1_hasRoom_34 : decode cX1_hasRoom 34 = .ok (.aload_n 0, 1) := by decide +kernel
theorem dX1_hasRoom_35 : decode cX1_hasRoom 35 = .ok (.getfield 17, 3) := by decide +kernel
theorem dX1_hasRoom_38 : decode cX1_hasRoom 38 = .ok (.iload_n 3, 1) := by decide +kernel
theorem dX1_hasRoom_39 : decode cX1_hasRoom 39 = .ok (.iconst 1, 1) := by decide +kernel
theorem dX1_hasRoom_40 : decode cX1_hasRoom 40 = .ok (.isub, 1) := by decide +kernel
theorem dX1_hasRoom_41 : decode cX1_hasRoom 41 = .ok (.iaload, 1) := by decide +kernel
theorem dX1_hasRoom_42 : decode cX1_hasRoom 42 = .ok (.isub, 1) := by decide +kernel
theorem dX1_hasRoom_43 : decode cX1_hasRoom 43 = .ok (.istore 4, 2) := by decide +kernel
theorem dX1_hasRoom_45 : decode cX1_hasRoom 45 = .ok (.aload_n 0, 1) := by decide +kernel
theorem dX1_hasRoom_46 : decode cX1_hasRoom 46 = .ok (.getfield 21, 3) := by decide +kernel
theorem dX1_hasRoom_49 : decode cX1_hasRoom 49 = .ok (.iload_n 3, 1) := by decide +kernel
theorem dX1_hasRoom_50 : decode cX1_hasRoom 50 = .ok (.iaload, 1) := by decide +kernel
theorem dX1_hasRoom_51 : decode cX1_hasRoom 51 = .ok (.aload_n 0, 1) := by decide +kernel
theorem dX1_hasRoom_52 : decode cX1_hasRoom 52 = .ok (.getfield 21, 3) := by decide +kernel
theorem dX1_hasRoom_55 : decode cX1_hasRoom 55 = .ok (.iload_n 3, 1) := by decide +kernel
theorem dX1_hasRoom_56 : decode cX1_hasRoom 56 = .ok (.iconst 1, 1) := by decide +kernel
theorem dX1_hasRoom_57 : decode cX1_hasRoom 57 = .ok (.isub, 1) := by decide +kernel
theorem dX1_hasRoom_58 : decode cX1_hasRoom 58 = .ok (.iaload, 1) := by decide +kernel
theorem dX1_hasRoom_59 : decode cX1_hasRoom 59 = .ok (.isub, 1) := by decide +kernel
theorem dX1_hasRoom_60 : decode cX1_hasRoom 60 = .ok (.istore 5, 2) := by decide +kernel
theorem dX1_hasRoom_62 : decode cX1_hasRoom 62 = .ok (.aload_n 1, 1) := by decide +kernel
theorem dX1_hasRoom_63 : decode cX1_hasRoom 63 = .ok (.getfield 77, 3) := by decide +kernel
theorem dX1_hasRoom_66 : decode cX1_hasRoom 66 = .ok (.aload_n 0, 1) := by decide +kernel
theorem dX1_hasRoom_67 : decode cX1_hasRoom 67 = .ok (.getfield 28, 3) := by decide +kernel
theorem dX1_hasRoom_70 : decode cX1_hasRoom 70 = .ok (.iload_n 2, 1) := by decide +kernel
theorem dX1_hasRoom_71 : decode cX1_hasRoom 71 = .ok (.invokestatic 80, 3) := by decide +kernel
theorem dX1_hasRoom_74 : decode cX1_hasRoom 74 = .ok (.imul, 1) := by decide +kernel
theorem dX1_hasRoom_75 : decode cX1_hasRoom 75 = .ok (.iadd, 1) := by decide +kernel
theorem dX1_hasRoom_76 : decode cX1_hasRoom 76 = .ok (.iload 4, 2) := by decide +kernel
theorem dX1_hasRoom_78 : decode cX1_hasRoom 78 = .ok (.isub, 1) := by decide +kernel
theorem dX1_hasRoom_79 : decode cX1_hasRoom 79 = .ok (.invokestatic 84, 3) := by decide +kernel
theorem dX1_hasRoom_82 : decode cX1_hasRoom 82 = .ok (.aload_n 0, 1) := by decide +kernel
theorem dX1_hasRoom_83 : decode cX1_hasRoom 83 = .ok (.getfield 37, 3) := by decide +kernel
theorem dX1_hasRoom_86 : decode cX1_hasRoom 86 = .ok (.if_icmp .gt 34, 3) := by decide +kernel
theorem dX1_hasRoom_89 : decode cX1_hasRoom 89 = .ok (.aload_n 1, 1) := by decide +kernel
theorem dX1_hasRoom_90 : decode cX1_hasRoom 90 = .ok (.getfield 87, 3) := by decide +kernel
theorem dX1_hasRoom_93 : decode cX1_hasRoom 93 = .ok (.aload_n 0, 1) := by decide +kernel
theorem dX1_hasRoom_94 : decode cX1_hasRoom 94 = .ok (.getfield 28, 3) := by decide +kernel
theorem dX1_hasRoom_97 : decode cX1_hasRoom 97 = .ok (.iload_n 2, 1) := by decide +kernel
theorem dX1_hasRoom_98 : decode cX1_hasRoom 98 = .ok (.invokestatic 90, 3) := by decide +kernel
theorem dX1_hasRoom_101 : decode cX1_hasRoom 101 = .ok (.imul, 1) := by decide +kernel
theorem dX1_hasRoom_102 : decode cX1_hasRoom 102 = .ok (.iadd, 1) := by decide +kernel
theorem dX1_hasRoom_103 : decode cX1_hasRoom 103 = .ok (.iload 5, 2) := by decide +kernel
theorem dX1_hasRoom_105 : decode cX1_hasRoom 105 = .ok (.isub, 1) := by decide +kernel
theorem dX1_hasRoom_106 : decode cX1_hasRoom 106 = .ok (.invokestatic 84, 3) := by decide +kernel
theorem dX1_hasRoom_109 : decode cX1_hasRoom 109 = .ok (.aload_n 0, 1) := by decide +kernel
theorem dX1_hasRoom_110 : decode cX1_hasRoom 110 = .ok (.getfield 37, 3) := by decide +kernel
theorem dX1_hasRoom_113 : decode cX1_hasRoom 113 = .ok (.if_icmp .gt 7, 3) := by decide +kernel
theorem dX1_hasRoom_116 : decode cX1_hasRoom 116 = .ok (.iconst 1, 1) := by decide +kernel
theorem dX1_hasRoom_117 : decode cX1_hasRoom 117 = .ok (.goto 4, 3) := by decide +kernel
theorem dX1_hasRoom_120 : decode cX1_hasRoom 120 = .ok (.iconst 0, 1) := by decide +kernel
theorem dX1_hasRoom_121 : decode cX1_hasRoom 121 = .ok (.ireturn, 1) := by decide +kernel
theorem dX1_cost_0 : decode cX1_cost 0 = .ok (.aload_n 1, 1) := by decide +kernel
theorem dX1_cost_1 : decode cX1_cost 1 = .ok (.getfield 74, 3) := by decide +kernel
theorem dX1_cost_4 : decode cX1_cost 4 = .ok (.istore_n 2, 1) := by decide +kernel
theorem dX1_cost_5 : decode cX1_cost 5 = .ok (.iload_n 2, 1) := by decide +kernel
theorem dX1_cost_6 : decode cX1_cost 6 = .ok (.iconst 0, 1) := by decide +kernel
theorem dX1_cost_7 : decode cX1_cost 7 = .ok (.bipush 17, 2) := by decide +kernel
theorem dX1_cost_9 : decode cX1_cost 9 = .ok (.invokestatic 45, 3) := by decide +kernel
theorem dX1_cost_12 : decode cX1_cost 12 = .ok (.ifCond .ne 5, 3) := by decide +kernel
theorem dX1_cost_15 : decode cX1_cost 15 = .ok (.iconst 0, 1) := by decide +kernel
theorem dX1_cost_16 : decode cX1_cost 16 = .ok (.ireturn, 1) := by decide +kernel
theorem dX1_cost_17 : decode cX1_cost 17 = .ok (.aload_n 1, 1) := by decide +kernel
theorem dX1_cost_18 : decode cX1_cost 18 = .ok (.getfield 93, 3) := by decide +kernel
theorem dX1_cost_21 : decode cX1_cost 21 = .ok (.aload_n 0, 1) := by decide +kernel
theorem dX1_cost_22 : decode cX1_cost 22 = .ok (.getfield 17, 3) := by decide +kernel
theorem dX1_cost_25 : decode cX1_cost 25 = .ok (.iload_n 2, 1) := by decide +kernel
theorem dX1_cost_26 : decode cX1_cost 26 = .ok (.iaload, 1) := by decide +kernel
theorem dX1_cost_27 : decode cX1_cost 27 = .ok (.isub, 1) := by decide +kernel
theorem dX1_cost_28 : decode cX1_cost 28 = .ok (.invokestatic 84, 3) := by decide +kernel
theorem dX1_cost_31 : decode cX1_cost 31 = .ok (.istore_n 3, 1) := by decide +kernel
theorem dX1_cost_32 : decode cX1_cost 32 = .ok (.aload_n 1, 1) := by decide +kernel
theorem dX1_cost_33 : decode cX1_cost 33 = .ok (.getfield 96, 3) := by decide +kernel
theorem dX1_cost_36 : decode cX1_cost 36 = .ok (.aload_n 0, 1) := by decide +kernel
theorem dX1_cost_37 : decode cX1_cost 37 = .ok (.getfield 21, 3) := by decide +kernel
theorem dX1_cost_40 : decode cX1_cost 40 = .ok (.iload_n 2, 1) := by decide +kernel
theorem dX1_cost_41 : decode cX1_cost 41 = .ok (.iaload, 1) := by decide +kernel
theorem dX1_cost_42 : decode cX1_cost 42 = .ok (.isub, 1) := by decide +kernel
theorem dX1_cost_43 : decode cX1_cost 43 = .ok (.invokestatic 84, 3) := by decide +kernel
theorem dX1_cost_46 : decode cX1_cost 46 = .ok (.istore 4, 2) := by decide +kernel
theorem dX1_cost_48 : decode cX1_cost 48 = .ok (.aload_n 0, 1) := by decide +kernel
theorem dX1_cost_49 : decode cX1_cost 49 = .ok (.getfield 34, 3) := by decide +kernel
theorem dX1_cost_52 : decode cX1_cost 52 = .ok (.lookupswitch 45 #[(1, 28), (2, 35)], 28) := by decide +kernel
theorem dX1_cost_80 : decode cX1_cost 80 = .ok (.iload_n 3, 1) := by decide +kernel
theorem dX1_cost_81 : decode cX1_cost 81 = .ok (.iload 4, 2) := by decide +kernel
theorem dX1_cost_83 : decode cX1_cost 83 = .ok (.invokestatic 99, 3) := by decide +kernel
theorem dX1_cost_86 : decode cX1_cost 86 = .ok (.ireturn, 1) := by decide +kernel
theorem dX1_cost_87 : decode cX1_cost 87 = .ok (.iload_n 3, 1) := by decide +kernel
theorem dX1_cost_88 : decode cX1_cost 88 = .ok (.iload_n 3, 1) := by decide +kernel
theorem dX1_cost_89 : decode cX1_cost 89 = .ok (.imul, 1) := by decide +kernel
theorem dX1_cost_90 : decode cX1_cost 90 = .ok (.iload 4, 2) := by decide +kernel
theorem dX1_cost_92 : decode cX1_cost 92 = .ok (.iload 4, 2) := by decide +kernel
theorem dX1_cost_94 : decode cX1_cost 94 = .ok (.imul, 1) := by decide +kernel
theorem dX1_cost_95 : decode cX1_cost 95 = .ok (.iadd, 1) := by decide +kernel
theorem dX1_cost_96 : decode cX1_cost 96 = .ok (.ireturn, 1) := by decide +kernel
theorem dX1_cost_97 : decode cX1_cost 97 = .ok (.iload_n 3, 1) := by decide +kernel
theorem dX1_cost_98 : decode cX1_cost 98 = .ok (.iload 4, 2) := by decide +kernel
theorem dX1_cost_100 : decode cX1_cost 100 = .ok (.iadd, 1) := by decide +kernel
theorem dX1_cost_101 : decode cX1_cost 101 = .ok (.ireturn, 1) := by decide +kernel
theorem dX1_wholeCost_0 : decode cX1_wholeCost 0 = .ok (.iconst 0, 1) := by decide +kernel
theorem dX1_wholeCost_1 : decode cX1_wholeCost 1 = .ok (.istore_n 1, 1) := by decide +kernel
theorem dX1_wholeCost_2 : decode cX1_wholeCost 2 = .ok (.iconst 1, 1) := by decide +kernel
theorem dX1_wholeCost_3 : decode cX1_wholeCost 3 = .ok (.istore_n 2, 1) := by decide +kernel
theorem dX1_wholeCost_4 : decode cX1_wholeCost 4 = .ok (.iload_n 2, 1) := by decide +kernel
theorem dX1_wholeCost_5 : decode cX1_wholeCost 5 = .ok (.aload_n 0, 1) := by decide +kernel
theorem dX1_wholeCost_6 : decode cX1_wholeCost 6 = .ok (.getfield 24, 3) := by decide +kernel
theorem dX1_wholeCost_9 : decode cX1_wholeCost 9 = .ok (.if_icmp .gt 28, 3) := by decide +kernel
theorem dX1_wholeCost_12 : decode cX1_wholeCost 12 = .ok (.iload_n 2, 1) := by decide +kernel
theorem dX1_wholeCost_13 : decode cX1_wholeCost 13 = .ok (.bipush 12, 2) := by decide +kernel
theorem dX1_wholeCost_15 : decode cX1_wholeCost 15 = .ok (.if_icmp .gt 22, 3) := by decide +kernel
theorem dX1_wholeCost_18 : decode cX1_wholeCost 18 = .ok (.iload_n 1, 1) := by decide +kernel
theorem dX1_wholeCost_19 : decode cX1_wholeCost 19 = .ok (.aload_n 0, 1) := by decide +kernel
theorem dX1_wholeCost_20 : decode cX1_wholeCost 20 = .ok (.aload_n 0, 1) := by decide +kernel
theorem dX1_wholeCost_21 : decode cX1_wholeCost 21 = .ok (.getfield 11, 3) := by decide +kernel
theorem dX1_wholeCost_24 : decode cX1_wholeCost 24 = .ok (.iload_n 2, 1) := by decide +kernel
theorem dX1_wholeCost_25 : decode cX1_wholeCost 25 = .ok (.aaload, 1) := by decide +kernel
theorem dX1_wholeCost_26 : decode cX1_wholeCost 26 = .ok (.invokevirtual 102, 3) := by decide +kernel
theorem dX1_wholeCost_29 : decode cX1_wholeCost 29 = .ok (.iadd, 1) := by decide +kernel
theorem dX1_wholeCost_30 : decode cX1_wholeCost 30 = .ok (.istore_n 1, 1) := by decide +kernel
theorem dX1_wholeCost_31 : decode cX1_wholeCost 31 = .ok (.iinc 2 1, 3) := by decide +kernel
theorem dX1_wholeCost_34 : decode cX1_wholeCost 34 = .ok (.goto (-30), 3) := by decide +kernel
theorem dX1_wholeCost_37 : decode cX1_wholeCost 37 = .ok (.iload_n 1, 1) := by decide +kernel
theorem dX1_wholeCost_38 : decode cX1_wholeCost 38 = .ok (.ireturn, 1) := by decide +kernel
theorem dX1_nextKeys_0 : decode cX1_nextKeys 0 = .ok (.iconst 0, 1) := by decide +kernel
theorem dX1_nextKeys_1 : decode cX1_nextKeys 1 = .ok (.istore_n 1, 1) := by decide +kernel
theorem dX1_nextKeys_2 : decode cX1_nextKeys 2 = .ok (.iconst 0, 1) := by decide +kernel
theorem dX1_nextKeys_3 : decode cX1_nextKeys 3 = .ok (.istore_n 2, 1) := by decide +kernel
theorem dX1_nextKeys_4 : decode cX1_nextKeys 4 = .ok (.iload_n 2, 1) := by decide +kernel
theorem dX1_nextKeys_5 : decode cX1_nextKeys 5 = .ok (.bipush 8, 2) := by decide +kernel
theorem dX1_nextKeys_7 : decode cX1_nextKeys 7 = .ok (.if_icmp .ge 27, 3) := by decide +kernel
theorem dX1_nextKeys_10 : decode cX1_nextKeys 10 = .ok (.aload_n 0, 1) := by decide +kernel
theorem dX1_nextKeys_11 : decode cX1_nextKeys 11 = .ok (.aload_n 0, 1) := by decide +kernel
theorem dX1_nextKeys_12 : decode cX1_nextKeys 12 = .ok (.invokevirtual 49, 3) := by decide +kernel
theorem dX1_nextKeys_15 : decode cX1_nextKeys 15 = .ok (.iload_n 2, 1) := by decide +kernel
theorem dX1_nextKeys_16 : decode cX1_nextKeys 16 = .ok (.invokevirtual 106, 3) := by decide +kernel
theorem dX1_nextKeys_19 : decode cX1_nextKeys 19 = .ok (.ifCond .eq 9, 3) := by decide +kernel
theorem dX1_nextKeys_22 : decode cX1_nextKeys 22 = .ok (.iload_n 1, 1) := by decide +kernel
theorem dX1_nextKeys_23 : decode cX1_nextKeys 23 = .ok (.iconst 1, 1) := by decide +kernel
theorem dX1_nextKeys_24 : decode cX1_nextKeys 24 = .ok (.iload_n 2, 1) := by decide +kernel
theorem dX1_nextKeys_25 : decode cX1_nextKeys 25 = .ok (.ishl, 1) := by decide +kernel
theorem dX1_nextKeys_26 : decode cX1_nextKeys 26 = .ok (.ior, 1) := by decide +kernel
theorem dX1_nextKeys_27 : decode cX1_nextKeys 27 = .ok (.istore_n 1, 1) := by decide +kernel
theorem dX1_nextKeys_28 : decode cX1_nextKeys 28 = .ok (.iinc 2 1, 3) := by decide +kernel
theorem dX1_nextKeys_31 : decode cX1_nextKeys 31 = .ok (.goto (-27), 3) := by decide +kernel
theorem dX1_nextKeys_34 : decode cX1_nextKeys 34 = .ok (.iload_n 1, 1) := by decide +kernel
theorem dX1_nextKeys_35 : decode cX1_nextKeys 35 = .ok (.ireturn, 1) := by decide +kernel
theorem dX1_worseThan_0 : decode cX1_worseThan 0 = .ok (.iload_n 1, 1) := by decide +kernel
theorem dX1_worseThan_1 : decode cX1_worseThan 1 = .ok (.iconst 1, 1) := by decide +kernel
theorem dX1_worseThan_2 : decode cX1_worseThan 2 = .ok (.aload_n 0, 1) := by decide +kernel
theorem dX1_worseThan_3 : decode cX1_worseThan 3 = .ok (.getfield 24, 3) := by decide +kernel
theorem dX1_worseThan_6 : decode cX1_worseThan 6 = .ok (.invokestatic 45, 3) := by decide +kernel
theorem dX1_worseThan_9 : decode cX1_worseThan 9 = .ok (.ifCond .ne 5, 3) := by decide +kernel
theorem dX1_worseThan_12 : decode cX1_worseThan 12 = .ok (.iconst 0, 1) := by decide +kernel
theorem dX1_worseThan_13 : decode cX1_worseThan 13 = .ok (.ireturn, 1) := by decide +kernel
theorem dX1_worseThan_14 : decode cX1_worseThan 14 = .ok (.aload_n 0, 1) := by decide +kernel
theorem dX1_worseThan_15 : decode cX1_worseThan 15 = .ok (.aload_n 0, 1) := by decide +kernel
theorem dX1_worseThan_16 : decode cX1_worseThan 16 = .ok (.getfield 11, 3) := by decide +kernel
theorem dX1_worseThan_19 : decode cX1_worseThan 19 = .ok (.iload_n 1, 1) := by decide +kernel
theorem dX1_worseThan_20 : decode cX1_worseThan 20 = .ok (.aaload, 1) := by decide +kernel
theorem dX1_worseThan_21 : decode cX1_worseThan 21 = .ok (.invokevirtual 102, 3) := by decide +kernel
theorem dX1_worseThan_24 : decode cX1_worseThan 24 = .ok (.istore_n 2, 1) := by decide +kernel
theorem dX1_worseThan_25 : decode cX1_worseThan 25 = .ok (.iconst 0, 1) := by decide +kernel
theorem dX1_worseThan_26 : decode cX1_worseThan 26 = .ok (.istore_n 3, 1) := by decide +kernel
theorem dX1_worseThan_27 : decode cX1_worseThan 27 = .ok (.iconst 1, 1) := by decide +kernel
theorem dX1_worseThan_28 : decode cX1_worseThan 28 = .ok (.istore 4, 2) := by decide +kernel
theorem dX1_worseThan_30 : decode cX1_worseThan 30 = .ok (.iload 4, 2) := by decide +kernel
theorem dX1_worseThan_32 : decode cX1_worseThan 32 = .ok (.aload_n 0, 1) := by decide +kernel
theorem dX1_worseThan_33 : decode cX1_worseThan 33 = .ok (.getfield 24, 3) := by decide +kernel
theorem dX1_worseThan_36 : decode cX1_worseThan 36 = .ok (.if_icmp .gt 50, 3) := by decide +kernel
theorem dX1_worseThan_39 : decode cX1_worseThan 39 = .ok (.iload 4, 2) := by decide +kernel
theorem dX1_worseThan_41 : decode cX1_worseThan 41 = .ok (.bipush 12, 2) := by decide +kernel
theorem dX1_worseThan_43 : decode cX1_worseThan 43 = .ok (.if_icmp .gt 43, 3) := by decide +kernel
theorem dX1_worseThan_46 : decode cX1_worseThan 46 = .ok (.aload_n 0, 1) := by decide +kernel
theorem dX1_worseThan_47 : decode cX1_worseThan 47 = .ok (.aload_n 0, 1) := by decide +kernel
theorem dX1_worseThan_48 : decode cX1_worseThan 48 = .ok (.getfield 11, 3) := by decide +kernel
theorem dX1_worseThan_51 : decode cX1_worseThan 51 = .ok (.iload 4, 2) := by decide +kernel
theorem dX1_worseThan_53 : decode cX1_worseThan 53 = .ok (.aaload, 1) := by decide +kernel
theorem dX1_worseThan_54 : decode cX1_worseThan 54 = .ok (.invokevirtual 102, 3) := by decide +kernel
theorem dX1_worseThan_57 : decode cX1_worseThan 57 = .ok (.istore 5, 2) := by decide +kernel
theorem dX1_worseThan_59 : decode cX1_worseThan 59 = .ok (.iload 5, 2) := by decide +kernel
theorem dX1_worseThan_61 : decode cX1_worseThan 61 = .ok (.iload_n 2, 1) := by decide +kernel
theorem dX1_worseThan_62 : decode cX1_worseThan 62 = .ok (.if_icmp .gt 15, 3) := by decide +kernel
theorem dX1_worseThan_65 : decode cX1_worseThan 65 = .ok (.iload 5, 2) := by decide +kernel
theorem dX1_worseThan_67 : decode cX1_worseThan 67 = .ok (.iload_n 2, 1) := by decide +kernel
theorem dX1_worseThan_68 : decode cX1_worseThan 68 = .ok (.if_icmp .ne 12, 3) := by decide +kernel
theorem dX1_worseThan_71 : decode cX1_worseThan 71 = .ok (.iload 4, 2) := by decide +kernel
theorem dX1_worseThan_73 : decode cX1_worseThan 73 = .ok (.iload_n 1, 1) := by decide +kernel
theorem dX1_worseThan_74 : decode cX1_worseThan 74 = .ok (.if_icmp .ge 6, 3) := by decide +kernel
theorem dX1_worseThan_77 : decode cX1_worseThan 77 = .ok (.iinc 3 1, 3) := by decide +kernel
theorem dX1_worseThan_80 : decode cX1_worseThan 80 = .ok (.iinc 4 1, 3) := by decide +kernel
theorem dX1_worseThan_83 : decode cX1_worseThan 83 = .ok (.goto (-53), 3) := by decide +kernel
theorem dX1_worseThan_86 : decode cX1_worseThan 86 = .ok (.iload_n 3, 1) := by decide +kernel
theorem dX1_worseThan_87 : decode cX1_worseThan 87 = .ok (.ireturn, 1) := by decide +kernel
theorem dX2_init_0 : decode cX2_init 0 = .ok (.aload_n 0, 1) := by decide +kernel
theorem dX2_init_1 : decode cX2_init 1 = .ok (.invokespecial 3, 3) := by decide +kernel
theorem dX2_init_4 : decode cX2_init 4 = .ok (.aload_n 0, 1) := by decide +kernel
theorem dX2_init_5 : decode cX2_init 5 = .ok (.bipush 120, 2) := by decide +kernel
theorem dX2_init_7 : decode cX2_init 7 = .ok (.newarray .int, 2) := by decide +kernel
theorem dX2_init_9 : decode cX2_init 9 = .ok (.putfield 9, 3) := by decide +kernel
theorem dX2_init_12 : decode cX2_init 12 = .ok (.aload_n 0, 1) := by decide +kernel
theorem dX2_init_13 : decode cX2_init 13 = .ok (.iconst 0, 1) := by decide +kernel
theorem dX2_init_14 : decode cX2_init 14 = .ok (.putfield 15, 3) := by decide +kernel
theorem dX2_init_17 : decode cX2_init 17 = .ok (.aload_n 0, 1) := by decide +kernel
theorem dX2_init_18 : decode cX2_init 18 = .ok (.iconst 0, 1) := by decide +kernel
theorem dX2_init_19 : decode cX2_init 19 = .ok (.putfield 19, 3) := by decide +kernel
theorem dX2_init_22 : decode cX2_init 22 = .ok (.aload_n 0, 1) := by decide +kernel
theorem dX2_init_23 : decode cX2_init 23 = .ok (.iconst (-1), 1) := by decide +kernel
theorem dX2_init_24 : decode cX2_init 24 = .ok (.putfield 22, 3) := by decide +kernel
theorem dX2_init_27 : decode cX2_init 27 = .ok (.aload_n 0, 1) := by decide +kernel
theorem dX2_init_28 : decode cX2_init 28 = .ok (.iconst 0, 1) := by decide +kernel
theorem dX2_init_29 : decode cX2_init 29 = .ok (.putfield 25, 3) := by decide +kernel
theorem dX2_init_32 : decode cX2_init 32 = .ok (.aload_n 0, 1) := by decide +kernel
theorem dX2_init_33 : decode cX2_init 33 = .ok (.iconst 0, 1) := by decide +kernel
theorem dX2_init_34 : decode cX2_init 34 = .ok (.putfield 28, 3) := by decide +kernel
theorem dX2_init_37 : decode cX2_init 37 = .ok (.aload_n 0, 1) := by decide +kernel
theorem dX2_init_38 : decode cX2_init 38 = .ok (.iconst 0, 1) := by decide +kernel
theorem dX2_init_39 : decode cX2_init 39 = .ok (.putfield 31, 3) := by decide +kernel
theorem dX2_init_42 : decode cX2_init 42 = .ok (.aload_n 0, 1) := by decide +kernel
theorem dX2_init_43 : decode cX2_init 43 = .ok (.iconst 0, 1) := by decide +kernel
theorem dX2_init_44 : decode cX2_init 44 = .ok (.putfield 34, 3) := by decide +kernel
theorem dX2_init_47 : decode cX2_init 47 = .ok (.aload_n 0, 1) := by decide +kernel
theorem dX2_init_48 : decode cX2_init 48 = .ok (.iconst 3, 1) := by decide +kernel
theorem dX2_init_49 : decode cX2_init 49 = .ok (.newarray .boolean, 2) := by decide +kernel
theorem dX2_init_51 : decode cX2_init 51 = .ok (.putfield 38, 3) := by decide +kernel
theorem dX2_init_54 : decode cX2_init 54 = .ok (.return_, 1) := by decide +kernel
theorem dX2_add_0 : decode cX2_add 0 = .ok (.aload_n 0, 1) := by decide +kernel
theorem dX2_add_1 : decode cX2_add 1 = .ok (.getfield 15, 3) := by decide +kernel
theorem dX2_add_4 : decode cX2_add 4 = .ok (.iconst 0, 1) := by decide +kernel
theorem dX2_add_5 : decode cX2_add 5 = .ok (.bipush 119, 2) := by decide +kernel
theorem dX2_add_7 : decode cX2_add 7 = .ok (.invokestatic 42, 3) := by decide +kernel
theorem dX2_add_10 : decode cX2_add 10 = .ok (.ifCond .ne 5, 3) := by decide +kernel
theorem dX2_add_13 : decode cX2_add 13 = .ok (.iconst 0, 1) := by decide +kernel
theorem dX2_add_14 : decode cX2_add 14 = .ok (.ireturn, 1) := by decide +kernel
theorem dX2_add_15 : decode cX2_add 15 = .ok (.aload_n 0, 1) := by decide +kernel
theorem dX2_add_16 : decode cX2_add 16 = .ok (.getfield 9, 3) := by decide +kernel
theorem dX2_add_19 : decode cX2_add 19 = .ok (.aload_n 0, 1) := by decide +kernel
theorem dX2_add_20 : decode cX2_add 20 = .ok (.getfield 15, 3) := by decide +kernel
theorem dX2_add_23 : decode cX2_add 23 = .ok (.iload_n 1, 1) := by decide +kernel
theorem dX2_add_24 : decode cX2_add 24 = .ok (.iastore, 1) := by decide +kernel
theorem dX2_add_25 : decode cX2_add 25 = .ok (.aload_n 0, 1) := by decide +kernel
theorem dX2_add_26 : decode cX2_add 26 = .ok (.dup, 1) := by decide +kernel
theorem dX2_add_27 : decode cX2_add 27 = .ok (.getfield 15, 3) := by decide +kernel
theorem dX2_add_30 : decode cX2_add 30 = .ok (.iconst 1, 1) := by decide +kernel
theorem dX2_add_31 : decode cX2_add 31 = .ok (.iadd, 1) := by decide +kernel
theorem dX2_add_32 : decode cX2_add 32 = .ok (.putfield 15, 3) := by decide +kernel
theorem dX2_add_35 : decode cX2_add 35 = .ok (.iconst 1, 1) := by decide +kernel
theorem dX2_add_36 : decode cX2_add 36 = .ok (.ireturn, 1) := by decide +kernel
theorem dX2_readInto_0 : decode cX2_readInto 0 = .ok (.aload_n 0, 1) := by decide +kernel
theorem dX2_readInto_1 : decode cX2_readInto 1 = .ok (.iconst 0, 1) := by decide +kernel
theorem dX2_readInto_2 : decode cX2_readInto 2 = .ok (.putfield 28, 3) := by decide +kernel
theorem dX2_readInto_5 : decode cX2_readInto 5 = .ok (.aload_n 0, 1) := by decide +kernel
theorem dX2_readInto_6 : decode cX2_readInto 6 = .ok (.iconst 0, 1) := by decide +kernel
theorem dX2_readInto_7 : decode cX2_readInto 7 = .ok (.putfield 31, 3) := by decide +kernel
theorem dX2_readInto_10 : decode cX2_readInto 10 = .ok (.aload_n 0, 1) := by decide +kernel
theorem dX2_readInto_11 : decode cX2_readInto 11 = .ok (.iconst 0, 1) := by decide +kernel
theorem dX2_readInto_12 : decode cX2_readInto 12 = .ok (.putfield 34, 3) := by decide +kernel
theorem dX2_readInto_15 : decode cX2_readInto 15 = .ok (.iconst 0, 1) := by decide +kernel
theorem dX2_readInto_16 : decode cX2_readInto 16 = .ok (.istore_n 2, 1) := by decide +kernel
theorem dX2_readInto_17 : decode cX2_readInto 17 = .ok (.iload_n 2, 1) := by decide +kernel
theorem dX2_readInto_18 : decode cX2_readInto 18 = .ok (.iconst 2, 1) := by decide +kernel
theorem dX2_readInto_19 : decode cX2_readInto 19 = .ok (.if_icmp .gt 16, 3) := by decide +kernel
theorem dX2_readInto_22 : decode cX2_readInto 22 = .ok (.aload_n 0, 1) := by decide +kernel
theorem dX2_readInto_23 : decode cX2_readInto 23 = .ok (.getfield 38, 3) := by decide +kernel
theorem dX2_readInto_26 : decode cX2_readInto 26 = .ok (.iload_n 2, 1) := by decide +kernel
theorem dX2_readInto_27 : decode cX2_readInto 27 = .ok (.iconst 0, 1) := by decide +kernel
theorem dX2_readInto_28 : decode cX2_readInto 28 = .ok (.bastore, 1) := by decide +kernel
theorem dX2_readInto_29 : decode cX2_readInto 29 = .ok (.iinc 2 1, 3) := by decide +kernel
theorem dX2_readInto_32 : decode cX2_readInto 32 = .ok (.goto (-15), 3) := by decide +kernel
theorem dX2_readInto_35 : decode cX2_readInto 35 = .ok (.iconst 0, 1) := by decide +kernel
theorem dX2_readInto_36 : decode cX2_readInto 36 = .ok (.istore_n 2, 1) := by decide +kernel
theorem dX2_readInto_37 : decode cX2_readInto 37 = .ok (.aload_n 0, 1) := by decide +kernel
theorem dX2_readInto_38 : decode cX2_readInto 38 = .ok (.invokevirtual 46, 3) := by decide +kernel
theorem dX2_readInto_41 : decode cX2_readInto 41 = .ok (.aload_n 0, 1) := by decide +kernel
theorem dX2_readInto_42 : decode cX2_readInto 42 = .ok (.getfield 22, 3) := by decide +kernel
theorem dX2_readInto_45 : decode cX2_readInto 45 = .ok (.iconst (-1), 1) := by decide +kernel
theorem dX2_readInto_46 : decode cX2_readInto 46 = .ok (.if_icmp .eq 44, 3) := by decide +kernel
theorem dX2_readInto_49 : decode cX2_readInto 49 = .ok (.iload_n 2, 1) := by decide +kernel
theorem dX2_readInto_50 : decode cX2_readInto 50 = .ok (.bipush 120, 2) := by decide +kernel
theorem dX2_readInto_52 : decode cX2_readInto 52 = .ok (.if_icmp .gt 38, 3) := by decide +kernel
theorem dX2_readInto_55 : decode cX2_readInto 55 = .ok (.aload_n 0, 1) := by decide +kernel
theorem dX2_readInto_56 : decode cX2_readInto 56 = .ok (.aload_n 1, 1) := by decide +kernel
theorem dX2_readInto_57 : decode cX2_readInto 57 = .ok (.invokevirtual 49, 3) := by decide +kernel
theorem dX2_readInto_60 : decode cX2_readInto 60 = .ok (.ifCond .eq 12, 3) := by decide +kernel
theorem dX2_readInto_63 : decode cX2_readInto 63 = .ok (.aload_n 0, 1) := by decide +kernel
theorem dX2_readInto_64 : decode cX2_readInto 64 = .ok (.getfield 22, 3) := by decide +kernel
theorem dX2_readInto_67 : decode cX2_readInto 67 = .ok (.bipush 59, 2) := by decide +kernel
theorem dX2_readInto_69 : decode cX2_readInto 69 = .ok (.if_icmp .eq 11, 3) := by decide +kernel
theorem dX2_readInto_72 : decode cX2_readInto 72 = .ok (.bipush (-10), 2) := by decide +kernel
theorem dX2_readInto_74 : decode cX2_readInto 74 = .ok (.aload_n 0, 1) := by decide +kernel
theorem dX2_readInto_75 : decode cX2_readInto 75 = .ok (.getfield 19, 3) := by decide +kernel
theorem dX2_readInto_78 : decode cX2_readInto 78 = .ok (.isub, 1) := by decide +kernel
theorem dX2_readInto_79 : decode cX2_readInto 79 = .ok (.ireturn, 1) := by decide +kernel
theorem dX2_readInto_80 : decode cX2_readInto 80 = .ok (.iinc 2 1, 3) := by decide +kernel
theorem dX2_readInto_83 : decode cX2_readInto 83 = .ok (.aload_n 0, 1) := by decide +kernel
theorem dX2_readInto_84 : decode cX2_readInto 84 = .ok (.invokevirtual 46, 3) := by decide +kernel
theorem dX2_readInto_87 : decode cX2_readInto 87 = .ok (.goto (-46), 3) := by decide +kernel
theorem dX2_readInto_90 : decode cX2_readInto 90 = .ok (.iload_n 2, 1) := by decide +kernel
theorem dX2_readInto_91 : decode cX2_readInto 91 = .ok (.ireturn, 1) := by decide +kernel
theorem dX2_readItem_0 : decode cX2_readItem 0 = .ok (.aload_n 0, 1) := by decide +kernel
theorem dX2_readItem_1 : decode cX2_readItem 1 = .ok (.getfield 22, 3) := by decide +kernel
theorem dX2_readItem_4 : decode cX2_readItem 4 = .ok (.lookupswitch 99 #[(98, 66), (106, 73), (107, 93), (109, 80), (116, 60), (119, 87)], 60) := by decide +kernel
theorem dX2_readItem_64 : decode cX2_readItem 64 = .ok (.aload_n 0, 1) := by decide +kernel
theorem dX2_readItem_65 : decode cX2_readItem 65 = .ok (.aload_n 1, 1) := by decide +kernel
theorem dX2_readItem_66 : decode cX2_readItem 66 = .ok (.invokevirtual 53, 3) := by decide +kernel
theorem dX2_readItem_69 : decode cX2_readItem 69 = .ok (.ireturn, 1) := by decide +kernel
theorem dX2_readItem_70 : decode cX2_readItem 70 = .ok (.aload_n 0, 1) := by decide +kernel
theorem dX2_readItem_71 : decode cX2_readItem 71 = .ok (.aload_n 1, 1) := by decide +kernel
theorem dX2_readItem_72 : decode cX2_readItem 72 = .ok (.iconst 0, 1) := by decide +kernel
theorem dX2_readItem_73 : decode cX2_readItem 73 = .ok (.invokevirtual 56, 3) := by decide +kernel
theorem dX2_readItem_76 : decode cX2_readItem 76 = .ok (.ireturn, 1) := by decide +kernel
theorem dX2_readItem_77 : decode cX2_readItem 77 = .ok (.aload_n 0, 1) := by decide +kernel
theorem dX2_readItem_78 : decode cX2_readItem 78 = .ok (.aload_n 1, 1) := by decide +kernel
theorem dX2_readItem_79 : decode cX2_readItem 79 = .ok (.iconst 1, 1) := by decide +kernel
theorem dX2_readItem_80 : decode cX2_readItem 80 = .ok (.invokevirtual 56, 3) := by decide +kernel
theorem dX2_readItem_83 : decode cX2_readItem 83 = .ok (.ireturn, 1) := by decide +kernel
theorem dX2_readItem_84 : decode cX2_readItem 84 = .ok (.aload_n 0, 1) := by decide +kernel
theorem dX2_readItem_85 : decode cX2_readItem 85 = .ok (.aload_n 1, 1) := by decide +kernel
theorem dX2_readItem_86 : decode cX2_readItem 86 = .ok (.iconst 2, 1) := by decide +kernel
theorem dX2_readItem_87 : decode cX2_readItem 87 = .ok (.invokevirtual 56, 3) := by decide +kernel
theorem dX2_readItem_90 : decode cX2_readItem 90 = .ok (.ireturn, 1) := by decide +kernel
theorem dX2_readItem_91 : decode cX2_readItem 91 = .ok (.aload_n 0, 1) := by decide +kernel
theorem dX2_readItem_92 : decode cX2_readItem 92 = .ok (.aload_n 1, 1) := by decide +kernel
theorem dX2_readItem_93 : decode cX2_readItem 93 = .ok (.invokevirtual 60, 3) := by decide +kernel
theorem dX2_readItem_96 : decode cX2_readItem 96 = .ok (.ireturn, 1) := by decide +kernel
theorem dX2_readItem_97 : decode cX2_readItem 97 = .ok (.aload_n 0, 1) := by decide +kernel
theorem dX2_readItem_98 : decode cX2_readItem 98 = .ok (.aload_n 1, 1) := by decide +kernel
theorem dX2_readItem_99 : decode cX2_readItem 99 = .ok (.invokevirtual 63, 3) := by decide +kernel
theorem dX2_readItem_102 : decode cX2_readItem 102 = .ok (.ireturn, 1) := by decide +kernel
theorem dX2_readItem_103 : decode cX2_readItem 103 = .ok (.iconst 0, 1) := by decide +kernel
theorem dX2_readItem_104 : decode cX2_readItem 104 = .ok (.ireturn, 1) := by decide +kernel
theorem dX2_readTaper_0 : decode cX2_readTaper 0 = .ok (.aload_n 0, 1) := by decide +kernel
theorem dX2_readTaper_1 : decode cX2_readTaper 1 = .ok (.getfield 34, 3) := by decide +kernel
theorem dX2_readTaper_4 : decode cX2_readTaper 4 = .ok (.ifCond .ne 10, 3) := by decide +kernel
theorem dX2_readTaper_7 : decode cX2_readTaper 7 = .ok (.aload_n 1, 1) := by decide +kernel
theorem dX2_readTaper_8 : decode cX2_readTaper 8 = .ok (.getfield 66, 3) := by decide +kernel
theorem dX2_readTaper_11 : decode cX2_readTaper 11 = .ok (.ifCond .le 5, 3) := by decide +kernel
theorem dX2_readTaper_14 : decode cX2_readTaper 14 = .ok (.iconst 0, 1) := by decide +kernel
theorem dX2_readTaper_15 : decode cX2_readTaper 15 = .ok (.ireturn, 1) := by decide +kernel
theorem dX2_readTaper_16 : decode cX2_readTaper 16 = .ok (.aload_n 0, 1) := by decide +kernel
theorem dX2_readTaper_17 : decode cX2_readTaper 17 = .ok (.iconst 1, 1) := by decide +kernel
theorem dX2_readTaper_18 : decode cX2_readTaper 18 = .ok (.putfield 34, 3) := by decide +kernel
theorem dX2_readTaper_21 : decode cX2_readTaper 21 = .ok (.aload_n 0, 1) := by decide +kernel
theorem dX2_readTaper_22 : decode cX2_readTaper 22 = .ok (.invokevirtual 46, 3) := by decide +kernel
theorem dX2_readTaper_25 : decode cX2_readTaper 25 = .ok (.aload_n 0, 1) := by decide +kernel
theorem dX2_readTaper_26 : decode cX2_readTaper 26 = .ok (.getfield 22, 3) := by decide +kernel
theorem dX2_readTaper_29 : decode cX2_readTaper 29 = .ok (.bipush (-2), 2) := by decide +kernel
theorem dX2_readTaper_31 : decode cX2_readTaper 31 = .ok (.if_icmp .ne 15, 3) := by decide +kernel
theorem dX2_readTaper_34 : decode cX2_readTaper 34 = .ok (.aload_n 0, 1) := by decide +kernel
theorem dX2_readTaper_35 : decode cX2_readTaper 35 = .ok (.getfield 25, 3) := by decide +kernel
theorem dX2_readTaper_38 : decode cX2_readTaper 38 = .ok (.iconst 1, 1) := by decide +kernel
theorem dX2_readTaper_39 : decode cX2_readTaper 39 = .ok (.iconst 3, 1) := by decide +kernel
theorem dX2_readTaper_40 : decode cX2_readTaper 40 = .ok (.invokestatic 42, 3) := by decide +kernel
theorem dX2_readTaper_43 : decode cX2_readTaper 43 = .ok (.ifCond .ne 5, 3) := by decide +kernel
theorem dX2_readTaper_46 : decode cX2_readTaper 46 = .ok (.iconst 0, 1) := by decide +kernel
theorem dX2_readTaper_47 : decode cX2_readTaper 47 = .ok (.ireturn, 1) := by decide +kernel
theorem dX2_readTaper_48 : decode cX2_readTaper 48 = .ok (.aload_n 1, 1) := by decide +kernel
theorem dX2_readTaper_49 : decode cX2_readTaper 49 = .ok (.aload_n 0, 1) := by decide +kernel
theorem dX2_readTaper_50 : decode cX2_readTaper 50 = .ok (.getfield 25, 3) := by decide +kernel
theorem dX2_readTaper_53 : decode cX2_readTaper 53 = .ok (.putfield 71, 3) := by decide +kernel
theorem dX2_readTaper_56 : decode cX2_readTaper 56 = .ok (.aload_n 0, 1) := by decide +kernel
theorem dX2_readTaper_57 : decode cX2_readTaper 57 = .ok (.invokevirtual 46, 3) := by decide +kernel
theorem dX2_readTaper_60 : decode cX2_readTaper 60 = .ok (.iconst 1, 1) := by decide +kernel
theorem dX2_readTaper_61 : decode cX2_readTaper 61 = .ok (.ireturn, 1) := by decide +kernel
theorem dX2_readRule_0 : decode cX2_readRule 0 = .ok (.aload_n 0, 1) := by decide +kernel
theorem dX2_readRule_1 : decode cX2_readRule 1 = .ok (.getfield 38, 3) := by decide +kernel
theorem dX2_readRule_4 : decode cX2_readRule 4 = .ok (.iload_n 2, 1) := by decide +kernel
theorem dX2_readRule_5 : decode cX2_readRule 5 = .ok (.baload, 1) := by decide +kernel
theorem dX2_readRule_6 : decode cX2_readRule 6 = .ok (.ifCond .ne 10, 3) := by decide +kernel
theorem dX2_readRule_9 : decode cX2_readRule 9 = .ok (.aload_n 1, 1) := by decide +kernel
theorem dX2_readRule_10 : decode cX2_readRule 10 = .ok (.getfield 66, 3) := by decide +kernel
theorem dX2_readRule_13 : decode cX2_readRule 13 = .ok (.ifCond .le 5, 3) := by decide +kernel
theorem dX2_readRule_16 : decode cX2_readRule 16 = .ok (.iconst 0, 1) := by decide +kernel
theorem dX2_readRule_17 : decode cX2_readRule 17 = .ok (.ireturn, 1) := by decide +kernel
theorem dX2_readRule_18 : decode cX2_readRule 18 = .ok (.aload_n 0, 1) := by decide +kernel
theorem dX2_readRule_19 : decode cX2_readRule 19 = .ok (.getfield 38, 3) := by decide +kernel
theorem dX2_readRule_22 : decode cX2_readRule 22 = .ok (.iload_n 2, 1) := by decide +kernel
theorem dX2_readRule_23 : decode cX2_readRule 23 = .ok (.iconst 1, 1) := by decide +kernel
theorem dX2_readRule_24 : decode cX2_readRule 24 = .ok (.bastore, 1) := by decide +kernel
theorem dX2_readRule_25 : decode cX2_readRule 25 = .ok (.aload_n 0, 1) := by decide +kernel
theorem dX2_readRule_26 : decode cX2_readRule 26 = .ok (.invokevirtual 46, 3) := by decide +kernel
theorem dX2_readRule_29 : decode cX2_readRule 29 = .ok (.aload_n 0, 1) := by decide +kernel
theorem dX2_readRule_30 : decode cX2_readRule 30 = .ok (.getfield 22, 3) := by decide +kernel
theorem dX2_readRule_33 : decode cX2_readRule 33 = .ok (.bipush (-2), 2) := by decide +kernel
theorem dX2_readRule_35 : decode cX2_readRule 35 = .ok (.if_icmp .ne 14, 3) := by decide +kernel
theorem dX2_readRule_38 : decode cX2_readRule 38 = .ok (.iload_n 2, 1) := by decide +kernel
theorem dX2_readRule_39 : decode cX2_readRule 39 = .ok (.aload_n 0, 1) := by decide +kernel
theorem dX2_readRule_40 : decode cX2_readRule 40 = .ok (.getfield 25, 3) := by decide +kernel
theorem dX2_readRule_43 : decode cX2_readRule 43 = .ok (.invokestatic 74, 3) := by decide +kernel
theorem dX2_readRule_46 : decode cX2_readRule 46 = .ok (.ifCond .ne 5, 3) := by decide +kernel
theorem dX2_readRule_49 : decode cX2_readRule 49 = .ok (.iconst 0, 1) := by decide +kernel
theorem dX2_readRule_50 : decode cX2_readRule 50 = .ok (.ireturn, 1) := by decide +kernel
theorem dX2_readRule_51 : decode cX2_readRule 51 = .ok (.aload_n 1, 1) := by decide +kernel
theorem dX2_readRule_52 : decode cX2_readRule 52 = .ok (.iload_n 2, 1) := by decide +kernel
theorem dX2_readRule_53 : decode cX2_readRule 53 = .ok (.aload_n 0, 1) := by decide +kernel
theorem dX2_readRule_54 : decode cX2_readRule 54 = .ok (.getfield 25, 3) := by decide +kernel
theorem dX2_readRule_57 : decode cX2_readRule 57 = .ok (.invokevirtual 78, 3) := by decide +kernel
theorem dX2_readRule_60 : decode cX2_readRule 60 = .ok (.aload_n 0, 1) := by decide +kernel
theorem dX2_readRule_61 : decode cX2_readRule 61 = .ok (.invokevirtual 46, 3) := by decide +kernel
theorem dX2_readRule_64 : decode cX2_readRule 64 = .ok (.iconst 1, 1) := by decide +kernel
theorem dX2_readRule_65 : decode cX2_readRule 65 = .ok (.ireturn, 1) := by decide +kernel
theorem dX2_readWish_0 : decode cX2_readWish 0 = .ok (.aload_n 0, 1) := by decide +kernel
theorem dX2_readWish_1 : decode cX2_readWish 1 = .ok (.getfield 31, 3) := by decide +kernel
theorem dX2_readWish_4 : decode cX2_readWish 4 = .ok (.bipush 17, 2) := by decide +kernel
theorem dX2_readWish_6 : decode cX2_readWish 6 = .ok (.if_icmp .lt 5, 3) := by decide +kernel
theorem dX2_readWish_9 : decode cX2_readWish 9 = .ok (.iconst 0, 1) := by decide +kernel
theorem dX2_readWish_10 : decode cX2_readWish 10 = .ok (.ireturn, 1) := by decide +kernel
theorem dX2_readWish_11 : decode cX2_readWish 11 = .ok (.aload_n 0, 1) := by decide +kernel
theorem dX2_readWish_12 : decode cX2_readWish 12 = .ok (.invokevirtual 46, 3) := by decide +kernel
theorem dX2_readWish_15 : decode cX2_readWish 15 = .ok (.aload_n 0, 1) := by decide +kernel
theorem dX2_readWish_16 : decode cX2_readWish 16 = .ok (.invokevirtual 82, 3) := by decide +kernel
theorem dX2_readWish_19 : decode cX2_readWish 19 = .ok (.ifCond .ne 5, 3) := by decide +kernel
theorem dX2_readWish_22 : decode cX2_readWish 22 = .ok (.iconst 0, 1) := by decide +kernel
theorem dX2_readWish_23 : decode cX2_readWish 23 = .ok (.ireturn, 1) := by decide +kernel
theorem dX2_readWish_24 : decode cX2_readWish 24 = .ok (.aload_n 0, 1) := by decide +kernel
theorem dX2_readWish_25 : decode cX2_readWish 25 = .ok (.getfield 25, 3) := by decide +kernel
theorem dX2_readWish_28 : decode cX2_readWish 28 = .ok (.istore_n 2, 1) := by decide +kernel
theorem dX2_readWish_29 : decode cX2_readWish 29 = .ok (.aload_n 0, 1) := by decide +kernel
theorem dX2_readWish_30 : decode cX2_readWish 30 = .ok (.invokevirtual 46, 3) := by decide +kernel
theorem dX2_readWish_33 : decode cX2_readWish 33 = .ok (.aload_n 0, 1) := by decide +kernel
theorem dX2_readWish_34 : decode cX2_readWish 34 = .ok (.invokevirtual 82, 3) := by decide +kernel
theorem dX2_readWish_37 : decode cX2_readWish 37 = .ok (.ifCond .ne 5, 3) := by decide +kernel
theorem dX2_readWish_40 : decode cX2_readWish 40 = .ok (.iconst 0, 1) := by decide +kernel
theorem dX2_readWish_41 : decode cX2_readWish 41 = .ok (.ireturn, 1) := by decide +kernel
theorem dX2_readWish_42 : decode cX2_readWish 42 = .ok (.aload_n 0, 1) := by decide +kernel
theorem dX2_readWish_43 : decode cX2_readWish 43 = .ok (.dup, 1) := by decide +kernel
theorem dX2_readWish_44 : decode cX2_readWish 44 = .ok (.getfield 31, 3) := by decide +kernel
theorem dX2_readWish_47 : decode cX2_readWish 47 = .ok (.iconst 1, 1) := by decide +kernel
theorem dX2_readWish_48 : decode cX2_readWish 48 = .ok (.iadd, 1) := by decide +kernel
theorem dX2_readWish_49 : decode cX2_readWish 49 = .ok (.putfield 31, 3) := by decide +kernel
theorem dX2_readWish_52 : decode cX2_readWish 52 = .ok (.aload_n 1, 1) := by decide +kernel
theorem dX2_readWish_53 : decode cX2_readWish 53 = .ok (.aload_n 0, 1) := by decide +kernel
theorem dX2_readWish_54 : decode cX2_readWish 54 = .ok (.getfield 31, 3) := by decide +kernel
theorem dX2_readWish_57 : decode cX2_readWish 57 = .ok (.iload_n 2, 1) := by decide +kernel
theorem dX2_readWish_58 : decode cX2_readWish 58 = .ok (.aload_n 0, 1) := by decide +kernel
theorem dX2_readWish_59 : decode cX2_readWish 59 = .ok (.getfield 25, 3) := by decide +kernel
theorem dX2_readWish_62 : decode cX2_readWish 62 = .ok (.invokevirtual 86, 3) := by decide +kernel
theorem dX2_readWish_65 : decode cX2_readWish 65 = .ok (.aload_n 0, 1) := by decide +kernel
theorem dX2_readWish_66 : decode cX2_readWish 66 = .ok (.invokevirtual 46, 3) := by decide +kernel
theorem dX2_readWish_69 : decode cX2_readWish 69 = .ok (.iconst 1, 1) := by decide +kernel
theorem dX2_readWish_70 : decode cX2_readWish 70 = .ok (.ireturn, 1) := by decide +kernel
theorem dX2_readSigned_0 : decode cX2_readSigned 0 = .ok (.aload_n 0, 1) := by decide +kernel
theorem dX2_readSigned_1 : decode cX2_readSigned 1 = .ok (.getfield 22, 3) := by decide +kernel
theorem dX2_readSigned_4 : decode cX2_readSigned 4 = .ok (.bipush 45, 2) := by decide +kernel
theorem dX2_readSigned_6 : decode cX2_readSigned 6 = .ok (.if_icmp .ne 7, 3) := by decide +kernel
theorem dX2_readSigned_9 : decode cX2_readSigned 9 = .ok (.iconst 1, 1) := by decide +kernel
theorem dX2_readSigned_10 : decode cX2_readSigned 10 = .ok (.goto 4, 3) := by decide +kernel
theorem dX2_readSigned_13 : decode cX2_readSigned 13 = .ok (.iconst 0, 1) := by decide +kernel
theorem dX2_readSigned_14 : decode cX2_readSigned 14 = .ok (.istore_n 1, 1) := by decide +kernel
theorem dX2_readSigned_15 : decode cX2_readSigned 15 = .ok (.iload_n 1, 1) := by decide +kernel
theorem dX2_readSigned_16 : decode cX2_readSigned 16 = .ok (.ifCond .eq 7, 3) := by decide +kernel
theorem dX2_readSigned_19 : decode cX2_readSigned 19 = .ok (.aload_n 0, 1) := by decide +kernel
theorem dX2_readSigned_20 : decode cX2_readSigned 20 = .ok (.invokevirtual 46, 3) := by decide +kernel
theorem dX2_readSigned_23 : decode cX2_readSigned 23 = .ok (.aload_n 0, 1) := by decide +kernel
theorem dX2_readSigned_24 : decode cX2_readSigned 24 = .ok (.getfield 22, 3) := by decide +kernel
theorem dX2_readSigned_27 : decode cX2_readSigned 27 = .ok (.bipush (-2), 2) := by decide +kernel
theorem dX2_readSigned_29 : decode cX2_readSigned 29 = .ok (.if_icmp .eq 5, 3) := by decide +kernel
theorem dX2_readSigned_32 : decode cX2_readSigned 32 = .ok (.iconst 0, 1) := by decide +kernel
theorem dX2_readSigned_33 : decode cX2_readSigned 33 = .ok (.ireturn, 1) := by decide +kernel
theorem dX2_readSigned_34 : decode cX2_readSigned 34 = .ok (.iload_n 1, 1) := by decide +kernel
theorem dX2_readSigned_35 : decode cX2_readSigned 35 = .ok (.ifCond .eq 12, 3) := by decide +kernel
theorem dX2_readSigned_38 : decode cX2_readSigned 38 = .ok (.aload_n 0, 1) := by decide +kernel
theorem dX2_readSigned_39 : decode cX2_readSigned 39 = .ok (.aload_n 0, 1) := by decide +kernel
theorem dX2_readSigned_40 : decode cX2_readSigned 40 = .ok (.getfield 25, 3) := by decide +kernel
theorem dX2_readSigned_43 : decode cX2_readSigned 43 = .ok (.ineg, 1) := by decide +kernel
theorem dX2_readSigned_44 : decode cX2_readSigned 44 = .ok (.putfield 25, 3) := by decide +kernel
theorem dX2_readSigned_47 : decode cX2_readSigned 47 = .ok (.iconst 1, 1) := by decide +kernel
theorem dX2_readSigned_48 : decode cX2_readSigned 48 = .ok (.ireturn, 1) := by decide +kernel
theorem dX2_readKey_0 : decode cX2_readKey 0 = .ok (.aload_n 1, 1) := by decide +kernel
theorem dX2_readKey_1 : decode cX2_readKey 1 = .ok (.getfield 66, 3) := by decide +kernel
theorem dX2_readKey_4 : decode cX2_readKey 4 = .ok (.bipush 12, 2) := by decide +kernel
theorem dX2_readKey_6 : decode cX2_readKey 6 = .ok (.if_icmp .lt 5, 3) := by decide +kernel
theorem dX2_readKey_9 : decode cX2_readKey 9 = .ok (.iconst 0, 1) := by decide +kernel
theorem dX2_readKey_10 : decode cX2_readKey 10 = .ok (.ireturn, 1) := by decide +kernel
theorem dX2_readKey_11 : decode cX2_readKey 11 = .ok (.aload_n 0, 1) := by decide +kernel
theorem dX2_readKey_12 : decode cX2_readKey 12 = .ok (.invokevirtual 46, 3) := by decide +kernel
theorem dX2_readKey_15 : decode cX2_readKey 15 = .ok (.aload_n 0, 1) := by decide +kernel
theorem dX2_readKey_16 : decode cX2_readKey 16 = .ok (.getfield 22, 3) := by decide +kernel
theorem dX2_readKey_19 : decode cX2_readKey 19 = .ok (.bipush (-2), 2) := by decide +kernel
theorem dX2_readKey_21 : decode cX2_readKey 21 = .ok (.if_icmp .ne 28, 3) := by decide +kernel
theorem dX2_readKey_24 : decode cX2_readKey 24 = .ok (.aload_n 0, 1) := by decide +kernel
theorem dX2_readKey_25 : decode cX2_readKey 25 = .ok (.getfield 25, 3) := by decide +kernel
theorem dX2_readKey_28 : decode cX2_readKey 28 = .ok (.invokestatic 90, 3) := by decide +kernel
theorem dX2_readKey_31 : decode cX2_readKey 31 = .ok (.ifCond .eq 18, 3) := by decide +kernel
theorem dX2_readKey_34 : decode cX2_readKey 34 = .ok (.aload_n 1, 1) := by decide +kernel
theorem dX2_readKey_35 : decode cX2_readKey 35 = .ok (.aload_n 1, 1) := by decide +kernel
theorem dX2_readKey_36 : decode cX2_readKey 36 = .ok (.invokevirtual 94, 3) := by decide +kernel
theorem dX2_readKey_39 : decode cX2_readKey 39 = .ok (.aload_n 0, 1) := by decide +kernel
theorem dX2_readKey_40 : decode cX2_readKey 40 = .ok (.getfield 25, 3) := by decide +kernel
theorem dX2_readKey_43 : decode cX2_readKey 43 = .ok (.invokevirtual 98, 3) := by decide +kernel
theorem dX2_readKey_46 : decode cX2_readKey 46 = .ok (.ifCond .ne 5, 3) := by decide +kernel
theorem dX2_readKey_49 : decode cX2_readKey 49 = .ok (.iconst 0, 1) := by decide +kernel
theorem dX2_readKey_50 : decode cX2_readKey 50 = .ok (.ireturn, 1) := by decide +kernel
theorem dX2_readKey_51 : decode cX2_readKey 51 = .ok (.aload_n 1, 1) := by decide +kernel
theorem dX2_readKey_52 : decode cX2_readKey 52 = .ok (.aload_n 0, 1) := by decide +kernel
theorem dX2_readKey_53 : decode cX2_readKey 53 = .ok (.getfield 25, 3) := by decide +kernel
theorem dX2_readKey_56 : decode cX2_readKey 56 = .ok (.invokevirtual 102, 3) := by decide +kernel
theorem dX2_readKey_59 : decode cX2_readKey 59 = .ok (.aload_n 0, 1) := by decide +kernel
theorem dX2_readKey_60 : decode cX2_readKey 60 = .ok (.invokevirtual 46, 3) := by decide +kernel
theorem dX2_readKey_63 : decode cX2_readKey 63 = .ok (.iconst 1, 1) := by decide +kernel
theorem dX2_readKey_64 : decode cX2_readKey 64 = .ok (.ireturn, 1) := by decide +kernel
theorem dX2_toNextToken_0 : decode cX2_toNextToken 0 = .ok (.aload_n 0, 1) := by decide +kernel
theorem dX2_toNextToken_1 : decode cX2_toNextToken 1 = .ok (.aload_n 0, 1) := by decide +kernel
theorem dX2_toNextToken_2 : decode cX2_toNextToken 2 = .ok (.getfield 28, 3) := by decide +kernel
theorem dX2_toNextToken_5 : decode cX2_toNextToken 5 = .ok (.putfield 19, 3) := by decide +kernel
theorem dX2_toNextToken_8 : decode cX2_toNextToken 8 = .ok (.aload_n 0, 1) := by decide +kernel
theorem dX2_toNextToken_9 : decode cX2_toNextToken 9 = .ok (.getfield 19, 3) := by decide +kernel
theorem dX2_toNextToken_12 : decode cX2_toNextToken 12 = .ok (.aload_n 0, 1) := by decide +kernel
theorem dX2_toNextToken_13 : decode cX2_toNextToken 13 = .ok (.getfield 15, 3) := by decide +kernel
theorem dX2_toNextToken_16 : decode cX2_toNextToken 16 = .ok (.if_icmp .ge 29, 3) := by decide +kernel
theorem dX2_toNextToken_19 : decode cX2_toNextToken 19 = .ok (.aload_n 0, 1) := by decide +kernel
theorem dX2_toNextToken_20 : decode cX2_toNextToken 20 = .ok (.aload_n 0, 1) := by decide +kernel
theorem dX2_toNextToken_21 : decode cX2_toNextToken 21 = .ok (.getfield 19, 3) := by decide +kernel
theorem dX2_toNextToken_24 : decode cX2_toNextToken 24 = .ok (.invokevirtual 106, 3) := by decide +kernel
theorem dX2_toNextToken_27 : decode cX2_toNextToken 27 = .ok (.bipush 32, 2) := by decide +kernel
theorem dX2_toNextToken_29 : decode cX2_toNextToken 29 = .ok (.if_icmp .ne 16, 3) := by decide +kernel
theorem dX2_toNextToken_32 : decode cX2_toNextToken 32 = .ok (.aload_n 0, 1) := by decide +kernel
theorem dX2_toNextToken_33 : decode cX2_toNextToken 33 = .ok (.dup, 1) := by decide +kernel
theorem dX2_toNextToken_34 : decode cX2_toNextToken 34 = .ok (.getfield 19, 3) := by decide +kernel
theorem dX2_toNextToken_37 : decode cX2_toNextToken 37 = .ok (.iconst 1, 1) := by decide +kernel
theorem dX2_toNextToken_38 : decode cX2_toNextToken 38 = .ok (.iadd, 1) := by decide +kernel
theorem dX2_toNextToken_39 : decode cX2_toNextToken 39 = .ok (.putfield 19, 3) := by decide +kernel
theorem dX2_toNextToken_42 : decode cX2_toNextToken 42 = .ok (.goto (-34), 3) := by decide +kernel
theorem dX2_toNextToken_45 : decode cX2_toNextToken 45 = .ok (.aload_n 0, 1) := by decide +kernel
theorem dX2_toNextToken_46 : decode cX2_toNextToken 46 = .ok (.aload_n 0, 1) := by decide +kernel
theorem dX2_toNextToken_47 : decode cX2_toNextToken 47 = .ok (.getfield 19, 3) := by decide +kernel
theorem dX2_toNextToken_50 : decode cX2_toNextToken 50 = .ok (.putfield 28, 3) := by decide +kernel
theorem dX2_toNextToken_53 : decode cX2_toNextToken 53 = .ok (.aload_n 0, 1) := by decide +kernel
theorem dX2_toNextToken_54 : decode cX2_toNextToken 54 = .ok (.iconst 0, 1) := by decide +kernel
theorem dX2_toNextToken_55 : decode cX2_toNextToken 55 = .ok (.putfield 25, 3) := by decide +kernel
theorem dX2_toNextToken_58 : decode cX2_toNextToken 58 = .ok (.aload_n 0, 1) := by decide +kernel
theorem dX2_toNextToken_59 : decode cX2_toNextToken 59 = .ok (.getfield 28, 3) := by decide +kernel
theorem dX2_toNextToken_62 : decode cX2_toNextToken 62 = .ok (.aload_n 0, 1) := by decide +kernel
theorem dX2_toNextToken_63 : decode cX2_toNextToken 63 = .ok (.getfield 15, 3) := by decide +kernel
theorem dX2_toNextToken_66 : decode cX2_toNextToken 66 = .ok (.if_icmp .ge 47, 3) := by decide +kernel
theorem dX2_toNextToken_69 : decode cX2_toNextToken 69 = .ok (.aload_n 0, 1) := by decide +kernel
theorem dX2_toNextToken_70 : decode cX2_toNextToken 70 = .ok (.aload_n 0, 1) := by decide +kernel
theorem dX2_toNextToken_71 : decode cX2_toNextToken 71 = .ok (.getfield 28, 3) := by decide +kernel
theorem dX2_toNextToken_74 : decode cX2_toNextToken 74 = .ok (.invokevirtual 110, 3) := by decide +kernel
theorem dX2_toNextToken_77 : decode cX2_toNextToken 77 = .ok (.ifCond .lt 36, 3) := by decide +kernel
theorem dX2_toNextToken_80 : decode cX2_toNextToken 80 = .ok (.aload_n 0, 1) := by decide +kernel
theorem dX2_toNextToken_81 : decode cX2_toNextToken 81 = .ok (.aload_n 0, 1) := by decide +kernel
theorem dX2_toNextToken_82 : decode cX2_toNextToken 82 = .ok (.getfield 25, 3) := by decide +kernel
theorem dX2_toNextToken_85 : decode cX2_toNextToken 85 = .ok (.bipush 10, 2) := by decide +kernel
theorem dX2_toNextToken_87 : decode cX2_toNextToken 87 = .ok (.imul, 1) := by decide +kernel
theorem dX2_toNextToken_88 : decode cX2_toNextToken 88 = .ok (.aload_n 0, 1) := by decide +kernel
theorem dX2_toNextToken_89 : decode cX2_toNextToken 89 = .ok (.aload_n 0, 1) := by decide +kernel
theorem dX2_toNextToken_90 : decode cX2_toNextToken 90 = .ok (.getfield 28, 3) := by decide +kernel
theorem dX2_toNextToken_93 : decode cX2_toNextToken 93 = .ok (.invokevirtual 110, 3) := by decide +kernel
theorem dX2_toNextToken_96 : decode cX2_toNextToken 96 = .ok (.iadd, 1) := by decide +kernel
theorem dX2_toNextToken_97 : decode cX2_toNextToken 97 = .ok (.putfield 25, 3) := by decide +kernel
theorem dX2_toNextToken_100 : decode cX2_toNextToken 100 = .ok (.aload_n 0, 1) := by decide +kernel
theorem dX2_toNextToken_101 : decode cX2_toNextToken 101 = .ok (.dup, 1) := by decide +kernel
theorem dX2_toNextToken_102 : decode cX2_toNextToken 102 = .ok (.getfield 28, 3) := by decide +kernel
theorem dX2_toNextToken_105 : decode cX2_toNextToken 105 = .ok (.iconst 1, 1) := by decide +kernel
theorem dX2_toNextToken_106 : decode cX2_toNextToken 106 = .ok (.iadd, 1) := by decide +kernel
theorem dX2_toNextToken_107 : decode cX2_toNextToken 107 = .ok (.putfield 28, 3) := by decide +kernel
theorem dX2_toNextToken_110 : decode cX2_toNextToken 110 = .ok (.goto (-52), 3) := by decide +kernel
theorem dX2_toNextToken_113 : decode cX2_toNextToken 113 = .ok (.aload_n 0, 1) := by decide +kernel
theorem dX2_toNextToken_114 : decode cX2_toNextToken 114 = .ok (.getfield 28, 3) := by decide +kernel
theorem dX2_toNextToken_117 : decode cX2_toNextToken 117 = .ok (.aload_n 0, 1) := by decide +kernel
theorem dX2_toNextToken_118 : decode cX2_toNextToken 118 = .ok (.getfield 19, 3) := by decide +kernel
theorem dX2_toNextToken_121 : decode cX2_toNextToken 121 = .ok (.if_icmp .le 34, 3) := by decide +kernel
theorem dX2_toNextToken_124 : decode cX2_toNextToken 124 = .ok (.aload_n 0, 1) := by decide +kernel
theorem dX2_toNextToken_125 : decode cX2_toNextToken 125 = .ok (.aload_n 0, 1) := by decide +kernel
theorem dX2_toNextToken_126 : decode cX2_toNextToken 126 = .ok (.getfield 25, 3) := by decide +kernel
theorem dX2_toNextToken_129 : decode cX2_toNextToken 129 = .ok (.aload_n 0, 1) := by decide +kernel
theorem dX2_toNextToken_130 : decode cX2_toNextToken 130 = .ok (.getfield 28, 3) := by decide +kernel
theorem dX2_toNextToken_133 : decode cX2_toNextToken 133 = .ok (.aload_n 0, 1) := by decide +kernel
theorem dX2_toNextToken_134 : decode cX2_toNextToken 134 = .ok (.getfield 19, 3) := by decide +kernel
theorem dX2_toNextToken_137 : decode cX2_toNextToken 137 = .ok (.isub, 1) := by decide +kernel
theorem dX2_toNextToken_138 : decode cX2_toNextToken 138 = .ok (.invokestatic 113, 3) := by decide +kernel
theorem dX2_toNextToken_141 : decode cX2_toNextToken 141 = .ok (.ifCond .eq 8, 3) := by decide +kernel
theorem dX2_toNextToken_144 : decode cX2_toNextToken 144 = .ok (.bipush (-2), 2) := by decide +kernel
theorem dX2_toNextToken_146 : decode cX2_toNextToken 146 = .ok (.goto 5, 3) := by decide +kernel
theorem dX2_toNextToken_149 : decode cX2_toNextToken 149 = .ok (.bipush (-3), 2) := by decide +kernel
theorem dX2_toNextToken_151 : decode cX2_toNextToken 151 = .ok (.putfield 22, 3) := by decide +kernel
theorem dX2_toNextToken_154 : decode cX2_toNextToken 154 = .ok (.return_, 1) := by decide +kernel
theorem dX2_toNextToken_155 : decode cX2_toNextToken 155 = .ok (.aload_n 0, 1) := by decide +kernel
theorem dX2_toNextToken_156 : decode cX2_toNextToken 156 = .ok (.aload_n 0, 1) := by decide +kernel
theorem dX2_toNextToken_157 : decode cX2_toNextToken 157 = .ok (.aload_n 0, 1) := by decide +kernel
theorem dX2_toNextToken_158 : decode cX2_toNextToken 158 = .ok (.getfield 19, 3) := by decide +kernel
theorem dX2_toNextToken_161 : decode cX2_toNextToken 161 = .ok (.invokevirtual 106, 3) := by decide +kernel
theorem dX2_toNextToken_164 : decode cX2_toNextToken 164 = .ok (.putfield 22, 3) := by decide +kernel
theorem dX2_toNextToken_167 : decode cX2_toNextToken 167 = .ok (.aload_n 0, 1) := by decide +kernel
theorem dX2_toNextToken_168 : decode cX2_toNextToken 168 = .ok (.getfield 22, 3) := by decide +kernel
theorem dX2_toNextToken_171 : decode cX2_toNextToken 171 = .ok (.iconst (-1), 1) := by decide +kernel
theorem dX2_toNextToken_172 : decode cX2_toNextToken 172 = .ok (.if_icmp .eq 13, 3) := by decide +kernel
theorem dX2_toNextToken_175 : decode cX2_toNextToken 175 = .ok (.aload_n 0, 1) := by decide +kernel
theorem dX2_toNextToken_176 : decode cX2_toNextToken 176 = .ok (.dup, 1) := by decide +kernel
theorem dX2_toNextToken_177 : decode cX2_toNextToken 177 = .ok (.getfield 28, 3) := by decide +kernel
theorem dX2_toNextToken_180 : decode cX2_toNextToken 180 = .ok (.iconst 1, 1) := by decide +kernel
theorem dX2_toNextToken_181 : decode cX2_toNextToken 181 = .ok (.iadd, 1) := by decide +kernel
theorem dX2_toNextToken_182 : decode cX2_toNextToken 182 = .ok (.putfield 28, 3) := by decide +kernel
theorem dX2_toNextToken_185 : decode cX2_toNextToken 185 = .ok (.return_, 1) := by decide +kernel
theorem dX2_kindAt_0 : decode cX2_kindAt 0 = .ok (.iload_n 1, 1) := by decide +kernel
theorem dX2_kindAt_1 : decode cX2_kindAt 1 = .ok (.ifCond .lt 17, 3) := by decide +kernel
theorem dX2_kindAt_4 : decode cX2_kindAt 4 = .ok (.iload_n 1, 1) := by decide +kernel
theorem dX2_kindAt_5 : decode cX2_kindAt 5 = .ok (.aload_n 0, 1) := by decide +kernel
theorem dX2_kindAt_6 : decode cX2_kindAt 6 = .ok (.getfield 15, 3) := by decide +kernel
theorem dX2_kindAt_9 : decode cX2_kindAt 9 = .ok (.if_icmp .ge 9, 3) := by decide +kernel
theorem dX2_kindAt_12 : decode cX2_kindAt 12 = .ok (.iload_n 1, 1) := by decide +kernel
theorem dX2_kindAt_13 : decode cX2_kindAt 13 = .ok (.bipush 120, 2) := by decide +kernel
theorem dX2_kindAt_15 : decode cX2_kindAt 15 = .ok (.if_icmp .lt 5, 3) := by decide +kernel
theorem dX2_kindAt_18 : decode cX2_kindAt 18 = .ok (.iconst (-1), 1) := by decide +kernel
theorem dX2_kindAt_19 : decode cX2_kindAt 19 = .ok (.ireturn, 1) := by decide +kernel
theorem dX2_kindAt_20 : decode cX2_kindAt 20 = .ok (.aload_n 0, 1) := by decide +kernel
theorem dX2_kindAt_21 : decode cX2_kindAt 21 = .ok (.getfield 9, 3) := by decide +kernel
theorem dX2_kindAt_24 : decode cX2_kindAt 24 = .ok (.iload_n 1, 1) := by decide +kernel
theorem dX2_kindAt_25 : decode cX2_kindAt 25 = .ok (.iaload, 1) := by decide +kernel
theorem dX2_kindAt_26 : decode cX2_kindAt 26 = .ok (.istore_n 2, 1) := by decide +kernel
theorem dX2_kindAt_27 : decode cX2_kindAt 27 = .ok (.iload_n 2, 1) := by decide +kernel
theorem dX2_kindAt_28 : decode cX2_kindAt 28 = .ok (.lookupswitch 86 #[(32, 84), (45, 84), (59, 84), (98, 84), (106, 84), (107, 84), (109, 84), (116, 84), (119, 84)], 84) := by decide +kernel
theorem dX2_kindAt_112 : decode cX2_kindAt 112 = .ok (.iload_n 2, 1) := by decide +kernel
theorem dX2_kindAt_113 : decode cX2_kindAt 113 = .ok (.ireturn, 1) := by decide +kernel
theorem dX2_kindAt_114 : decode cX2_kindAt 114 = .ok (.bipush (-3), 2) := by decide +kernel
theorem dX2_kindAt_116 : decode cX2_kindAt 116 = .ok (.ireturn, 1) := by decide +kernel
theorem dX2_digitAt_0 : decode cX2_digitAt 0 = .ok (.iload_n 1, 1) := by decide +kernel
theorem dX2_digitAt_1 : decode cX2_digitAt 1 = .ok (.ifCond .lt 17, 3) := by decide +kernel
theorem dX2_digitAt_4 : decode cX2_digitAt 4 = .ok (.iload_n 1, 1) := by decide +kernel
theorem dX2_digitAt_5 : decode cX2_digitAt 5 = .ok (.aload_n 0, 1) := by decide +kernel
theorem dX2_digitAt_6 : decode cX2_digitAt 6 = .ok (.getfield 15, 3) := by decide +kernel
theorem dX2_digitAt_9 : decode cX2_digitAt 9 = .ok (.if_icmp .ge 9, 3) := by decide +kernel
theorem dX2_digitAt_12 : decode cX2_digitAt 12 = .ok (.iload_n 1, 1) := by decide +kernel
theorem dX2_digitAt_13 : decode cX2_digitAt 13 = .ok (.bipush 120, 2) := by decide +kernel
theorem dX2_digitAt_15 : decode cX2_digitAt 15 = .ok (.if_icmp .lt 6, 3) := by decide +kernel
theorem dX2_digitAt_18 : decode cX2_digitAt 18 = .ok (.bipush (-9), 2) := by decide +kernel
theorem dX2_digitAt_20 : decode cX2_digitAt 20 = .ok (.ireturn, 1) := by decide +kernel
theorem dX2_digitAt_21 : decode cX2_digitAt 21 = .ok (.aload_n 0, 1) := by decide +kernel
theorem dX2_digitAt_22 : decode cX2_digitAt 22 = .ok (.getfield 9, 3) := by decide +kernel
theorem dX2_digitAt_25 : decode cX2_digitAt 25 = .ok (.iload_n 1, 1) := by decide +kernel
theorem dX2_digitAt_26 : decode cX2_digitAt 26 = .ok (.iaload, 1) := by decide +kernel
theorem dX2_digitAt_27 : decode cX2_digitAt 27 = .ok (.istore_n 2, 1) := by decide +kernel
theorem dX2_digitAt_28 : decode cX2_digitAt 28 = .ok (.iload_n 2, 1) := by decide +kernel
theorem dX2_digitAt_29 : decode cX2_digitAt 29 = .ok (.bipush 48, 2) := by decide +kernel
theorem dX2_digitAt_31 : decode cX2_digitAt 31 = .ok (.if_icmp .lt 16, 3) := by decide +kernel
theorem dX2_digitAt_34 : decode cX2_digitAt 34 = .ok (.iload_n 2, 1) := by decide +kernel
theorem dX2_digitAt_35 : decode cX2_digitAt 35 = .ok (.bipush 57, 2) := by decide +kernel
theorem dX2_digitAt_37 : decode cX2_digitAt 37 = .ok (.if_icmp .gt 10, 3) := by decide +kernel
theorem dX2_digitAt_40 : decode cX2_digitAt 40 = .ok (.iload_n 2, 1) := by decide +kernel
theorem dX2_digitAt_41 : decode cX2_digitAt 41 = .ok (.bipush 48, 2) := by decide +kernel
theorem dX2_digitAt_43 : decode cX2_digitAt 43 = .ok (.isub, 1) := by decide +kernel
theorem dX2_digitAt_44 : decode cX2_digitAt 44 = .ok (.goto 5, 3) := by decide +kernel
theorem dX2_digitAt_47 : decode cX2_digitAt 47 = .ok (.bipush (-9), 2) := by decide +kernel
theorem dX2_digitAt_49 : decode cX2_digitAt 49 = .ok (.ireturn, 1) := by decide +kernel
theorem dX2_isNumber_0 : decode cX2_isNumber 0 = .ok (.iload_n 1, 1) := by decide +kernel
theorem dX2_isNumber_1 : decode cX2_isNumber 1 = .ok (.iconst 1, 1) := by decide +kernel
theorem dX2_isNumber_2 : decode cX2_isNumber 2 = .ok (.if_icmp .eq 14, 3) := by decide +kernel
theorem dX2_isNumber_5 : decode cX2_isNumber 5 = .ok (.iload_n 1, 1) := by decide +kernel
theorem dX2_isNumber_6 : decode cX2_isNumber 6 = .ok (.iconst 2, 1) := by decide +kernel
theorem dX2_isNumber_7 : decode cX2_isNumber 7 = .ok (.if_icmp .ne 13, 3) := by decide +kernel
theorem dX2_isNumber_10 : decode cX2_isNumber 10 = .ok (.iload_n 0, 1) := by decide +kernel
theorem dX2_isNumber_11 : decode cX2_isNumber 11 = .ok (.bipush 10, 2) := by decide +kernel
theorem dX2_isNumber_13 : decode cX2_isNumber 13 = .ok (.if_icmp .lt 7, 3) := by decide +kernel
theorem dX2_isNumber_16 : decode cX2_isNumber 16 = .ok (.iconst 1, 1) := by decide +kernel
theorem dX2_isNumber_17 : decode cX2_isNumber 17 = .ok (.goto 4, 3) := by decide +kernel
theorem dX2_isNumber_20 : decode cX2_isNumber 20 = .ok (.iconst 0, 1) := by decide +kernel
theorem dX2_isNumber_21 : decode cX2_isNumber 21 = .ok (.ireturn, 1) := by decide +kernel
theorem dX3_init_0 : decode cX3_init 0 = .ok (.aload_n 0, 1) := by decide +kernel
theorem dX3_init_1 : decode cX3_init 1 = .ok (.invokespecial 3, 3) := by decide +kernel
theorem dX3_init_4 : decode cX3_init 4 = .ok (.aload_n 0, 1) := by decide +kernel
theorem dX3_init_5 : decode cX3_init 5 = .ok (.bipush 6, 2) := by decide +kernel
theorem dX3_init_7 : decode cX3_init 7 = .ok (.anewarray 9, 3) := by decide +kernel
theorem dX3_init_10 : decode cX3_init 10 = .ok (.putfield 11, 3) := by decide +kernel
theorem dX3_init_13 : decode cX3_init 13 = .ok (.aload_n 0, 1) := by decide +kernel
theorem dX3_init_14 : decode cX3_init 14 = .ok (.iconst 5, 1) := by decide +kernel
theorem dX3_init_15 : decode cX3_init 15 = .ok (.newarray .int, 2) := by decide +kernel
theorem dX3_init_17 : decode cX3_init 17 = .ok (.putfield 17, 3) := by decide +kernel
theorem dX3_init_20 : decode cX3_init 20 = .ok (.aload_n 0, 1) := by decide +kernel
theorem dX3_init_21 : decode cX3_init 21 = .ok (.iconst 0, 1) := by decide +kernel
theorem dX3_init_22 : decode cX3_init 22 = .ok (.putfield 21, 3) := by decide +kernel
theorem dX3_init_25 : decode cX3_init 25 = .ok (.aload_n 0, 1) := by decide +kernel
theorem dX3_init_26 : decode cX3_init 26 = .ok (.iconst 0, 1) := by decide +kernel
theorem dX3_init_27 : decode cX3_init 27 = .ok (.putfield 25, 3) := by decide +kernel
theorem dX3_init_30 : decode cX3_init 30 = .ok (.aload_n 0, 1) := by decide +kernel
theorem dX3_init_31 : decode cX3_init 31 = .ok (.iconst 0, 1) := by decide +kernel
theorem dX3_init_32 : decode cX3_init 32 = .ok (.putfield 28, 3) := by decide +kernel
theorem dX3_init_35 : decode cX3_init 35 = .ok (.iconst 0, 1) := by decide +kernel
theorem dX3_init_36 : decode cX3_init 36 = .ok (.istore_n 1, 1) := by decide +kernel
theorem dX3_init_37 : decode cX3_init 37 = .ok (.iload_n 1, 1) := by decide +kernel
theorem dX3_init_38 : decode cX3_init 38 = .ok (.iconst 5, 1) := by decide +kernel
theorem dX3_init_39 : decode cX3_init 39 = .ok (.if_icmp .gt 22, 3) := by decide +kernel
theorem dX3_init_42 : decode cX3_init 42 = .ok (.aload_n 0, 1) := by decide +kernel
theorem dX3_init_43 : decode cX3_init 43 = .ok (.getfield 11, 3) := by decide +kernel
theorem dX3_init_46 : decode cX3_init 46 = .ok (.iload_n 1, 1) := by decide +kernel
theorem dX3_init_47 : decode cX3_init 47 = .ok (.new 9, 3) := by decide +kernel
theorem dX3_init_50 : decode cX3_init 50 = .ok (.dup, 1) := by decide +kernel
theorem dX3_init_51 : decode cX3_init 51 = .ok (.invokespecial 31, 3) := by decide +kernel
theorem dX3_init_54 : decode cX3_init 54 = .ok (.aastore, 1) := by decide +kernel
theorem dX3_init_55 : decode cX3_init 55 = .ok (.iinc 1 1, 3) := by decide +kernel
theorem dX3_init_58 : decode cX3_init 58 = .ok (.goto (-21), 3) := by decide +kernel
theorem dX3_init_61 : decode cX3_init 61 = .ok (.return_, 1) := by decide +kernel
theorem dX3_look_0 : decode cX3_look 0 = .ok (.aload_n 0, 1) := by decide +kernel
theorem dX3_look_1 : decode cX3_look 1 = .ok (.getfield 21, 3) := by decide +kernel
theorem dX3_look_4 : decode cX3_look 4 = .ok (.iload_n 2, 1) := by decide +kernel
theorem dX3_look_5 : decode cX3_look 5 = .ok (.if_icmp .ne 4, 3) := by decide +kernel
theorem dX3_look_8 : decode cX3_look 8 = .ok (.return_, 1) := by decide +kernel
theorem dX3_look_9 : decode cX3_look 9 = .ok (.aload_n 0, 1) := by decide +kernel
theorem dX3_look_10 : decode cX3_look 10 = .ok (.iload_n 2, 1) := by decide +kernel
theorem dX3_look_11 : decode cX3_look 11 = .ok (.iconst 5, 1) := by decide +kernel
theorem dX3_look_12 : decode cX3_look 12 = .ok (.invokestatic 32, 3) := by decide +kernel
theorem dX3_look_15 : decode cX3_look 15 = .ok (.putfield 21, 3) := by decide +kernel
theorem dX3_look_18 : decode cX3_look 18 = .ok (.aload_n 0, 1) := by decide +kernel
theorem dX3_look_19 : decode cX3_look 19 = .ok (.iconst 0, 1) := by decide +kernel
theorem dX3_look_20 : decode cX3_look 20 = .ok (.putfield 25, 3) := by decide +kernel
theorem dX3_look_23 : decode cX3_look 23 = .ok (.aload_n 0, 1) := by decide +kernel
theorem dX3_look_24 : decode cX3_look 24 = .ok (.iconst 0, 1) := by decide +kernel
theorem dX3_look_25 : decode cX3_look 25 = .ok (.putfield 28, 3) := by decide +kernel
theorem dX3_look_28 : decode cX3_look 28 = .ok (.aload_n 0, 1) := by decide +kernel
theorem dX3_look_29 : decode cX3_look 29 = .ok (.getfield 11, 3) := by decide +kernel
theorem dX3_look_32 : decode cX3_look 32 = .ok (.iconst 0, 1) := by decide +kernel
theorem dX3_look_33 : decode cX3_look 33 = .ok (.aaload, 1) := by decide +kernel
theorem dX3_look_34 : decode cX3_look 34 = .ok (.aload_n 1, 1) := by decide +kernel
theorem dX3_look_35 : decode cX3_look 35 = .ok (.invokevirtual 38, 3) := by decide +kernel
theorem dX3_look_38 : decode cX3_look 38 = .ok (.invokevirtual 44, 3) := by decide +kernel
theorem dX3_look_41 : decode cX3_look 41 = .ok (.aload_n 0, 1) := by decide +kernel
theorem dX3_look_42 : decode cX3_look 42 = .ok (.aload_n 1, 1) := by decide +kernel
theorem dX3_look_43 : decode cX3_look 43 = .ok (.iconst 0, 1) := by decide +kernel
theorem dX3_look_44 : decode cX3_look 44 = .ok (.iconst 0, 1) := by decide +kernel
theorem dX3_look_45 : decode cX3_look 45 = .ok (.invokestatic 48, 3) := by decide +kernel
theorem dX3_look_48 : decode cX3_look 48 = .ok (.return_, 1) := by decide +kernel
theorem dX3_extend_0 : decode cX3_extend 0 = .ok (.iload_n 2, 1) := by decide +kernel
theorem dX3_extend_1 : decode cX3_extend 1 = .ok (.ifCond .lt 16, 3) := by decide +kernel
theorem dX3_extend_4 : decode cX3_extend 4 = .ok (.iload_n 2, 1) := by decide +kernel
theorem dX3_extend_5 : decode cX3_extend 5 = .ok (.aload_n 0, 1) := by decide +kernel
theorem dX3_extend_6 : decode cX3_extend 6 = .ok (.getfield 21, 3) := by decide +kernel
theorem dX3_extend_9 : decode cX3_extend 9 = .ok (.if_icmp .ge 8, 3) := by decide +kernel
theorem dX3_extend_12 : decode cX3_extend 12 = .ok (.iload_n 2, 1) := by decide +kernel
theorem dX3_extend_13 : decode cX3_extend 13 = .ok (.iconst 5, 1) := by decide +kernel
theorem dX3_extend_14 : decode cX3_extend 14 = .ok (.if_icmp .lt 9, 3) := by decide +kernel
theorem dX3_extend_17 : decode cX3_extend 17 = .ok (.aload_n 0, 1) := by decide +kernel
theorem dX3_extend_18 : decode cX3_extend 18 = .ok (.iload_n 3, 1) := by decide +kernel
theorem dX3_extend_19 : decode cX3_extend 19 = .ok (.invokevirtual 52, 3) := by decide +kernel
theorem dX3_extend_22 : decode cX3_extend 22 = .ok (.return_, 1) := by decide +kernel
theorem dX3_extend_23 : decode cX3_extend 23 = .ok (.aload_n 0, 1) := by decide +kernel
theorem dX3_extend_24 : decode cX3_extend 24 = .ok (.getfield 11, 3) := by decide +kernel
theorem dX3_extend_27 : decode cX3_extend 27 = .ok (.iload_n 2, 1) := by decide +kernel
theorem dX3_extend_28 : decode cX3_extend 28 = .ok (.aaload, 1) := by decide +kernel
theorem dX3_extend_29 : decode cX3_extend 29 = .ok (.astore 4, 2) := by decide +kernel
theorem dX3_extend_31 : decode cX3_extend 31 = .ok (.aload_n 0, 1) := by decide +kernel
theorem dX3_extend_32 : decode cX3_extend 32 = .ok (.getfield 11, 3) := by decide +kernel
theorem dX3_extend_35 : decode cX3_extend 35 = .ok (.iload_n 2, 1) := by decide +kernel
theorem dX3_extend_36 : decode cX3_extend 36 = .ok (.iconst 1, 1) := by decide +kernel
theorem dX3_extend_37 : decode cX3_extend 37 = .ok (.iadd, 1) := by decide +kernel
theorem dX3_extend_38 : decode cX3_extend 38 = .ok (.aaload, 1) := by decide +kernel
theorem dX3_extend_39 : decode cX3_extend 39 = .ok (.astore 5, 2) := by decide +kernel
theorem dX3_extend_41 : decode cX3_extend 41 = .ok (.iconst 0, 1) := by decide +kernel
theorem dX3_extend_42 : decode cX3_extend 42 = .ok (.istore 6, 2) := by decide +kernel
theorem dX3_extend_44 : decode cX3_extend 44 = .ok (.iload 6, 2) := by decide +kernel
theorem dX3_extend_46 : decode cX3_extend 46 = .ok (.bipush 8, 2) := by decide +kernel
theorem dX3_extend_48 : decode cX3_extend 48 = .ok (.if_icmp .ge 74, 3) := by decide +kernel
theorem dX3_extend_51 : decode cX3_extend 51 = .ok (.aload_n 1, 1) := by decide +kernel
theorem dX3_extend_52 : decode cX3_extend 52 = .ok (.aload 4, 2) := by decide +kernel
theorem dX3_extend_54 : decode cX3_extend 54 = .ok (.iload 6, 2) := by decide +kernel
theorem dX3_extend_56 : decode cX3_extend 56 = .ok (.invokevirtual 56, 3) := by decide +kernel
theorem dX3_extend_59 : decode cX3_extend 59 = .ok (.ifCond .eq 57, 3) := by decide +kernel
theorem dX3_extend_62 : decode cX3_extend 62 = .ok (.aload 5, 2) := by decide +kernel
theorem dX3_extend_64 : decode cX3_extend 64 = .ok (.aload 4, 2) := by decide +kernel
theorem dX3_extend_66 : decode cX3_extend 66 = .ok (.invokevirtual 44, 3) := by decide +kernel
theorem dX3_extend_69 : decode cX3_extend 69 = .ok (.aload 5, 2) := by decide +kernel
theorem dX3_extend_71 : decode cX3_extend 71 = .ok (.iload 6, 2) := by decide +kernel
theorem dX3_extend_73 : decode cX3_extend 73 = .ok (.aload_n 1, 1) := by decide +kernel
theorem dX3_extend_74 : decode cX3_extend 74 = .ok (.getfield 60, 3) := by decide +kernel
theorem dX3_extend_77 : decode cX3_extend 77 = .ok (.invokevirtual 63, 3) := by decide +kernel
theorem dX3_extend_80 : decode cX3_extend 80 = .ok (.iload_n 3, 1) := by decide +kernel
theorem dX3_extend_81 : decode cX3_extend 81 = .ok (.aload_n 1, 1) := by decide +kernel
theorem dX3_extend_82 : decode cX3_extend 82 = .ok (.aload 5, 2) := by decide +kernel
theorem dX3_extend_84 : decode cX3_extend 84 = .ok (.invokevirtual 67, 3) := by decide +kernel
theorem dX3_extend_87 : decode cX3_extend 87 = .ok (.iadd, 1) := by decide +kernel
theorem dX3_extend_88 : decode cX3_extend 88 = .ok (.istore 7, 2) := by decide +kernel
theorem dX3_extend_90 : decode cX3_extend 90 = .ok (.aload_n 0, 1) := by decide +kernel
theorem dX3_extend_91 : decode cX3_extend 91 = .ok (.getfield 25, 3) := by decide +kernel
theorem dX3_extend_94 : decode cX3_extend 94 = .ok (.ifCond .eq 12, 3) := by decide +kernel
theorem dX3_extend_97 : decode cX3_extend 97 = .ok (.iload 7, 2) := by decide +kernel
theorem dX3_extend_99 : decode cX3_extend 99 = .ok (.aload_n 0, 1) := by decide +kernel
theorem dX3_extend_100 : decode cX3_extend 100 = .ok (.getfield 28, 3) := by decide +kernel
theorem dX3_extend_103 : decode cX3_extend 103 = .ok (.if_icmp .gt 13, 3) := by decide +kernel
theorem dX3_extend_106 : decode cX3_extend 106 = .ok (.aload_n 0, 1) := by decide +kernel
theorem dX3_extend_107 : decode cX3_extend 107 = .ok (.aload_n 1, 1) := by decide +kernel
theorem dX3_extend_108 : decode cX3_extend 108 = .ok (.iload_n 2, 1) := by decide +kernel
theorem dX3_extend_109 : decode cX3_extend 109 = .ok (.iconst 1, 1) := by decide +kernel
theorem dX3_extend_110 : decode cX3_extend 110 = .ok (.iadd, 1) := by decide +kernel
theorem dX3_extend_111 : decode cX3_extend 111 = .ok (.iload 7, 2) := by decide +kernel
theorem dX3_extend_113 : decode cX3_extend 113 = .ok (.invokestatic 48, 3) := by decide +kernel
theorem dX3_extend_116 : decode cX3_extend 116 = .ok (.iinc 6 1, 3) := by decide +kernel
theorem dX3_extend_119 : decode cX3_extend 119 = .ok (.goto (-75), 3) := by decide +kernel
theorem dX3_extend_122 : decode cX3_extend 122 = .ok (.return_, 1) := by decide +kernel
theorem dX3_note_0 : decode cX3_note 0 = .ok (.aload_n 0, 1) := by decide +kernel
theorem dX3_note_1 : decode cX3_note 1 = .ok (.getfield 25, 3) := by decide +kernel
theorem dX3_note_4 : decode cX3_note 4 = .ok (.ifCond .le 22, 3) := by decide +kernel
theorem dX3_note_7 : decode cX3_note 7 = .ok (.iload_n 1, 1) := by decide +kernel
theorem dX3_note_8 : decode cX3_note 8 = .ok (.aload_n 0, 1) := by decide +kernel
theorem dX3_note_9 : decode cX3_note 9 = .ok (.getfield 28, 3) := by decide +kernel
theorem dX3_note_12 : decode cX3_note 12 = .ok (.if_icmp .ne 14, 3) := by decide +kernel
theorem dX3_note_15 : decode cX3_note 15 = .ok (.aload_n 0, 1) := by decide +kernel
theorem dX3_note_16 : decode cX3_note 16 = .ok (.dup, 1) := by decide +kernel
theorem dX3_note_17 : decode cX3_note 17 = .ok (.getfield 25, 3) := by decide +kernel
theorem dX3_note_20 : decode cX3_note 20 = .ok (.iconst 1, 1) := by decide +kernel
theorem dX3_note_21 : decode cX3_note 21 = .ok (.iadd, 1) := by decide +kernel
theorem dX3_note_22 : decode cX3_note 22 = .ok (.putfield 25, 3) := by decide +kernel
theorem dX3_note_25 : decode cX3_note 25 = .ok (.return_, 1) := by decide +kernel
theorem dX3_note_26 : decode cX3_note 26 = .ok (.aload_n 0, 1) := by decide +kernel
theorem dX3_note_27 : decode cX3_note 27 = .ok (.iconst 1, 1) := by decide +kernel
theorem dX3_note_28 : decode cX3_note 28 = .ok (.putfield 25, 3) := by decide +kernel
theorem dX3_note_31 : decode cX3_note 31 = .ok (.aload_n 0, 1) := by decide +kernel
theorem dX3_note_32 : decode cX3_note 32 = .ok (.iload_n 1, 1) := by decide +kernel
theorem dX3_note_33 : decode cX3_note 33 = .ok (.putfield 28, 3) := by decide +kernel
theorem dX3_note_36 : decode cX3_note 36 = .ok (.iconst 0, 1) := by decide +kernel
theorem dX3_note_37 : decode cX3_note 37 = .ok (.istore_n 2, 1) := by decide +kernel
theorem dX3_note_38 : decode cX3_note 38 = .ok (.iload_n 2, 1) := by decide +kernel
theorem dX3_note_39 : decode cX3_note 39 = .ok (.aload_n 0, 1) := by decide +kernel
theorem dX3_note_40 : decode cX3_note 40 = .ok (.getfield 21, 3) := by decide +kernel
theorem dX3_note_43 : decode cX3_note 43 = .ok (.if_icmp .ge 31, 3) := by decide +kernel
theorem dX3_note_46 : decode cX3_note 46 = .ok (.iload_n 2, 1) := by decide +kernel
theorem dX3_note_47 : decode cX3_note 47 = .ok (.iconst 5, 1) := by decide +kernel
theorem dX3_note_48 : decode cX3_note 48 = .ok (.if_icmp .ge 26, 3) := by decide +kernel
theorem dX3_note_51 : decode cX3_note 51 = .ok (.aload_n 0, 1) := by decide +kernel
theorem dX3_note_52 : decode cX3_note 52 = .ok (.getfield 17, 3) := by decide +kernel
theorem dX3_note_55 : decode cX3_note 55 = .ok (.iload_n 2, 1) := by decide +kernel
theorem dX3_note_56 : decode cX3_note 56 = .ok (.aload_n 0, 1) := by decide +kernel
theorem dX3_note_57 : decode cX3_note 57 = .ok (.getfield 11, 3) := by decide +kernel
theorem dX3_note_60 : decode cX3_note 60 = .ok (.iload_n 2, 1) := by decide +kernel
theorem dX3_note_61 : decode cX3_note 61 = .ok (.iconst 1, 1) := by decide +kernel
theorem dX3_note_62 : decode cX3_note 62 = .ok (.iadd, 1) := by decide +kernel
theorem dX3_note_63 : decode cX3_note 63 = .ok (.aaload, 1) := by decide +kernel
theorem dX3_note_64 : decode cX3_note 64 = .ok (.getfield 71, 3) := by decide +kernel
theorem dX3_note_67 : decode cX3_note 67 = .ok (.iastore, 1) := by decide +kernel
theorem dX3_note_68 : decode cX3_note 68 = .ok (.iinc 2 1, 3) := by decide +kernel
theorem dX3_note_71 : decode cX3_note 71 = .ok (.goto (-33), 3) := by decide +kernel
theorem dX3_note_74 : decode cX3_note 74 = .ok (.return_, 1) := by decide +kernel
theorem dX4_init_0 : decode cX4_init 0 = .ok (.aload_n 0, 1) := by decide +kernel
theorem dX4_init_1 : decode cX4_init 1 = .ok (.invokespecial 3, 3) := by decide +kernel
theorem dX4_init_4 : decode cX4_init 4 = .ok (.aload_n 0, 1) := by decide +kernel
theorem dX4_init_5 : decode cX4_init 5 = .ok (.iconst 0, 1) := by decide +kernel
theorem dX4_init_6 : decode cX4_init 6 = .ok (.putfield 9, 3) := by decide +kernel
theorem dX4_init_9 : decode cX4_init 9 = .ok (.aload_n 0, 1) := by decide +kernel
theorem dX4_init_10 : decode cX4_init 10 = .ok (.bipush (-9), 2) := by decide +kernel
theorem dX4_init_12 : decode cX4_init 12 = .ok (.putfield 15, 3) := by decide +kernel
theorem dX4_init_15 : decode cX4_init 15 = .ok (.aload_n 0, 1) := by decide +kernel
theorem dX4_init_16 : decode cX4_init 16 = .ok (.iconst 0, 1) := by decide +kernel
theorem dX4_init_17 : decode cX4_init 17 = .ok (.putfield 18, 3) := by decide +kernel
theorem dX4_init_20 : decode cX4_init 20 = .ok (.aload_n 0, 1) := by decide +kernel
theorem dX4_init_21 : decode cX4_init 21 = .ok (.iconst 0, 1) := by decide +kernel
theorem dX4_init_22 : decode cX4_init 22 = .ok (.putfield 21, 3) := by decide +kernel
theorem dX4_init_25 : decode cX4_init 25 = .ok (.aload_n 0, 1) := by decide +kernel
theorem dX4_init_26 : decode cX4_init 26 = .ok (.iconst 0, 1) := by decide +kernel
theorem dX4_init_27 : decode cX4_init 27 = .ok (.putfield 24, 3) := by decide +kernel
theorem dX4_init_30 : decode cX4_init 30 = .ok (.aload_n 0, 1) := by decide +kernel
theorem dX4_init_31 : decode cX4_init 31 = .ok (.iconst 0, 1) := by decide +kernel
theorem dX4_init_32 : decode cX4_init 32 = .ok (.putfield 27, 3) := by decide +kernel
theorem dX4_init_35 : decode cX4_init 35 = .ok (.return_, 1) := by decide +kernel
theorem dX4_copy_0 : decode cX4_copy 0 = .ok (.aload_n 0, 1) := by decide +kernel
theorem dX4_copy_1 : decode cX4_copy 1 = .ok (.aload_n 1, 1) := by decide +kernel
theorem dX4_copy_2 : decode cX4_copy 2 = .ok (.getfield 9, 3) := by decide +kernel
theorem dX4_copy_5 : decode cX4_copy 5 = .ok (.putfield 9, 3) := by decide +kernel
theorem dX4_copy_8 : decode cX4_copy 8 = .ok (.aload_n 0, 1) := by decide +kernel
theorem dX4_copy_9 : decode cX4_copy 9 = .ok (.aload_n 1, 1) := by decide +kernel
theorem dX4_copy_10 : decode cX4_copy 10 = .ok (.getfield 15, 3) := by decide +kernel
theorem dX4_copy_13 : decode cX4_copy 13 = .ok (.putfield 15, 3) := by decide +kernel
theorem dX4_copy_16 : decode cX4_copy 16 = .ok (.aload_n 0, 1) := by decide +kernel
theorem dX4_copy_17 : decode cX4_copy 17 = .ok (.aload_n 1, 1) := by decide +kernel
theorem dX4_copy_18 : decode cX4_copy 18 = .ok (.getfield 18, 3) := by decide +kernel
theorem dX4_copy_21 : decode cX4_copy 21 = .ok (.putfield 18, 3) := by decide +kernel
theorem dX4_copy_24 : decode cX4_copy 24 = .ok (.aload_n 0, 1) := by decide +kernel
theorem dX4_copy_25 : decode cX4_copy 25 = .ok (.aload_n 1, 1) := by decide +kernel
theorem dX4_copy_26 : decode cX4_copy 26 = .ok (.getfield 21, 3) := by decide +kernel
theorem dX4_copy_29 : decode cX4_copy 29 = .ok (.putfield 21, 3) := by decide +kernel
theorem dX4_copy_32 : decode cX4_copy 32 = .ok (.aload_n 0, 1) := by decide +kernel
theorem dX4_copy_33 : decode cX4_copy 33 = .ok (.aload_n 1, 1) := by decide +kernel
theorem dX4_copy_34 : decode cX4_copy 34 = .ok (.getfield 24, 3) := by decide +kernel
theorem dX4_copy_37 : decode cX4_copy 37 = .ok (.putfield 24, 3) := by decide +kernel
theorem dX4_copy_40 : decode cX4_copy 40 = .ok (.aload_n 0, 1) := by decide +kernel
theorem dX4_copy_41 : decode cX4_copy 41 = .ok (.aload_n 1, 1) := by decide +kernel
theorem dX4_copy_42 : decode cX4_copy 42 = .ok (.getfield 27, 3) := by decide +kernel
theorem dX4_copy_45 : decode cX4_copy 45 = .ok (.putfield 27, 3) := by decide +kernel
theorem dX4_copy_48 : decode cX4_copy 48 = .ok (.return_, 1) := by decide +kernel
theorem dX4_advance_0 : decode cX4_advance 0 = .ok (.aload_n 0, 1) := by decide +kernel
theorem dX4_advance_1 : decode cX4_advance 1 = .ok (.dup, 1) := by decide +kernel
theorem dX4_advance_2 : decode cX4_advance 2 = .ok (.getfield 9, 3) := by decide +kernel
theorem dX4_advance_5 : decode cX4_advance 5 = .ok (.iconst 1, 1) := by decide +kernel
theorem dX4_advance_6 : decode cX4_advance 6 = .ok (.iadd, 1) := by decide +kernel
theorem dX4_advance_7 : decode cX4_advance 7 = .ok (.putfield 9, 3) := by decide +kernel
theorem dX4_advance_10 : decode cX4_advance 10 = .ok (.aload_n 0, 1) := by decide +kernel
theorem dX4_advance_11 : decode cX4_advance 11 = .ok (.iload_n 1, 1) := by decide +kernel
theorem dX4_advance_12 : decode cX4_advance 12 = .ok (.putfield 15, 3) := by decide +kernel
theorem dX4_advance_15 : decode cX4_advance 15 = .ok (.aload_n 0, 1) := by decide +kernel
theorem dX4_advance_16 : decode cX4_advance 16 = .ok (.dup, 1) := by decide +kernel
theorem dX4_advance_17 : decode cX4_advance 17 = .ok (.getfield 18, 3) := by decide +kernel
theorem dX4_advance_20 : decode cX4_advance 20 = .ok (.iload_n 2, 1) := by decide +kernel
theorem dX4_advance_21 : decode cX4_advance 21 = .ok (.iload_n 1, 1) := by decide +kernel
theorem dX4_advance_22 : decode cX4_advance 22 = .ok (.invokestatic 30, 3) := by decide +kernel
theorem dX4_advance_25 : decode cX4_advance 25 = .ok (.imul, 1) := by decide +kernel
theorem dX4_advance_26 : decode cX4_advance 26 = .ok (.iadd, 1) := by decide +kernel
theorem dX4_advance_27 : decode cX4_advance 27 = .ok (.putfield 18, 3) := by decide +kernel
theorem dX4_advance_30 : decode cX4_advance 30 = .ok (.aload_n 0, 1) := by decide +kernel
theorem dX4_advance_31 : decode cX4_advance 31 = .ok (.dup, 1) := by decide +kernel
theorem dX4_advance_32 : decode cX4_advance 32 = .ok (.getfield 21, 3) := by decide +kernel
theorem dX4_advance_35 : decode cX4_advance 35 = .ok (.iload_n 2, 1) := by decide +kernel
theorem dX4_advance_36 : decode cX4_advance 36 = .ok (.iload_n 1, 1) := by decide +kernel
theorem dX4_advance_37 : decode cX4_advance 37 = .ok (.invokestatic 34, 3) := by decide +kernel
theorem dX4_advance_40 : decode cX4_advance 40 = .ok (.imul, 1) := by decide +kernel
theorem dX4_advance_41 : decode cX4_advance 41 = .ok (.iadd, 1) := by decide +kernel
theorem dX4_advance_42 : decode cX4_advance 42 = .ok (.putfield 21, 3) := by decide +kernel
theorem dX4_advance_45 : decode cX4_advance 45 = .ok (.aload_n 0, 1) := by decide +kernel
theorem dX4_advance_46 : decode cX4_advance 46 = .ok (.dup, 1) := by decide +kernel
theorem dX4_advance_47 : decode cX4_advance 47 = .ok (.getfield 24, 3) := by decide +kernel
theorem dX4_advance_50 : decode cX4_advance 50 = .ok (.aload_n 0, 1) := by decide +kernel
theorem dX4_advance_51 : decode cX4_advance 51 = .ok (.getfield 18, 3) := by decide +kernel
theorem dX4_advance_54 : decode cX4_advance 54 = .ok (.iadd, 1) := by decide +kernel
theorem dX4_advance_55 : decode cX4_advance 55 = .ok (.putfield 24, 3) := by decide +kernel
theorem dX4_advance_58 : decode cX4_advance 58 = .ok (.aload_n 0, 1) := by decide +kernel
theorem dX4_advance_59 : decode cX4_advance 59 = .ok (.dup, 1) := by decide +kernel
theorem dX4_advance_60 : decode cX4_advance 60 = .ok (.getfield 27, 3) := by decide +kernel
theorem dX4_advance_63 : decode cX4_advance 63 = .ok (.aload_n 0, 1) := by decide +kernel
theorem dX4_advance_64 : decode cX4_advance 64 = .ok (.getfield 21, 3) := by decide +kernel
theorem dX4_advance_67 : decode cX4_advance 67 = .ok (.iadd, 1) := by decide +kernel
theorem dX4_advance_68 : decode cX4_advance 68 = .ok (.putfield 27, 3) := by decide +kernel
theorem dX4_advance_71 : decode cX4_advance 71 = .ok (.return_, 1) := by decide +kernel
