theorem dX6_init_0 : decode cX6_init 0 = .ok (.aload_n 0, 1) := by decide +kernel
theorem dX6_init_1 : decode cX6_init 1 = .ok (.invokespecial 1, 3) := by decide +kernel
theorem dX6_init_4 : decode cX6_init 4 = .ok (.aload_n 0, 1) := by decide +kernel
theorem dX6_init_5 : decode cX6_init 5 = .ok (.bipush 53, 2) := by decide +kernel
theorem dX6_init_7 : decode cX6_init 7 = .ok (.newarray .int, 2) := by decide +kernel
theorem dX6_init_9 : decode cX6_init 9 = .ok (.putfield 7, 3) := by decide +kernel
theorem dX6_init_12 : decode cX6_init 12 = .ok (.aload_n 0, 1) := by decide +kernel
theorem dX6_init_13 : decode cX6_init 13 = .ok (.sipush 636, 3) := by decide +kernel
theorem dX6_init_16 : decode cX6_init 16 = .ok (.newarray .int, 2) := by decide +kernel
theorem dX6_init_18 : decode cX6_init 18 = .ok (.putfield 13, 3) := by decide +kernel
theorem dX6_init_21 : decode cX6_init 21 = .ok (.aload_n 0, 1) := by decide +kernel
theorem dX6_init_22 : decode cX6_init 22 = .ok (.iconst 4, 1) := by decide +kernel
theorem dX6_init_23 : decode cX6_init 23 = .ok (.newarray .int, 2) := by decide +kernel
theorem dX6_init_25 : decode cX6_init 25 = .ok (.putfield 16, 3) := by decide +kernel
theorem dX6_init_28 : decode cX6_init 28 = .ok (.aload_n 0, 1) := by decide +kernel
theorem dX6_init_29 : decode cX6_init 29 = .ok (.iconst 4, 1) := by decide +kernel
theorem dX6_init_30 : decode cX6_init 30 = .ok (.newarray .int, 2) := by decide +kernel
theorem dX6_init_32 : decode cX6_init 32 = .ok (.putfield 19, 3) := by decide +kernel
theorem dX6_init_35 : decode cX6_init 35 = .ok (.aload_n 0, 1) := by decide +kernel
theorem dX6_init_36 : decode cX6_init 36 = .ok (.iconst 2, 1) := by decide +kernel
theorem dX6_init_37 : decode cX6_init 37 = .ok (.newarray .boolean, 2) := by decide +kernel
theorem dX6_init_39 : decode cX6_init 39 = .ok (.putfield 22, 3) := by decide +kernel
theorem dX6_init_42 : decode cX6_init 42 = .ok (.aload_n 0, 1) := by decide +kernel
theorem dX6_init_43 : decode cX6_init 43 = .ok (.bipush 106, 2) := by decide +kernel
theorem dX6_init_45 : decode cX6_init 45 = .ok (.newarray .int, 2) := by decide +kernel
theorem dX6_init_47 : decode cX6_init 47 = .ok (.putfield 26, 3) := by decide +kernel
theorem dX6_init_50 : decode cX6_init 50 = .ok (.aload_n 0, 1) := by decide +kernel
theorem dX6_init_51 : decode cX6_init 51 = .ok (.bipush 18, 2) := by decide +kernel
theorem dX6_init_53 : decode cX6_init 53 = .ok (.newarray .int, 2) := by decide +kernel
theorem dX6_init_55 : decode cX6_init 55 = .ok (.putfield 29, 3) := by decide +kernel
theorem dX6_init_58 : decode cX6_init 58 = .ok (.aload_n 0, 1) := by decide +kernel
theorem dX6_init_59 : decode cX6_init 59 = .ok (.bipush 18, 2) := by decide +kernel
theorem dX6_init_61 : decode cX6_init 61 = .ok (.newarray .int, 2) := by decide +kernel
theorem dX6_init_63 : decode cX6_init 63 = .ok (.putfield 32, 3) := by decide +kernel
theorem dX6_init_66 : decode cX6_init 66 = .ok (.aload_n 0, 1) := by decide +kernel
theorem dX6_init_67 : decode cX6_init 67 = .ok (.bipush 18, 2) := by decide +kernel
theorem dX6_init_69 : decode cX6_init 69 = .ok (.newarray .int, 2) := by decide +kernel
theorem dX6_init_71 : decode cX6_init 71 = .ok (.putfield 35, 3) := by decide +kernel
theorem dX6_init_74 : decode cX6_init 74 = .ok (.aload_n 0, 1) := by decide +kernel
theorem dX6_init_75 : decode cX6_init 75 = .ok (.bipush 18, 2) := by decide +kernel
theorem dX6_init_77 : decode cX6_init 77 = .ok (.newarray .int, 2) := by decide +kernel
theorem dX6_init_79 : decode cX6_init 79 = .ok (.putfield 38, 3) := by decide +kernel
theorem dX6_init_82 : decode cX6_init 82 = .ok (.aload_n 0, 1) := by decide +kernel
theorem dX6_init_83 : decode cX6_init 83 = .ok (.bipush 18, 2) := by decide +kernel
theorem dX6_init_85 : decode cX6_init 85 = .ok (.newarray .int, 2) := by decide +kernel
theorem dX6_init_87 : decode cX6_init 87 = .ok (.putfield 41, 3) := by decide +kernel
theorem dX6_init_90 : decode cX6_init 90 = .ok (.aload_n 0, 1) := by decide +kernel
theorem dX6_init_91 : decode cX6_init 91 = .ok (.bipush 120, 2) := by decide +kernel
theorem dX6_init_93 : decode cX6_init 93 = .ok (.newarray .int, 2) := by decide +kernel
theorem dX6_init_95 : decode cX6_init 95 = .ok (.putfield 44, 3) := by decide +kernel
theorem dX6_init_98 : decode cX6_init 98 = .ok (.aload_n 0, 1) := by decide +kernel
theorem dX6_init_99 : decode cX6_init 99 = .ok (.bipush 53, 2) := by decide +kernel
theorem dX6_init_101 : decode cX6_init 101 = .ok (.newarray .int, 2) := by decide +kernel
theorem dX6_init_103 : decode cX6_init 103 = .ok (.putfield 47, 3) := by decide +kernel
theorem dX6_init_106 : decode cX6_init 106 = .ok (.aload_n 0, 1) := by decide +kernel
theorem dX6_init_107 : decode cX6_init 107 = .ok (.getfield 7, 3) := by decide +kernel
theorem dX6_init_110 : decode cX6_init 110 = .ok (.invokestatic 50, 3) := by decide +kernel
theorem dX6_init_113 : decode cX6_init 113 = .ok (.aload_n 0, 1) := by decide +kernel
theorem dX6_init_114 : decode cX6_init 114 = .ok (.iconst 1, 1) := by decide +kernel
theorem dX6_init_115 : decode cX6_init 115 = .ok (.putfield 54, 3) := by decide +kernel
theorem dX6_init_118 : decode cX6_init 118 = .ok (.return_, 1) := by decide +kernel
theorem dX6_in_0 : decode cX6_in 0 = .ok (.iload_n 0, 1) := by decide +kernel
theorem dX6_in_1 : decode cX6_in 1 = .ok (.iload_n 1, 1) := by decide +kernel
theorem dX6_in_2 : decode cX6_in 2 = .ok (.if_icmp .lt 12, 3) := by decide +kernel
theorem dX6_in_5 : decode cX6_in 5 = .ok (.iload_n 0, 1) := by decide +kernel
theorem dX6_in_6 : decode cX6_in 6 = .ok (.iload_n 2, 1) := by decide +kernel
theorem dX6_in_7 : decode cX6_in 7 = .ok (.if_icmp .gt 7, 3) := by decide +kernel
theorem dX6_in_10 : decode cX6_in 10 = .ok (.iconst 1, 1) := by decide +kernel
theorem dX6_in_11 : decode cX6_in 11 = .ok (.goto 4, 3) := by decide +kernel
theorem dX6_in_14 : decode cX6_in 14 = .ok (.iconst 0, 1) := by decide +kernel
theorem dX6_in_15 : decode cX6_in 15 = .ok (.ireturn, 1) := by decide +kernel
theorem dX6_has_0 : decode cX6_has 0 = .ok (.iload_n 0, 1) := by decide +kernel
theorem dX6_has_1 : decode cX6_has 1 = .ok (.iload_n 1, 1) := by decide +kernel
theorem dX6_has_2 : decode cX6_has 2 = .ok (.ishr, 1) := by decide +kernel
theorem dX6_has_3 : decode cX6_has 3 = .ok (.iconst 1, 1) := by decide +kernel
theorem dX6_has_4 : decode cX6_has 4 = .ok (.iand, 1) := by decide +kernel
theorem dX6_has_5 : decode cX6_has 5 = .ok (.iconst 1, 1) := by decide +kernel
theorem dX6_has_6 : decode cX6_has 6 = .ok (.if_icmp .ne 7, 3) := by decide +kernel
theorem dX6_has_9 : decode cX6_has 9 = .ok (.iconst 1, 1) := by decide +kernel
theorem dX6_has_10 : decode cX6_has 10 = .ok (.goto 4, 3) := by decide +kernel
theorem dX6_has_13 : decode cX6_has 13 = .ok (.iconst 0, 1) := by decide +kernel
theorem dX6_has_14 : decode cX6_has 14 = .ok (.ireturn, 1) := by decide +kernel
theorem dX6_begins_0 : decode cX6_begins 0 = .ok (.iconst 0, 1) := by decide +kernel
theorem dX6_begins_1 : decode cX6_begins 1 = .ok (.istore_n 1, 1) := by decide +kernel
theorem dX6_begins_2 : decode cX6_begins 2 = .ok (.iload_n 1, 1) := by decide +kernel
theorem dX6_begins_3 : decode cX6_begins 3 = .ok (.bipush 53, 2) := by decide +kernel
theorem dX6_begins_5 : decode cX6_begins 5 = .ok (.if_icmp .ge 13, 3) := by decide +kernel
theorem dX6_begins_8 : decode cX6_begins 8 = .ok (.aload_n 0, 1) := by decide +kernel
theorem dX6_begins_9 : decode cX6_begins 9 = .ok (.iload_n 1, 1) := by decide +kernel
theorem dX6_begins_10 : decode cX6_begins 10 = .ok (.iconst 0, 1) := by decide +kernel
theorem dX6_begins_11 : decode cX6_begins 11 = .ok (.iastore, 1) := by decide +kernel
theorem dX6_begins_12 : decode cX6_begins 12 = .ok (.iinc 1 1, 3) := by decide +kernel
theorem dX6_begins_15 : decode cX6_begins 15 = .ok (.goto (-13), 3) := by decide +kernel
theorem dX6_begins_18 : decode cX6_begins 18 = .ok (.aload_n 0, 1) := by decide +kernel
theorem dX6_begins_19 : decode cX6_begins 19 = .ok (.iconst 0, 1) := by decide +kernel
theorem dX6_begins_20 : decode cX6_begins 20 = .ok (.iconst 1, 1) := by decide +kernel
theorem dX6_begins_21 : decode cX6_begins 21 = .ok (.iastore, 1) := by decide +kernel
theorem dX6_begins_22 : decode cX6_begins 22 = .ok (.return_, 1) := by decide +kernel
theorem dX6_leanX_0 : decode cX6_leanX 0 = .ok (.iload_n 0, 1) := by decide +kernel
theorem dX6_leanX_1 : decode cX6_leanX 1 = .ok (.ifCond .ne 7, 3) := by decide +kernel
theorem dX6_leanX_4 : decode cX6_leanX 4 = .ok (.iconst 2, 1) := by decide +kernel
theorem dX6_leanX_5 : decode cX6_leanX 5 = .ok (.goto 43, 3) := by decide +kernel
theorem dX6_leanX_8 : decode cX6_leanX 8 = .ok (.iload_n 0, 1) := by decide +kernel
theorem dX6_leanX_9 : decode cX6_leanX 9 = .ok (.iconst 4, 1) := by decide +kernel
theorem dX6_leanX_10 : decode cX6_leanX 10 = .ok (.if_icmp .ne 8, 3) := by decide +kernel
theorem dX6_leanX_13 : decode cX6_leanX 13 = .ok (.bipush (-2), 2) := by decide +kernel
theorem dX6_leanX_15 : decode cX6_leanX 15 = .ok (.goto 33, 3) := by decide +kernel
theorem dX6_leanX_18 : decode cX6_leanX 18 = .ok (.iload_n 0, 1) := by decide +kernel
theorem dX6_leanX_19 : decode cX6_leanX 19 = .ok (.iconst 1, 1) := by decide +kernel
theorem dX6_leanX_20 : decode cX6_leanX 20 = .ok (.if_icmp .eq 9, 3) := by decide +kernel
theorem dX6_leanX_23 : decode cX6_leanX 23 = .ok (.iload_n 0, 1) := by decide +kernel
theorem dX6_leanX_24 : decode cX6_leanX 24 = .ok (.bipush 7, 2) := by decide +kernel
theorem dX6_leanX_26 : decode cX6_leanX 26 = .ok (.if_icmp .ne 7, 3) := by decide +kernel
theorem dX6_leanX_29 : decode cX6_leanX 29 = .ok (.iconst 1, 1) := by decide +kernel
theorem dX6_leanX_30 : decode cX6_leanX 30 = .ok (.goto 18, 3) := by decide +kernel
theorem dX6_leanX_33 : decode cX6_leanX 33 = .ok (.iload_n 0, 1) := by decide +kernel
theorem dX6_leanX_34 : decode cX6_leanX 34 = .ok (.iconst 3, 1) := by decide +kernel
theorem dX6_leanX_35 : decode cX6_leanX 35 = .ok (.if_icmp .eq 8, 3) := by decide +kernel
theorem dX6_leanX_38 : decode cX6_leanX 38 = .ok (.iload_n 0, 1) := by decide +kernel
theorem dX6_leanX_39 : decode cX6_leanX 39 = .ok (.iconst 5, 1) := by decide +kernel
theorem dX6_leanX_40 : decode cX6_leanX 40 = .ok (.if_icmp .ne 7, 3) := by decide +kernel
theorem dX6_leanX_43 : decode cX6_leanX 43 = .ok (.iconst (-1), 1) := by decide +kernel
theorem dX6_leanX_44 : decode cX6_leanX 44 = .ok (.goto 4, 3) := by decide +kernel
theorem dX6_leanX_47 : decode cX6_leanX 47 = .ok (.iconst 0, 1) := by decide +kernel
theorem dX6_leanX_48 : decode cX6_leanX 48 = .ok (.ireturn, 1) := by decide +kernel
theorem dX6_leanY_0 : decode cX6_leanY 0 = .ok (.iload_n 0, 1) := by decide +kernel
theorem dX6_leanY_1 : decode cX6_leanY 1 = .ok (.bipush 6, 2) := by decide +kernel
theorem dX6_leanY_3 : decode cX6_leanY 3 = .ok (.iadd, 1) := by decide +kernel
theorem dX6_leanY_4 : decode cX6_leanY 4 = .ok (.bipush 8, 2) := by decide +kernel
theorem dX6_leanY_6 : decode cX6_leanY 6 = .ok (.irem, 1) := by decide +kernel
theorem dX6_leanY_7 : decode cX6_leanY 7 = .ok (.invokestatic 58, 3) := by decide +kernel
theorem dX6_leanY_10 : decode cX6_leanY 10 = .ok (.ireturn, 1) := by decide +kernel
theorem dX6_lays_0 : decode cX6_lays 0 = .ok (.aload_n 0, 1) := by decide +kernel
theorem dX6_lays_1 : decode cX6_lays 1 = .ok (.getfield 32, 3) := by decide +kernel
theorem dX6_lays_4 : decode cX6_lays 4 = .ok (.iload_n 1, 1) := by decide +kernel
theorem dX6_lays_5 : decode cX6_lays 5 = .ok (.aload_n 0, 1) := by decide +kernel
theorem dX6_lays_6 : decode cX6_lays 6 = .ok (.getfield 32, 3) := by decide +kernel
theorem dX6_lays_9 : decode cX6_lays 9 = .ok (.iload_n 1, 1) := by decide +kernel
theorem dX6_lays_10 : decode cX6_lays 10 = .ok (.iconst 1, 1) := by decide +kernel
theorem dX6_lays_11 : decode cX6_lays 11 = .ok (.isub, 1) := by decide +kernel
theorem dX6_lays_12 : decode cX6_lays 12 = .ok (.iaload, 1) := by decide +kernel
theorem dX6_lays_13 : decode cX6_lays 13 = .ok (.iload_n 2, 1) := by decide +kernel
theorem dX6_lays_14 : decode cX6_lays 14 = .ok (.aload_n 0, 1) := by decide +kernel
theorem dX6_lays_15 : decode cX6_lays 15 = .ok (.getfield 29, 3) := by decide +kernel
theorem dX6_lays_18 : decode cX6_lays 18 = .ok (.iload_n 1, 1) := by decide +kernel
theorem dX6_lays_19 : decode cX6_lays 19 = .ok (.iaload, 1) := by decide +kernel
theorem dX6_lays_20 : decode cX6_lays 20 = .ok (.invokestatic 58, 3) := by decide +kernel
theorem dX6_lays_23 : decode cX6_lays 23 = .ok (.imul, 1) := by decide +kernel
theorem dX6_lays_24 : decode cX6_lays 24 = .ok (.iadd, 1) := by decide +kernel
theorem dX6_lays_25 : decode cX6_lays 25 = .ok (.iastore, 1) := by decide +kernel
theorem dX6_lays_26 : decode cX6_lays 26 = .ok (.aload_n 0, 1) := by decide +kernel
theorem dX6_lays_27 : decode cX6_lays 27 = .ok (.getfield 35, 3) := by decide +kernel
theorem dX6_lays_30 : decode cX6_lays 30 = .ok (.iload_n 1, 1) := by decide +kernel
theorem dX6_lays_31 : decode cX6_lays 31 = .ok (.aload_n 0, 1) := by decide +kernel
theorem dX6_lays_32 : decode cX6_lays 32 = .ok (.getfield 35, 3) := by decide +kernel
theorem dX6_lays_35 : decode cX6_lays 35 = .ok (.iload_n 1, 1) := by decide +kernel
theorem dX6_lays_36 : decode cX6_lays 36 = .ok (.iconst 1, 1) := by decide +kernel
theorem dX6_lays_37 : decode cX6_lays 37 = .ok (.isub, 1) := by decide +kernel
theorem dX6_lays_38 : decode cX6_lays 38 = .ok (.iaload, 1) := by decide +kernel
theorem dX6_lays_39 : decode cX6_lays 39 = .ok (.iload_n 2, 1) := by decide +kernel
theorem dX6_lays_40 : decode cX6_lays 40 = .ok (.aload_n 0, 1) := by decide +kernel
theorem dX6_lays_41 : decode cX6_lays 41 = .ok (.getfield 29, 3) := by decide +kernel
theorem dX6_lays_44 : decode cX6_lays 44 = .ok (.iload_n 1, 1) := by decide +kernel
theorem dX6_lays_45 : decode cX6_lays 45 = .ok (.iaload, 1) := by decide +kernel
theorem dX6_lays_46 : decode cX6_lays 46 = .ok (.invokestatic 62, 3) := by decide +kernel
theorem dX6_lays_49 : decode cX6_lays 49 = .ok (.imul, 1) := by decide +kernel
theorem dX6_lays_50 : decode cX6_lays 50 = .ok (.iadd, 1) := by decide +kernel
theorem dX6_lays_51 : decode cX6_lays 51 = .ok (.iastore, 1) := by decide +kernel
theorem dX6_lays_52 : decode cX6_lays 52 = .ok (.aload_n 0, 1) := by decide +kernel
theorem dX6_lays_53 : decode cX6_lays 53 = .ok (.getfield 38, 3) := by decide +kernel
theorem dX6_lays_56 : decode cX6_lays 56 = .ok (.iload_n 1, 1) := by decide +kernel
theorem dX6_lays_57 : decode cX6_lays 57 = .ok (.aload_n 0, 1) := by decide +kernel
theorem dX6_lays_58 : decode cX6_lays 58 = .ok (.getfield 38, 3) := by decide +kernel
theorem dX6_lays_61 : decode cX6_lays 61 = .ok (.iload_n 1, 1) := by decide +kernel
theorem dX6_lays_62 : decode cX6_lays 62 = .ok (.iconst 1, 1) := by decide +kernel
theorem dX6_lays_63 : decode cX6_lays 63 = .ok (.isub, 1) := by decide +kernel
theorem dX6_lays_64 : decode cX6_lays 64 = .ok (.iaload, 1) := by decide +kernel
theorem dX6_lays_65 : decode cX6_lays 65 = .ok (.aload_n 0, 1) := by decide +kernel
theorem dX6_lays_66 : decode cX6_lays 66 = .ok (.getfield 32, 3) := by decide +kernel
theorem dX6_lays_69 : decode cX6_lays 69 = .ok (.iload_n 1, 1) := by decide +kernel
theorem dX6_lays_70 : decode cX6_lays 70 = .ok (.iaload, 1) := by decide +kernel
theorem dX6_lays_71 : decode cX6_lays 71 = .ok (.iadd, 1) := by decide +kernel
theorem dX6_lays_72 : decode cX6_lays 72 = .ok (.iastore, 1) := by decide +kernel
theorem dX6_lays_73 : decode cX6_lays 73 = .ok (.aload_n 0, 1) := by decide +kernel
theorem dX6_lays_74 : decode cX6_lays 74 = .ok (.getfield 41, 3) := by decide +kernel
theorem dX6_lays_77 : decode cX6_lays 77 = .ok (.iload_n 1, 1) := by decide +kernel
theorem dX6_lays_78 : decode cX6_lays 78 = .ok (.aload_n 0, 1) := by decide +kernel
theorem dX6_lays_79 : decode cX6_lays 79 = .ok (.getfield 41, 3) := by decide +kernel
theorem dX6_lays_82 : decode cX6_lays 82 = .ok (.iload_n 1, 1) := by decide +kernel
theorem dX6_lays_83 : decode cX6_lays 83 = .ok (.iconst 1, 1) := by decide +kernel
theorem dX6_lays_84 : decode cX6_lays 84 = .ok (.isub, 1) := by decide +kernel
theorem dX6_lays_85 : decode cX6_lays 85 = .ok (.iaload, 1) := by decide +kernel
theorem dX6_lays_86 : decode cX6_lays 86 = .ok (.aload_n 0, 1) := by decide +kernel
theorem dX6_lays_87 : decode cX6_lays 87 = .ok (.getfield 35, 3) := by decide +kernel
theorem dX6_lays_90 : decode cX6_lays 90 = .ok (.iload_n 1, 1) := by decide +kernel
theorem dX6_lays_91 : decode cX6_lays 91 = .ok (.iaload, 1) := by decide +kernel
theorem dX6_lays_92 : decode cX6_lays 92 = .ok (.iadd, 1) := by decide +kernel
theorem dX6_lays_93 : decode cX6_lays 93 = .ok (.iastore, 1) := by decide +kernel
theorem dX6_lays_94 : decode cX6_lays 94 = .ok (.return_, 1) := by decide +kernel
theorem dX6_layRings_0 : decode cX6_layRings 0 = .ok (.iconst 1, 1) := by decide +kernel
theorem dX6_layRings_1 : decode cX6_layRings 1 = .ok (.istore_n 3, 1) := by decide +kernel
theorem dX6_layRings_2 : decode cX6_layRings 2 = .ok (.iload_n 3, 1) := by decide +kernel
theorem dX6_layRings_3 : decode cX6_layRings 3 = .ok (.aload_n 1, 1) := by decide +kernel
theorem dX6_layRings_4 : decode cX6_layRings 4 = .ok (.iconst 3, 1) := by decide +kernel
theorem dX6_layRings_5 : decode cX6_layRings 5 = .ok (.iaload, 1) := by decide +kernel
theorem dX6_layRings_6 : decode cX6_layRings 6 = .ok (.if_icmp .gt 26, 3) := by decide +kernel
theorem dX6_layRings_9 : decode cX6_layRings 9 = .ok (.aload_n 0, 1) := by decide +kernel
theorem dX6_layRings_10 : decode cX6_layRings 10 = .ok (.getfield 29, 3) := by decide +kernel
theorem dX6_layRings_13 : decode cX6_layRings 13 = .ok (.iload_n 3, 1) := by decide +kernel
theorem dX6_layRings_14 : decode cX6_layRings 14 = .ok (.aload_n 1, 1) := by decide +kernel
theorem dX6_layRings_15 : decode cX6_layRings 15 = .ok (.iconst 4, 1) := by decide +kernel
theorem dX6_layRings_16 : decode cX6_layRings 16 = .ok (.iload_n 3, 1) := by decide +kernel
theorem dX6_layRings_17 : decode cX6_layRings 17 = .ok (.iadd, 1) := by decide +kernel
theorem dX6_layRings_18 : decode cX6_layRings 18 = .ok (.iaload, 1) := by decide +kernel
theorem dX6_layRings_19 : decode cX6_layRings 19 = .ok (.iastore, 1) := by decide +kernel
theorem dX6_layRings_20 : decode cX6_layRings 20 = .ok (.aload_n 0, 1) := by decide +kernel
theorem dX6_layRings_21 : decode cX6_layRings 21 = .ok (.iload_n 3, 1) := by decide +kernel
theorem dX6_layRings_22 : decode cX6_layRings 22 = .ok (.iload_n 2, 1) := by decide +kernel
theorem dX6_layRings_23 : decode cX6_layRings 23 = .ok (.invokevirtual 65, 3) := by decide +kernel
theorem dX6_layRings_26 : decode cX6_layRings 26 = .ok (.iinc 3 1, 3) := by decide +kernel
theorem dX6_layRings_29 : decode cX6_layRings 29 = .ok (.goto (-27), 3) := by decide +kernel
theorem dX6_layRings_32 : decode cX6_layRings 32 = .ok (.return_, 1) := by decide +kernel
theorem dX6_far_0 : decode cX6_far 0 = .ok (.iload_n 0, 1) := by decide +kernel
theorem dX6_far_1 : decode cX6_far 1 = .ok (.ifCond .ge 8, 3) := by decide +kernel
theorem dX6_far_4 : decode cX6_far 4 = .ok (.iload_n 0, 1) := by decide +kernel
theorem dX6_far_5 : decode cX6_far 5 = .ok (.ineg, 1) := by decide +kernel
theorem dX6_far_6 : decode cX6_far 6 = .ok (.goto 4, 3) := by decide +kernel
theorem dX6_far_9 : decode cX6_far 9 = .ok (.iload_n 0, 1) := by decide +kernel
theorem dX6_far_10 : decode cX6_far 10 = .ok (.ireturn, 1) := by decide +kernel
theorem dX6_costOf_0 : decode cX6_costOf 0 = .ok (.aload_n 0, 1) := by decide +kernel
theorem dX6_costOf_1 : decode cX6_costOf 1 = .ok (.getfield 38, 3) := by decide +kernel
theorem dX6_costOf_4 : decode cX6_costOf 4 = .ok (.iload_n 1, 1) := by decide +kernel
theorem dX6_costOf_5 : decode cX6_costOf 5 = .ok (.iaload, 1) := by decide +kernel
theorem dX6_costOf_6 : decode cX6_costOf 6 = .ok (.aload_n 0, 1) := by decide +kernel
theorem dX6_costOf_7 : decode cX6_costOf 7 = .ok (.getfield 7, 3) := by decide +kernel
theorem dX6_costOf_10 : decode cX6_costOf 10 = .ok (.bipush 17, 2) := by decide +kernel
theorem dX6_costOf_12 : decode cX6_costOf 12 = .ok (.iload_n 1, 1) := by decide +kernel
theorem dX6_costOf_13 : decode cX6_costOf 13 = .ok (.iadd, 1) := by decide +kernel
theorem dX6_costOf_14 : decode cX6_costOf 14 = .ok (.iaload, 1) := by decide +kernel
theorem dX6_costOf_15 : decode cX6_costOf 15 = .ok (.isub, 1) := by decide +kernel
theorem dX6_costOf_16 : decode cX6_costOf 16 = .ok (.invokestatic 69, 3) := by decide +kernel
theorem dX6_costOf_19 : decode cX6_costOf 19 = .ok (.istore_n 2, 1) := by decide +kernel
theorem dX6_costOf_20 : decode cX6_costOf 20 = .ok (.aload_n 0, 1) := by decide +kernel
theorem dX6_costOf_21 : decode cX6_costOf 21 = .ok (.getfield 41, 3) := by decide +kernel
theorem dX6_costOf_24 : decode cX6_costOf 24 = .ok (.iload_n 1, 1) := by decide +kernel
theorem dX6_costOf_25 : decode cX6_costOf 25 = .ok (.iaload, 1) := by decide +kernel
theorem dX6_costOf_26 : decode cX6_costOf 26 = .ok (.aload_n 0, 1) := by decide +kernel
theorem dX6_costOf_27 : decode cX6_costOf 27 = .ok (.getfield 7, 3) := by decide +kernel
theorem dX6_costOf_30 : decode cX6_costOf 30 = .ok (.bipush 35, 2) := by decide +kernel
theorem dX6_costOf_32 : decode cX6_costOf 32 = .ok (.iload_n 1, 1) := by decide +kernel
theorem dX6_costOf_33 : decode cX6_costOf 33 = .ok (.iadd, 1) := by decide +kernel
theorem dX6_costOf_34 : decode cX6_costOf 34 = .ok (.iaload, 1) := by decide +kernel
theorem dX6_costOf_35 : decode cX6_costOf 35 = .ok (.isub, 1) := by decide +kernel
theorem dX6_costOf_36 : decode cX6_costOf 36 = .ok (.invokestatic 69, 3) := by decide +kernel
theorem dX6_costOf_39 : decode cX6_costOf 39 = .ok (.istore_n 3, 1) := by decide +kernel
theorem dX6_costOf_40 : decode cX6_costOf 40 = .ok (.aload_n 0, 1) := by decide +kernel
theorem dX6_costOf_41 : decode cX6_costOf 41 = .ok (.getfield 7, 3) := by decide +kernel
theorem dX6_costOf_44 : decode cX6_costOf 44 = .ok (.iconst 1, 1) := by decide +kernel
theorem dX6_costOf_45 : decode cX6_costOf 45 = .ok (.iaload, 1) := by decide +kernel
theorem dX6_costOf_46 : decode cX6_costOf 46 = .ok (.ifCond .ne 9, 3) := by decide +kernel
theorem dX6_costOf_49 : decode cX6_costOf 49 = .ok (.iload_n 2, 1) := by decide +kernel
theorem dX6_costOf_50 : decode cX6_costOf 50 = .ok (.iload_n 3, 1) := by decide +kernel
theorem dX6_costOf_51 : decode cX6_costOf 51 = .ok (.iadd, 1) := by decide +kernel
theorem dX6_costOf_52 : decode cX6_costOf 52 = .ok (.goto 33, 3) := by decide +kernel
theorem dX6_costOf_55 : decode cX6_costOf 55 = .ok (.aload_n 0, 1) := by decide +kernel
theorem dX6_costOf_56 : decode cX6_costOf 56 = .ok (.getfield 7, 3) := by decide +kernel
theorem dX6_costOf_59 : decode cX6_costOf 59 = .ok (.iconst 1, 1) := by decide +kernel
theorem dX6_costOf_60 : decode cX6_costOf 60 = .ok (.iaload, 1) := by decide +kernel
theorem dX6_costOf_61 : decode cX6_costOf 61 = .ok (.iconst 1, 1) := by decide +kernel
theorem dX6_costOf_62 : decode cX6_costOf 62 = .ok (.if_icmp .ne 16, 3) := by decide +kernel
theorem dX6_costOf_65 : decode cX6_costOf 65 = .ok (.iload_n 2, 1) := by decide +kernel
theorem dX6_costOf_66 : decode cX6_costOf 66 = .ok (.iload_n 3, 1) := by decide +kernel
theorem dX6_costOf_67 : decode cX6_costOf 67 = .ok (.if_icmp .le 7, 3) := by decide +kernel
theorem dX6_costOf_70 : decode cX6_costOf 70 = .ok (.iload_n 2, 1) := by decide +kernel
theorem dX6_costOf_71 : decode cX6_costOf 71 = .ok (.goto 14, 3) := by decide +kernel
theorem dX6_costOf_74 : decode cX6_costOf 74 = .ok (.iload_n 3, 1) := by decide +kernel
theorem dX6_costOf_75 : decode cX6_costOf 75 = .ok (.goto 10, 3) := by decide +kernel
theorem dX6_costOf_78 : decode cX6_costOf 78 = .ok (.iload_n 2, 1) := by decide +kernel
theorem dX6_costOf_79 : decode cX6_costOf 79 = .ok (.iload_n 2, 1) := by decide +kernel
theorem dX6_costOf_80 : decode cX6_costOf 80 = .ok (.imul, 1) := by decide +kernel
theorem dX6_costOf_81 : decode cX6_costOf 81 = .ok (.iload_n 3, 1) := by decide +kernel
theorem dX6_costOf_82 : decode cX6_costOf 82 = .ok (.iload_n 3, 1) := by decide +kernel
theorem dX6_costOf_83 : decode cX6_costOf 83 = .ok (.imul, 1) := by decide +kernel
theorem dX6_costOf_84 : decode cX6_costOf 84 = .ok (.iadd, 1) := by decide +kernel
theorem dX6_costOf_85 : decode cX6_costOf 85 = .ok (.ireturn, 1) := by decide +kernel
theorem dX6_isBarred_0 : decode cX6_isBarred 0 = .ok (.iload_n 2, 1) := by decide +kernel
theorem dX6_isBarred_1 : decode cX6_isBarred 1 = .ok (.iload_n 1, 1) := by decide +kernel
theorem dX6_isBarred_2 : decode cX6_isBarred 2 = .ok (.isub, 1) := by decide +kernel
theorem dX6_isBarred_3 : decode cX6_isBarred 3 = .ok (.bipush 8, 2) := by decide +kernel
theorem dX6_isBarred_5 : decode cX6_isBarred 5 = .ok (.iadd, 1) := by decide +kernel
theorem dX6_isBarred_6 : decode cX6_isBarred 6 = .ok (.bipush 8, 2) := by decide +kernel
theorem dX6_isBarred_8 : decode cX6_isBarred 8 = .ok (.irem, 1) := by decide +kernel
theorem dX6_isBarred_9 : decode cX6_isBarred 9 = .ok (.istore_n 3, 1) := by decide +kernel
theorem dX6_isBarred_10 : decode cX6_isBarred 10 = .ok (.iload_n 0, 1) := by decide +kernel
theorem dX6_isBarred_11 : decode cX6_isBarred 11 = .ok (.ifCond .le 7, 3) := by decide +kernel
theorem dX6_isBarred_14 : decode cX6_isBarred 14 = .ok (.iload_n 3, 1) := by decide +kernel
theorem dX6_isBarred_15 : decode cX6_isBarred 15 = .ok (.ifCond .eq 29, 3) := by decide +kernel
theorem dX6_isBarred_18 : decode cX6_isBarred 18 = .ok (.iload_n 0, 1) := by decide +kernel
theorem dX6_isBarred_19 : decode cX6_isBarred 19 = .ok (.iconst 2, 1) := by decide +kernel
theorem dX6_isBarred_20 : decode cX6_isBarred 20 = .ok (.if_icmp .ne 8, 3) := by decide +kernel
theorem dX6_isBarred_23 : decode cX6_isBarred 23 = .ok (.iload_n 3, 1) := by decide +kernel
theorem dX6_isBarred_24 : decode cX6_isBarred 24 = .ok (.iconst 4, 1) := by decide +kernel
theorem dX6_isBarred_25 : decode cX6_isBarred 25 = .ok (.if_icmp .eq 19, 3) := by decide +kernel
theorem dX6_isBarred_28 : decode cX6_isBarred 28 = .ok (.iload_n 0, 1) := by decide +kernel
theorem dX6_isBarred_29 : decode cX6_isBarred 29 = .ok (.iconst 3, 1) := by decide +kernel
theorem dX6_isBarred_30 : decode cX6_isBarred 30 = .ok (.if_icmp .ne 18, 3) := by decide +kernel
theorem dX6_isBarred_33 : decode cX6_isBarred 33 = .ok (.iload_n 3, 1) := by decide +kernel
theorem dX6_isBarred_34 : decode cX6_isBarred 34 = .ok (.iconst 1, 1) := by decide +kernel
theorem dX6_isBarred_35 : decode cX6_isBarred 35 = .ok (.if_icmp .eq 9, 3) := by decide +kernel
theorem dX6_isBarred_38 : decode cX6_isBarred 38 = .ok (.iload_n 3, 1) := by decide +kernel
theorem dX6_isBarred_39 : decode cX6_isBarred 39 = .ok (.bipush 7, 2) := by decide +kernel
theorem dX6_isBarred_41 : decode cX6_isBarred 41 = .ok (.if_icmp .ne 7, 3) := by decide +kernel
theorem dX6_isBarred_44 : decode cX6_isBarred 44 = .ok (.iconst 1, 1) := by decide +kernel
theorem dX6_isBarred_45 : decode cX6_isBarred 45 = .ok (.goto 4, 3) := by decide +kernel
theorem dX6_isBarred_48 : decode cX6_isBarred 48 = .ok (.iconst 0, 1) := by decide +kernel
theorem dX6_isBarred_49 : decode cX6_isBarred 49 = .ok (.ireturn, 1) := by decide +kernel
theorem dX6_mayBe_0 : decode cX6_mayBe 0 = .ok (.aload_n 0, 1) := by decide +kernel
theorem dX6_mayBe_1 : decode cX6_mayBe 1 = .ok (.getfield 29, 3) := by decide +kernel
theorem dX6_mayBe_4 : decode cX6_mayBe 4 = .ok (.iload_n 2, 1) := by decide +kernel
theorem dX6_mayBe_5 : decode cX6_mayBe 5 = .ok (.iload_n 3, 1) := by decide +kernel
theorem dX6_mayBe_6 : decode cX6_mayBe 6 = .ok (.iastore, 1) := by decide +kernel
theorem dX6_mayBe_7 : decode cX6_mayBe 7 = .ok (.aload_n 0, 1) := by decide +kernel
theorem dX6_mayBe_8 : decode cX6_mayBe 8 = .ok (.iload_n 2, 1) := by decide +kernel
theorem dX6_mayBe_9 : decode cX6_mayBe 9 = .ok (.iload 4, 2) := by decide +kernel
theorem dX6_mayBe_11 : decode cX6_mayBe 11 = .ok (.invokevirtual 65, 3) := by decide +kernel
theorem dX6_mayBe_14 : decode cX6_mayBe 14 = .ok (.aload_n 1, 1) := by decide +kernel
theorem dX6_mayBe_15 : decode cX6_mayBe 15 = .ok (.iconst 2, 1) := by decide +kernel
theorem dX6_mayBe_16 : decode cX6_mayBe 16 = .ok (.iaload, 1) := by decide +kernel
theorem dX6_mayBe_17 : decode cX6_mayBe 17 = .ok (.istore 5, 2) := by decide +kernel
theorem dX6_mayBe_19 : decode cX6_mayBe 19 = .ok (.iload 5, 2) := by decide +kernel
theorem dX6_mayBe_21 : decode cX6_mayBe 21 = .ok (.ifCond .eq 63, 3) := by decide +kernel
theorem dX6_mayBe_24 : decode cX6_mayBe 24 = .ok (.aload_n 0, 1) := by decide +kernel
theorem dX6_mayBe_25 : decode cX6_mayBe 25 = .ok (.getfield 32, 3) := by decide +kernel
theorem dX6_mayBe_28 : decode cX6_mayBe 28 = .ok (.iload_n 2, 1) := by decide +kernel
theorem dX6_mayBe_29 : decode cX6_mayBe 29 = .ok (.iaload, 1) := by decide +kernel
theorem dX6_mayBe_30 : decode cX6_mayBe 30 = .ok (.aload_n 1, 1) := by decide +kernel
theorem dX6_mayBe_31 : decode cX6_mayBe 31 = .ok (.bipush 17, 2) := by decide +kernel
theorem dX6_mayBe_33 : decode cX6_mayBe 33 = .ok (.iload_n 2, 1) := by decide +kernel
theorem dX6_mayBe_34 : decode cX6_mayBe 34 = .ok (.iadd, 1) := by decide +kernel
theorem dX6_mayBe_35 : decode cX6_mayBe 35 = .ok (.iaload, 1) := by decide +kernel
theorem dX6_mayBe_36 : decode cX6_mayBe 36 = .ok (.isub, 1) := by decide +kernel
theorem dX6_mayBe_37 : decode cX6_mayBe 37 = .ok (.aload_n 1, 1) := by decide +kernel
theorem dX6_mayBe_38 : decode cX6_mayBe 38 = .ok (.bipush 17, 2) := by decide +kernel
theorem dX6_mayBe_40 : decode cX6_mayBe 40 = .ok (.iload_n 2, 1) := by decide +kernel
theorem dX6_mayBe_41 : decode cX6_mayBe 41 = .ok (.iadd, 1) := by decide +kernel
theorem dX6_mayBe_42 : decode cX6_mayBe 42 = .ok (.iconst 1, 1) := by decide +kernel
theorem dX6_mayBe_43 : decode cX6_mayBe 43 = .ok (.isub, 1) := by decide +kernel
theorem dX6_mayBe_44 : decode cX6_mayBe 44 = .ok (.iaload, 1) := by decide +kernel
theorem dX6_mayBe_45 : decode cX6_mayBe 45 = .ok (.iadd, 1) := by decide +kernel
theorem dX6_mayBe_46 : decode cX6_mayBe 46 = .ok (.invokestatic 69, 3) := by decide +kernel
theorem dX6_mayBe_49 : decode cX6_mayBe 49 = .ok (.iload 5, 2) := by decide +kernel
theorem dX6_mayBe_51 : decode cX6_mayBe 51 = .ok (.if_icmp .gt 37, 3) := by decide +kernel
theorem dX6_mayBe_54 : decode cX6_mayBe 54 = .ok (.aload_n 0, 1) := by decide +kernel
theorem dX6_mayBe_55 : decode cX6_mayBe 55 = .ok (.getfield 35, 3) := by decide +kernel
theorem dX6_mayBe_58 : decode cX6_mayBe 58 = .ok (.iload_n 2, 1) := by decide +kernel
theorem dX6_mayBe_59 : decode cX6_mayBe 59 = .ok (.iaload, 1) := by decide +kernel
theorem dX6_mayBe_60 : decode cX6_mayBe 60 = .ok (.aload_n 1, 1) := by decide +kernel
theorem dX6_mayBe_61 : decode cX6_mayBe 61 = .ok (.bipush 35, 2) := by decide +kernel
theorem dX6_mayBe_63 : decode cX6_mayBe 63 = .ok (.iload_n 2, 1) := by decide +kernel
theorem dX6_mayBe_64 : decode cX6_mayBe 64 = .ok (.iadd, 1) := by decide +kernel
theorem dX6_mayBe_65 : decode cX6_mayBe 65 = .ok (.iaload, 1) := by decide +kernel
theorem dX6_mayBe_66 : decode cX6_mayBe 66 = .ok (.isub, 1) := by decide +kernel
theorem dX6_mayBe_67 : decode cX6_mayBe 67 = .ok (.aload_n 1, 1) := by decide +kernel
theorem dX6_mayBe_68 : decode cX6_mayBe 68 = .ok (.bipush 35, 2) := by decide +kernel
theorem dX6_mayBe_70 : decode cX6_mayBe 70 = .ok (.iload_n 2, 1) := by decide +kernel
theorem dX6_mayBe_71 : decode cX6_mayBe 71 = .ok (.iadd, 1) := by decide +kernel
theorem dX6_mayBe_72 : decode cX6_mayBe 72 = .ok (.iconst 1, 1) := by decide +kernel
theorem dX6_mayBe_73 : decode cX6_mayBe 73 = .ok (.isub, 1) := by decide +kernel
theorem dX6_mayBe_74 : decode cX6_mayBe 74 = .ok (.iaload, 1) := by decide +kernel
theorem dX6_mayBe_75 : decode cX6_mayBe 75 = .ok (.iadd, 1) := by decide +kernel
theorem dX6_mayBe_76 : decode cX6_mayBe 76 = .ok (.invokestatic 69, 3) := by decide +kernel
theorem dX6_mayBe_79 : decode cX6_mayBe 79 = .ok (.iload 5, 2) := by decide +kernel
theorem dX6_mayBe_81 : decode cX6_mayBe 81 = .ok (.if_icmp .gt 7, 3) := by decide +kernel
theorem dX6_mayBe_84 : decode cX6_mayBe 84 = .ok (.iconst 1, 1) := by decide +kernel
theorem dX6_mayBe_85 : decode cX6_mayBe 85 = .ok (.goto 4, 3) := by decide +kernel
theorem dX6_mayBe_88 : decode cX6_mayBe 88 = .ok (.iconst 0, 1) := by decide +kernel
theorem dX6_mayBe_89 : decode cX6_mayBe 89 = .ok (.istore 6, 2) := by decide +kernel
theorem dX6_mayBe_91 : decode cX6_mayBe 91 = .ok (.iload 6, 2) := by decide +kernel
theorem dX6_mayBe_93 : decode cX6_mayBe 93 = .ok (.ifCond .eq 30, 3) := by decide +kernel
theorem dX6_mayBe_96 : decode cX6_mayBe 96 = .ok (.iload_n 2, 1) := by decide +kernel
theorem dX6_mayBe_97 : decode cX6_mayBe 97 = .ok (.iconst 1, 1) := by decide +kernel
theorem dX6_mayBe_98 : decode cX6_mayBe 98 = .ok (.if_icmp .eq 21, 3) := by decide +kernel
theorem dX6_mayBe_101 : decode cX6_mayBe 101 = .ok (.aload_n 1, 1) := by decide +kernel
theorem dX6_mayBe_102 : decode cX6_mayBe 102 = .ok (.iconst 0, 1) := by decide +kernel
theorem dX6_mayBe_103 : decode cX6_mayBe 103 = .ok (.iaload, 1) := by decide +kernel
theorem dX6_mayBe_104 : decode cX6_mayBe 104 = .ok (.aload_n 0, 1) := by decide +kernel
theorem dX6_mayBe_105 : decode cX6_mayBe 105 = .ok (.getfield 29, 3) := by decide +kernel
theorem dX6_mayBe_108 : decode cX6_mayBe 108 = .ok (.iload_n 2, 1) := by decide +kernel
theorem dX6_mayBe_109 : decode cX6_mayBe 109 = .ok (.iconst 1, 1) := by decide +kernel
theorem dX6_mayBe_110 : decode cX6_mayBe 110 = .ok (.isub, 1) := by decide +kernel
theorem dX6_mayBe_111 : decode cX6_mayBe 111 = .ok (.iaload, 1) := by decide +kernel
theorem dX6_mayBe_112 : decode cX6_mayBe 112 = .ok (.iload_n 3, 1) := by decide +kernel
theorem dX6_mayBe_113 : decode cX6_mayBe 113 = .ok (.invokestatic 72, 3) := by decide +kernel
theorem dX6_mayBe_116 : decode cX6_mayBe 116 = .ok (.ifCond .ne 7, 3) := by decide +kernel
theorem dX6_mayBe_119 : decode cX6_mayBe 119 = .ok (.iconst 1, 1) := by decide +kernel
theorem dX6_mayBe_120 : decode cX6_mayBe 120 = .ok (.goto 4, 3) := by decide +kernel
theorem dX6_mayBe_123 : decode cX6_mayBe 123 = .ok (.iconst 0, 1) := by decide +kernel
theorem dX6_mayBe_124 : decode cX6_mayBe 124 = .ok (.ireturn, 1) := by decide +kernel
theorem dX6_type_0 : decode cX6_type 0 = .ok (.iload_n 1, 1) := by decide +kernel
theorem dX6_type_1 : decode cX6_type 1 = .ok (.iconst 0, 1) := by decide +kernel
theorem dX6_type_2 : decode cX6_type 2 = .ok (.sipush 255, 3) := by decide +kernel
theorem dX6_type_5 : decode cX6_type 5 = .ok (.invokestatic 76, 3) := by decide +kernel
theorem dX6_type_8 : decode cX6_type 8 = .ok (.ifCond .ne 5, 3) := by decide +kernel
theorem dX6_type_11 : decode cX6_type 11 = .ok (.iconst (-1), 1) := by decide +kernel
theorem dX6_type_12 : decode cX6_type 12 = .ok (.ireturn, 1) := by decide +kernel
theorem dX6_type_13 : decode cX6_type 13 = .ok (.aload_n 0, 1) := by decide +kernel
theorem dX6_type_14 : decode cX6_type 14 = .ok (.getfield 79, 3) := by decide +kernel
theorem dX6_type_17 : decode cX6_type 17 = .ok (.bipush 120, 2) := by decide +kernel
theorem dX6_type_19 : decode cX6_type 19 = .ok (.if_icmp .ne 6, 3) := by decide +kernel
theorem dX6_type_22 : decode cX6_type 22 = .ok (.bipush (-3), 2) := by decide +kernel
theorem dX6_type_24 : decode cX6_type 24 = .ok (.ireturn, 1) := by decide +kernel
theorem dX6_type_25 : decode cX6_type 25 = .ok (.aload_n 0, 1) := by decide +kernel
theorem dX6_type_26 : decode cX6_type 26 = .ok (.getfield 44, 3) := by decide +kernel
theorem dX6_type_29 : decode cX6_type 29 = .ok (.aload_n 0, 1) := by decide +kernel
theorem dX6_type_30 : decode cX6_type 30 = .ok (.getfield 79, 3) := by decide +kernel
theorem dX6_type_33 : decode cX6_type 33 = .ok (.iload_n 1, 1) := by decide +kernel
theorem dX6_type_34 : decode cX6_type 34 = .ok (.iastore, 1) := by decide +kernel
theorem dX6_type_35 : decode cX6_type 35 = .ok (.aload_n 0, 1) := by decide +kernel
theorem dX6_type_36 : decode cX6_type 36 = .ok (.dup, 1) := by decide +kernel
theorem dX6_type_37 : decode cX6_type 37 = .ok (.getfield 79, 3) := by decide +kernel
theorem dX6_type_40 : decode cX6_type 40 = .ok (.iconst 1, 1) := by decide +kernel
theorem dX6_type_41 : decode cX6_type 41 = .ok (.iadd, 1) := by decide +kernel
theorem dX6_type_42 : decode cX6_type 42 = .ok (.putfield 79, 3) := by decide +kernel
theorem dX6_type_45 : decode cX6_type 45 = .ok (.aload_n 0, 1) := by decide +kernel
theorem dX6_type_46 : decode cX6_type 46 = .ok (.getfield 79, 3) := by decide +kernel
theorem dX6_type_49 : decode cX6_type 49 = .ok (.ireturn, 1) := by decide +kernel
theorem dX6_clear_0 : decode cX6_clear 0 = .ok (.aload_n 0, 1) := by decide +kernel
theorem dX6_clear_1 : decode cX6_clear 1 = .ok (.getfield 79, 3) := by decide +kernel
theorem dX6_clear_4 : decode cX6_clear 4 = .ok (.istore_n 1, 1) := by decide +kernel
theorem dX6_clear_5 : decode cX6_clear 5 = .ok (.aload_n 0, 1) := by decide +kernel
theorem dX6_clear_6 : decode cX6_clear 6 = .ok (.iconst 0, 1) := by decide +kernel
theorem dX6_clear_7 : decode cX6_clear 7 = .ok (.putfield 79, 3) := by decide +kernel
theorem dX6_clear_10 : decode cX6_clear 10 = .ok (.iload_n 1, 1) := by decide +kernel
theorem dX6_clear_11 : decode cX6_clear 11 = .ok (.ireturn, 1) := by decide +kernel
theorem dX6_isFigure_0 : decode cX6_isFigure 0 = .ok (.aload_n 0, 1) := by decide +kernel
theorem dX6_isFigure_1 : decode cX6_isFigure 1 = .ok (.getfield 82, 3) := by decide +kernel
theorem dX6_isFigure_4 : decode cX6_isFigure 4 = .ok (.aload_n 0, 1) := by decide +kernel
theorem dX6_isFigure_5 : decode cX6_isFigure 5 = .ok (.getfield 79, 3) := by decide +kernel
theorem dX6_isFigure_8 : decode cX6_isFigure 8 = .ok (.if_icmp .ge 26, 3) := by decide +kernel
theorem dX6_isFigure_11 : decode cX6_isFigure 11 = .ok (.aload_n 0, 1) := by decide +kernel
theorem dX6_isFigure_12 : decode cX6_isFigure 12 = .ok (.getfield 44, 3) := by decide +kernel
theorem dX6_isFigure_15 : decode cX6_isFigure 15 = .ok (.aload_n 0, 1) := by decide +kernel
theorem dX6_isFigure_16 : decode cX6_isFigure 16 = .ok (.getfield 82, 3) := by decide +kernel
theorem dX6_isFigure_19 : decode cX6_isFigure 19 = .ok (.iaload, 1) := by decide +kernel
theorem dX6_isFigure_20 : decode cX6_isFigure 20 = .ok (.bipush 48, 2) := by decide +kernel
theorem dX6_isFigure_22 : decode cX6_isFigure 22 = .ok (.bipush 57, 2) := by decide +kernel
theorem dX6_isFigure_24 : decode cX6_isFigure 24 = .ok (.invokestatic 76, 3) := by decide +kernel
theorem dX6_isFigure_27 : decode cX6_isFigure 27 = .ok (.ifCond .eq 7, 3) := by decide +kernel
theorem dX6_isFigure_30 : decode cX6_isFigure 30 = .ok (.iconst 1, 1) := by decide +kernel
theorem dX6_isFigure_31 : decode cX6_isFigure 31 = .ok (.goto 4, 3) := by decide +kernel
theorem dX6_isFigure_34 : decode cX6_isFigure 34 = .ok (.iconst 0, 1) := by decide +kernel
theorem dX6_isFigure_35 : decode cX6_isFigure 35 = .ok (.ireturn, 1) := by decide +kernel
theorem dX6_blanks_0 : decode cX6_blanks 0 = .ok (.aload_n 0, 1) := by decide +kernel
theorem dX6_blanks_1 : decode cX6_blanks 1 = .ok (.getfield 82, 3) := by decide +kernel
theorem dX6_blanks_4 : decode cX6_blanks 4 = .ok (.aload_n 0, 1) := by decide +kernel
theorem dX6_blanks_5 : decode cX6_blanks 5 = .ok (.getfield 79, 3) := by decide +kernel
theorem dX6_blanks_8 : decode cX6_blanks 8 = .ok (.if_icmp .ge 30, 3) := by decide +kernel
theorem dX6_blanks_11 : decode cX6_blanks 11 = .ok (.aload_n 0, 1) := by decide +kernel
theorem dX6_blanks_12 : decode cX6_blanks 12 = .ok (.getfield 44, 3) := by decide +kernel
theorem dX6_blanks_15 : decode cX6_blanks 15 = .ok (.aload_n 0, 1) := by decide +kernel
theorem dX6_blanks_16 : decode cX6_blanks 16 = .ok (.getfield 82, 3) := by decide +kernel
theorem dX6_blanks_19 : decode cX6_blanks 19 = .ok (.iaload, 1) := by decide +kernel
theorem dX6_blanks_20 : decode cX6_blanks 20 = .ok (.bipush 32, 2) := by decide +kernel
theorem dX6_blanks_22 : decode cX6_blanks 22 = .ok (.if_icmp .ne 16, 3) := by decide +kernel
theorem dX6_blanks_25 : decode cX6_blanks 25 = .ok (.aload_n 0, 1) := by decide +kernel
theorem dX6_blanks_26 : decode cX6_blanks 26 = .ok (.dup, 1) := by decide +kernel
theorem dX6_blanks_27 : decode cX6_blanks 27 = .ok (.getfield 82, 3) := by decide +kernel
theorem dX6_blanks_30 : decode cX6_blanks 30 = .ok (.iconst 1, 1) := by decide +kernel
theorem dX6_blanks_31 : decode cX6_blanks 31 = .ok (.iadd, 1) := by decide +kernel
theorem dX6_blanks_32 : decode cX6_blanks 32 = .ok (.putfield 82, 3) := by decide +kernel
theorem dX6_blanks_35 : decode cX6_blanks 35 = .ok (.goto (-35), 3) := by decide +kernel
theorem dX6_blanks_38 : decode cX6_blanks 38 = .ok (.return_, 1) := by decide +kernel
theorem dX6_isToken_0 : decode cX6_isToken 0 = .ok (.iload_n 0, 1) := by decide +kernel
theorem dX6_isToken_1 : decode cX6_isToken 1 = .ok (.bipush 116, 2) := by decide +kernel
theorem dX6_isToken_3 : decode cX6_isToken 3 = .ok (.if_icmp .eq 45, 3) := by decide +kernel
theorem dX6_isToken_6 : decode cX6_isToken 6 = .ok (.iload_n 0, 1) := by decide +kernel
theorem dX6_isToken_7 : decode cX6_isToken 7 = .ok (.bipush 98, 2) := by decide +kernel
theorem dX6_isToken_9 : decode cX6_isToken 9 = .ok (.if_icmp .eq 39, 3) := by decide +kernel
theorem dX6_isToken_12 : decode cX6_isToken 12 = .ok (.iload_n 0, 1) := by decide +kernel
theorem dX6_isToken_13 : decode cX6_isToken 13 = .ok (.bipush 106, 2) := by decide +kernel
theorem dX6_isToken_15 : decode cX6_isToken 15 = .ok (.if_icmp .eq 33, 3) := by decide +kernel
theorem dX6_isToken_18 : decode cX6_isToken 18 = .ok (.iload_n 0, 1) := by decide +kernel
theorem dX6_isToken_19 : decode cX6_isToken 19 = .ok (.bipush 109, 2) := by decide +kernel
theorem dX6_isToken_21 : decode cX6_isToken 21 = .ok (.if_icmp .eq 27, 3) := by decide +kernel
theorem dX6_isToken_24 : decode cX6_isToken 24 = .ok (.iload_n 0, 1) := by decide +kernel
theorem dX6_isToken_25 : decode cX6_isToken 25 = .ok (.bipush 119, 2) := by decide +kernel
theorem dX6_isToken_27 : decode cX6_isToken 27 = .ok (.if_icmp .eq 21, 3) := by decide +kernel
theorem dX6_isToken_30 : decode cX6_isToken 30 = .ok (.iload_n 0, 1) := by decide +kernel
theorem dX6_isToken_31 : decode cX6_isToken 31 = .ok (.bipush 107, 2) := by decide +kernel
theorem dX6_isToken_33 : decode cX6_isToken 33 = .ok (.if_icmp .eq 15, 3) := by decide +kernel
theorem dX6_isToken_36 : decode cX6_isToken 36 = .ok (.iload_n 0, 1) := by decide +kernel
theorem dX6_isToken_37 : decode cX6_isToken 37 = .ok (.bipush 45, 2) := by decide +kernel
theorem dX6_isToken_39 : decode cX6_isToken 39 = .ok (.if_icmp .eq 9, 3) := by decide +kernel
theorem dX6_isToken_42 : decode cX6_isToken 42 = .ok (.iload_n 0, 1) := by decide +kernel
theorem dX6_isToken_43 : decode cX6_isToken 43 = .ok (.bipush 59, 2) := by decide +kernel
theorem dX6_isToken_45 : decode cX6_isToken 45 = .ok (.if_icmp .ne 7, 3) := by decide +kernel
theorem dX6_isToken_48 : decode cX6_isToken 48 = .ok (.iconst 1, 1) := by decide +kernel
theorem dX6_isToken_49 : decode cX6_isToken 49 = .ok (.goto 4, 3) := by decide +kernel
theorem dX6_isToken_52 : decode cX6_isToken 52 = .ok (.iconst 0, 1) := by decide +kernel
theorem dX6_isToken_53 : decode cX6_isToken 53 = .ok (.ireturn, 1) := by decide +kernel
theorem dX6_next_0 : decode cX6_next 0 = .ok (.aload_n 0, 1) := by decide +kernel
theorem dX6_next_1 : decode cX6_next 1 = .ok (.invokevirtual 85, 3) := by decide +kernel
theorem dX6_next_4 : decode cX6_next 4 = .ok (.aload_n 0, 1) := by decide +kernel
theorem dX6_next_5 : decode cX6_next 5 = .ok (.aload_n 0, 1) := by decide +kernel
theorem dX6_next_6 : decode cX6_next 6 = .ok (.getfield 82, 3) := by decide +kernel
theorem dX6_next_9 : decode cX6_next 9 = .ok (.putfield 88, 3) := by decide +kernel
theorem dX6_next_12 : decode cX6_next 12 = .ok (.aload_n 0, 1) := by decide +kernel
theorem dX6_next_13 : decode cX6_next 13 = .ok (.getfield 82, 3) := by decide +kernel
theorem dX6_next_16 : decode cX6_next 16 = .ok (.aload_n 0, 1) := by decide +kernel
theorem dX6_next_17 : decode cX6_next 17 = .ok (.getfield 79, 3) := by decide +kernel
theorem dX6_next_20 : decode cX6_next 20 = .ok (.if_icmp .ne 11, 3) := by decide +kernel
theorem dX6_next_23 : decode cX6_next 23 = .ok (.aload_n 0, 1) := by decide +kernel
theorem dX6_next_24 : decode cX6_next 24 = .ok (.iconst (-1), 1) := by decide +kernel
theorem dX6_next_25 : decode cX6_next 25 = .ok (.putfield 91, 3) := by decide +kernel
theorem dX6_next_28 : decode cX6_next 28 = .ok (.goto 167, 3) := by decide +kernel
theorem dX6_next_31 : decode cX6_next 31 = .ok (.aload_n 0, 1) := by decide +kernel
theorem dX6_next_32 : decode cX6_next 32 = .ok (.invokevirtual 94, 3) := by decide +kernel
theorem dX6_next_35 : decode cX6_next 35 = .ok (.ifCond .eq 117, 3) := by decide +kernel
theorem dX6_next_38 : decode cX6_next 38 = .ok (.aload_n 0, 1) := by decide +kernel
theorem dX6_next_39 : decode cX6_next 39 = .ok (.iconst 0, 1) := by decide +kernel
theorem dX6_next_40 : decode cX6_next 40 = .ok (.putfield 98, 3) := by decide +kernel
theorem dX6_next_43 : decode cX6_next 43 = .ok (.aload_n 0, 1) := by decide +kernel
theorem dX6_next_44 : decode cX6_next 44 = .ok (.invokevirtual 94, 3) := by decide +kernel
theorem dX6_next_47 : decode cX6_next 47 = .ok (.ifCond .eq 56, 3) := by decide +kernel
theorem dX6_next_50 : decode cX6_next 50 = .ok (.aload_n 0, 1) := by decide +kernel
theorem dX6_next_51 : decode cX6_next 51 = .ok (.aload_n 0, 1) := by decide +kernel
theorem dX6_next_52 : decode cX6_next 52 = .ok (.getfield 98, 3) := by decide +kernel
theorem dX6_next_55 : decode cX6_next 55 = .ok (.bipush 99, 2) := by decide +kernel
theorem dX6_next_57 : decode cX6_next 57 = .ok (.if_icmp .le 10, 3) := by decide +kernel
theorem dX6_next_60 : decode cX6_next 60 = .ok (.aload_n 0, 1) := by decide +kernel
theorem dX6_next_61 : decode cX6_next 61 = .ok (.getfield 98, 3) := by decide +kernel
theorem dX6_next_64 : decode cX6_next 64 = .ok (.goto 23, 3) := by decide +kernel
theorem dX6_next_67 : decode cX6_next 67 = .ok (.bipush 10, 2) := by decide +kernel
theorem dX6_next_69 : decode cX6_next 69 = .ok (.aload_n 0, 1) := by decide +kernel
theorem dX6_next_70 : decode cX6_next 70 = .ok (.getfield 98, 3) := by decide +kernel
theorem dX6_next_73 : decode cX6_next 73 = .ok (.imul, 1) := by decide +kernel
theorem dX6_next_74 : decode cX6_next 74 = .ok (.aload_n 0, 1) := by decide +kernel
theorem dX6_next_75 : decode cX6_next 75 = .ok (.getfield 44, 3) := by decide +kernel
theorem dX6_next_78 : decode cX6_next 78 = .ok (.aload_n 0, 1) := by decide +kernel
theorem dX6_next_79 : decode cX6_next 79 = .ok (.getfield 82, 3) := by decide +kernel
theorem dX6_next_82 : decode cX6_next 82 = .ok (.iaload, 1) := by decide +kernel
theorem dX6_next_83 : decode cX6_next 83 = .ok (.iadd, 1) := by decide +kernel
theorem dX6_next_84 : decode cX6_next 84 = .ok (.bipush 48, 2) := by decide +kernel
theorem dX6_next_86 : decode cX6_next 86 = .ok (.isub, 1) := by decide +kernel
theorem dX6_next_87 : decode cX6_next 87 = .ok (.putfield 98, 3) := by decide +kernel
theorem dX6_next_90 : decode cX6_next 90 = .ok (.aload_n 0, 1) := by decide +kernel
theorem dX6_next_91 : decode cX6_next 91 = .ok (.dup, 1) := by decide +kernel
theorem dX6_next_92 : decode cX6_next 92 = .ok (.getfield 82, 3) := by decide +kernel
theorem dX6_next_95 : decode cX6_next 95 = .ok (.iconst 1, 1) := by decide +kernel
theorem dX6_next_96 : decode cX6_next 96 = .ok (.iadd, 1) := by decide +kernel
theorem dX6_next_97 : decode cX6_next 97 = .ok (.putfield 82, 3) := by decide +kernel
theorem dX6_next_100 : decode cX6_next 100 = .ok (.goto (-57), 3) := by decide +kernel
theorem dX6_next_103 : decode cX6_next 103 = .ok (.aload_n 0, 1) := by decide +kernel
theorem dX6_next_104 : decode cX6_next 104 = .ok (.aload_n 0, 1) := by decide +kernel
theorem dX6_next_105 : decode cX6_next 105 = .ok (.getfield 98, 3) := by decide +kernel
theorem dX6_next_108 : decode cX6_next 108 = .ok (.bipush 99, 2) := by decide +kernel
theorem dX6_next_110 : decode cX6_next 110 = .ok (.if_icmp .gt 30, 3) := by decide +kernel
theorem dX6_next_113 : decode cX6_next 113 = .ok (.aload_n 0, 1) := by decide +kernel
theorem dX6_next_114 : decode cX6_next 114 = .ok (.getfield 44, 3) := by decide +kernel
theorem dX6_next_117 : decode cX6_next 117 = .ok (.aload_n 0, 1) := by decide +kernel
theorem dX6_next_118 : decode cX6_next 118 = .ok (.getfield 88, 3) := by decide +kernel
theorem dX6_next_121 : decode cX6_next 121 = .ok (.iaload, 1) := by decide +kernel
theorem dX6_next_122 : decode cX6_next 122 = .ok (.bipush 48, 2) := by decide +kernel
theorem dX6_next_124 : decode cX6_next 124 = .ok (.if_icmp .ne 21, 3) := by decide +kernel
theorem dX6_next_127 : decode cX6_next 127 = .ok (.aload_n 0, 1) := by decide +kernel
theorem dX6_next_128 : decode cX6_next 128 = .ok (.getfield 82, 3) := by decide +kernel
theorem dX6_next_131 : decode cX6_next 131 = .ok (.aload_n 0, 1) := by decide +kernel
theorem dX6_next_132 : decode cX6_next 132 = .ok (.getfield 88, 3) := by decide +kernel
theorem dX6_next_135 : decode cX6_next 135 = .ok (.isub, 1) := by decide +kernel
theorem dX6_next_136 : decode cX6_next 136 = .ok (.iconst 1, 1) := by decide +kernel
theorem dX6_next_137 : decode cX6_next 137 = .ok (.if_icmp .le 8, 3) := by decide +kernel
theorem dX6_next_140 : decode cX6_next 140 = .ok (.bipush (-2), 2) := by decide +kernel
theorem dX6_next_142 : decode cX6_next 142 = .ok (.goto 4, 3) := by decide +kernel
theorem dX6_next_145 : decode cX6_next 145 = .ok (.iconst 0, 1) := by decide +kernel
theorem dX6_next_146 : decode cX6_next 146 = .ok (.putfield 91, 3) := by decide +kernel
theorem dX6_next_149 : decode cX6_next 149 = .ok (.goto 46, 3) := by decide +kernel
theorem dX6_next_152 : decode cX6_next 152 = .ok (.aload_n 0, 1) := by decide +kernel
theorem dX6_next_153 : decode cX6_next 153 = .ok (.aload_n 0, 1) := by decide +kernel
theorem dX6_next_154 : decode cX6_next 154 = .ok (.getfield 44, 3) := by decide +kernel
theorem dX6_next_157 : decode cX6_next 157 = .ok (.aload_n 0, 1) := by decide +kernel
theorem dX6_next_158 : decode cX6_next 158 = .ok (.getfield 82, 3) := by decide +kernel
theorem dX6_next_161 : decode cX6_next 161 = .ok (.iaload, 1) := by decide +kernel
theorem dX6_next_162 : decode cX6_next 162 = .ok (.invokestatic 101, 3) := by decide +kernel
theorem dX6_next_165 : decode cX6_next 165 = .ok (.ifCond .eq 15, 3) := by decide +kernel
theorem dX6_next_168 : decode cX6_next 168 = .ok (.aload_n 0, 1) := by decide +kernel
theorem dX6_next_169 : decode cX6_next 169 = .ok (.getfield 44, 3) := by decide +kernel
theorem dX6_next_172 : decode cX6_next 172 = .ok (.aload_n 0, 1) := by decide +kernel
theorem dX6_next_173 : decode cX6_next 173 = .ok (.getfield 82, 3) := by decide +kernel
theorem dX6_next_176 : decode cX6_next 176 = .ok (.iaload, 1) := by decide +kernel
theorem dX6_next_177 : decode cX6_next 177 = .ok (.goto 5, 3) := by decide +kernel
theorem dX6_next_180 : decode cX6_next 180 = .ok (.bipush (-2), 2) := by decide +kernel
theorem dX6_next_182 : decode cX6_next 182 = .ok (.putfield 91, 3) := by decide +kernel
theorem dX6_next_185 : decode cX6_next 185 = .ok (.aload_n 0, 1) := by decide +kernel
theorem dX6_next_186 : decode cX6_next 186 = .ok (.dup, 1) := by decide +kernel
theorem dX6_next_187 : decode cX6_next 187 = .ok (.getfield 82, 3) := by decide +kernel
theorem dX6_next_190 : decode cX6_next 190 = .ok (.iconst 1, 1) := by decide +kernel
theorem dX6_next_191 : decode cX6_next 191 = .ok (.iadd, 1) := by decide +kernel
theorem dX6_next_192 : decode cX6_next 192 = .ok (.putfield 82, 3) := by decide +kernel
theorem dX6_next_195 : decode cX6_next 195 = .ok (.return_, 1) := by decide +kernel
theorem dX6_fails_0 : decode cX6_fails 0 = .ok (.aload_n 0, 1) := by decide +kernel
theorem dX6_fails_1 : decode cX6_fails 1 = .ok (.aload_n 0, 1) := by decide +kernel
theorem dX6_fails_2 : decode cX6_fails 2 = .ok (.getfield 88, 3) := by decide +kernel
theorem dX6_fails_5 : decode cX6_fails 5 = .ok (.putfield 105, 3) := by decide +kernel
theorem dX6_fails_8 : decode cX6_fails 8 = .ok (.iconst 0, 1) := by decide +kernel
theorem dX6_fails_9 : decode cX6_fails 9 = .ok (.ireturn, 1) := by decide +kernel
theorem dX6_number_0 : decode cX6_number 0 = .ok (.aload_n 0, 1) := by decide +kernel
theorem dX6_number_1 : decode cX6_number 1 = .ok (.invokevirtual 108, 3) := by decide +kernel
theorem dX6_number_4 : decode cX6_number 4 = .ok (.aload_n 0, 1) := by decide +kernel
theorem dX6_number_5 : decode cX6_number 5 = .ok (.getfield 91, 3) := by decide +kernel
theorem dX6_number_8 : decode cX6_number 8 = .ok (.ifCond .ne 15, 3) := by decide +kernel
theorem dX6_number_11 : decode cX6_number 11 = .ok (.aload_n 0, 1) := by decide +kernel
theorem dX6_number_12 : decode cX6_number 12 = .ok (.getfield 98, 3) := by decide +kernel
theorem dX6_number_15 : decode cX6_number 15 = .ok (.iload_n 1, 1) := by decide +kernel
theorem dX6_number_16 : decode cX6_number 16 = .ok (.iload_n 2, 1) := by decide +kernel
theorem dX6_number_17 : decode cX6_number 17 = .ok (.invokestatic 76, 3) := by decide +kernel
theorem dX6_number_20 : decode cX6_number 20 = .ok (.ifCond .ne 10, 3) := by decide +kernel
theorem dX6_number_23 : decode cX6_number 23 = .ok (.aload_n 0, 1) := by decide +kernel
theorem dX6_number_24 : decode cX6_number 24 = .ok (.invokevirtual 111, 3) := by decide +kernel
theorem dX6_number_27 : decode cX6_number 27 = .ok (.ifCond .eq 7, 3) := by decide +kernel
theorem dX6_number_30 : decode cX6_number 30 = .ok (.iconst 1, 1) := by decide +kernel
theorem dX6_number_31 : decode cX6_number 31 = .ok (.goto 4, 3) := by decide +kernel
theorem dX6_number_34 : decode cX6_number 34 = .ok (.iconst 0, 1) := by decide +kernel
theorem dX6_number_35 : decode cX6_number 35 = .ok (.ireturn, 1) := by decide +kernel
theorem dX6_ends_0 : decode cX6_ends 0 = .ok (.aload_n 0, 1) := by decide +kernel
theorem dX6_ends_1 : decode cX6_ends 1 = .ok (.invokevirtual 108, 3) := by decide +kernel
theorem dX6_ends_4 : decode cX6_ends 4 = .ok (.aload_n 0, 1) := by decide +kernel
theorem dX6_ends_5 : decode cX6_ends 5 = .ok (.getfield 91, 3) := by decide +kernel
theorem dX6_ends_8 : decode cX6_ends 8 = .ok (.bipush 59, 2) := by decide +kernel
theorem dX6_ends_10 : decode cX6_ends 10 = .ok (.if_icmp .eq 10, 3) := by decide +kernel
theorem dX6_ends_13 : decode cX6_ends 13 = .ok (.aload_n 0, 1) := by decide +kernel
theorem dX6_ends_14 : decode cX6_ends 14 = .ok (.invokevirtual 111, 3) := by decide +kernel
theorem dX6_ends_17 : decode cX6_ends 17 = .ok (.ifCond .eq 7, 3) := by decide +kernel
theorem dX6_ends_20 : decode cX6_ends 20 = .ok (.iconst 1, 1) := by decide +kernel
theorem dX6_ends_21 : decode cX6_ends 21 = .ok (.goto 4, 3) := by decide +kernel
theorem dX6_ends_24 : decode cX6_ends 24 = .ok (.iconst 0, 1) := by decide +kernel
theorem dX6_ends_25 : decode cX6_ends 25 = .ok (.ireturn, 1) := by decide +kernel
theorem dX6_readsOnce_0 : decode cX6_readsOnce 0 = .ok (.aload_n 0, 1) := by decide +kernel
theorem dX6_readsOnce_1 : decode cX6_readsOnce 1 = .ok (.getfield 114, 3) := by decide +kernel
theorem dX6_readsOnce_4 : decode cX6_readsOnce 4 = .ok (.iload_n 1, 1) := by decide +kernel
theorem dX6_readsOnce_5 : decode cX6_readsOnce 5 = .ok (.invokestatic 117, 3) := by decide +kernel
theorem dX6_readsOnce_8 : decode cX6_readsOnce 8 = .ok (.ifCond .ne 12, 3) := by decide +kernel
theorem dX6_readsOnce_11 : decode cX6_readsOnce 11 = .ok (.aload_n 0, 1) := by decide +kernel
theorem dX6_readsOnce_12 : decode cX6_readsOnce 12 = .ok (.getfield 47, 3) := by decide +kernel
theorem dX6_readsOnce_15 : decode cX6_readsOnce 15 = .ok (.iconst 3, 1) := by decide +kernel
theorem dX6_readsOnce_16 : decode cX6_readsOnce 16 = .ok (.iaload, 1) := by decide +kernel
theorem dX6_readsOnce_17 : decode cX6_readsOnce 17 = .ok (.ifCond .le 8, 3) := by decide +kernel
theorem dX6_readsOnce_20 : decode cX6_readsOnce 20 = .ok (.aload_n 0, 1) := by decide +kernel
theorem dX6_readsOnce_21 : decode cX6_readsOnce 21 = .ok (.invokevirtual 111, 3) := by decide +kernel
theorem dX6_readsOnce_24 : decode cX6_readsOnce 24 = .ok (.ireturn, 1) := by decide +kernel
theorem dX6_readsOnce_25 : decode cX6_readsOnce 25 = .ok (.aload_n 0, 1) := by decide +kernel
theorem dX6_readsOnce_26 : decode cX6_readsOnce 26 = .ok (.dup, 1) := by decide +kernel
theorem dX6_readsOnce_27 : decode cX6_readsOnce 27 = .ok (.getfield 114, 3) := by decide +kernel
theorem dX6_readsOnce_30 : decode cX6_readsOnce 30 = .ok (.iconst 1, 1) := by decide +kernel
theorem dX6_readsOnce_31 : decode cX6_readsOnce 31 = .ok (.iload_n 1, 1) := by decide +kernel
theorem dX6_readsOnce_32 : decode cX6_readsOnce 32 = .ok (.ishl, 1) := by decide +kernel
theorem dX6_readsOnce_33 : decode cX6_readsOnce 33 = .ok (.ior, 1) := by decide +kernel
theorem dX6_readsOnce_34 : decode cX6_readsOnce 34 = .ok (.putfield 114, 3) := by decide +kernel
theorem dX6_readsOnce_37 : decode cX6_readsOnce 37 = .ok (.aload_n 0, 1) := by decide +kernel
theorem dX6_readsOnce_38 : decode cX6_readsOnce 38 = .ok (.iload_n 2, 1) := by decide +kernel
theorem dX6_readsOnce_39 : decode cX6_readsOnce 39 = .ok (.iload_n 3, 1) := by decide +kernel
theorem dX6_readsOnce_40 : decode cX6_readsOnce 40 = .ok (.invokevirtual 121, 3) := by decide +kernel
theorem dX6_readsOnce_43 : decode cX6_readsOnce 43 = .ok (.ifCond .ne 5, 3) := by decide +kernel
theorem dX6_readsOnce_46 : decode cX6_readsOnce 46 = .ok (.iconst 0, 1) := by decide +kernel
theorem dX6_readsOnce_47 : decode cX6_readsOnce 47 = .ok (.ireturn, 1) := by decide +kernel
theorem dX6_readsOnce_48 : decode cX6_readsOnce 48 = .ok (.iload_n 1, 1) := by decide +kernel
theorem dX6_readsOnce_49 : decode cX6_readsOnce 49 = .ok (.iconst 3, 1) := by decide +kernel
theorem dX6_readsOnce_50 : decode cX6_readsOnce 50 = .ok (.if_icmp .ne 14, 3) := by decide +kernel
theorem dX6_readsOnce_53 : decode cX6_readsOnce 53 = .ok (.aload_n 0, 1) := by decide +kernel
theorem dX6_readsOnce_54 : decode cX6_readsOnce 54 = .ok (.aload_n 0, 1) := by decide +kernel
theorem dX6_readsOnce_55 : decode cX6_readsOnce 55 = .ok (.getfield 98, 3) := by decide +kernel
theorem dX6_readsOnce_58 : decode cX6_readsOnce 58 = .ok (.putfield 124, 3) := by decide +kernel
theorem dX6_readsOnce_61 : decode cX6_readsOnce 61 = .ok (.goto 13, 3) := by decide +kernel
theorem dX6_readsOnce_64 : decode cX6_readsOnce 64 = .ok (.aload_n 0, 1) := by decide +kernel
theorem dX6_readsOnce_65 : decode cX6_readsOnce 65 = .ok (.getfield 47, 3) := by decide +kernel
theorem dX6_readsOnce_68 : decode cX6_readsOnce 68 = .ok (.iload_n 1, 1) := by decide +kernel
theorem dX6_readsOnce_69 : decode cX6_readsOnce 69 = .ok (.aload_n 0, 1) := by decide +kernel
theorem dX6_readsOnce_70 : decode cX6_readsOnce 70 = .ok (.getfield 98, 3) := by decide +kernel
theorem dX6_readsOnce_73 : decode cX6_readsOnce 73 = .ok (.iastore, 1) := by decide +kernel
theorem dX6_readsOnce_74 : decode cX6_readsOnce 74 = .ok (.aload_n 0, 1) := by decide +kernel
theorem dX6_readsOnce_75 : decode cX6_readsOnce 75 = .ok (.invokevirtual 127, 3) := by decide +kernel
theorem dX6_readsOnce_78 : decode cX6_readsOnce 78 = .ok (.ireturn, 1) := by decide +kernel
theorem dX6_whole_0 : decode cX6_whole 0 = .ok (.aload_n 0, 1) := by decide +kernel
theorem dX6_whole_1 : decode cX6_whole 1 = .ok (.invokevirtual 108, 3) := by decide +kernel
theorem dX6_whole_4 : decode cX6_whole 4 = .ok (.aload_n 0, 1) := by decide +kernel
theorem dX6_whole_5 : decode cX6_whole 5 = .ok (.getfield 91, 3) := by decide +kernel
theorem dX6_whole_8 : decode cX6_whole 8 = .ok (.bipush 45, 2) := by decide +kernel
theorem dX6_whole_10 : decode cX6_whole 10 = .ok (.if_icmp .ne 7, 3) := by decide +kernel
theorem dX6_whole_13 : decode cX6_whole 13 = .ok (.iconst 1, 1) := by decide +kernel
theorem dX6_whole_14 : decode cX6_whole 14 = .ok (.goto 4, 3) := by decide +kernel
theorem dX6_whole_17 : decode cX6_whole 17 = .ok (.iconst 0, 1) := by decide +kernel
theorem dX6_whole_18 : decode cX6_whole 18 = .ok (.istore_n 1, 1) := by decide +kernel
theorem dX6_whole_19 : decode cX6_whole 19 = .ok (.iload_n 1, 1) := by decide +kernel
theorem dX6_whole_20 : decode cX6_whole 20 = .ok (.ifCond .eq 7, 3) := by decide +kernel
theorem dX6_whole_23 : decode cX6_whole 23 = .ok (.aload_n 0, 1) := by decide +kernel
theorem dX6_whole_24 : decode cX6_whole 24 = .ok (.invokevirtual 108, 3) := by decide +kernel
theorem dX6_whole_27 : decode cX6_whole 27 = .ok (.aload_n 0, 1) := by decide +kernel
theorem dX6_whole_28 : decode cX6_whole 28 = .ok (.getfield 91, 3) := by decide +kernel
theorem dX6_whole_31 : decode cX6_whole 31 = .ok (.ifCond .eq 8, 3) := by decide +kernel
theorem dX6_whole_34 : decode cX6_whole 34 = .ok (.aload_n 0, 1) := by decide +kernel
theorem dX6_whole_35 : decode cX6_whole 35 = .ok (.invokevirtual 111, 3) := by decide +kernel
theorem dX6_whole_38 : decode cX6_whole 38 = .ok (.ireturn, 1) := by decide +kernel
theorem dX6_whole_39 : decode cX6_whole 39 = .ok (.aload_n 0, 1) := by decide +kernel
theorem dX6_whole_40 : decode cX6_whole 40 = .ok (.iload_n 1, 1) := by decide +kernel
theorem dX6_whole_41 : decode cX6_whole 41 = .ok (.ifCond .eq 11, 3) := by decide +kernel
theorem dX6_whole_44 : decode cX6_whole 44 = .ok (.aload_n 0, 1) := by decide +kernel
theorem dX6_whole_45 : decode cX6_whole 45 = .ok (.getfield 98, 3) := by decide +kernel
theorem dX6_whole_48 : decode cX6_whole 48 = .ok (.ineg, 1) := by decide +kernel
theorem dX6_whole_49 : decode cX6_whole 49 = .ok (.goto 7, 3) := by decide +kernel
theorem dX6_whole_52 : decode cX6_whole 52 = .ok (.aload_n 0, 1) := by decide +kernel
theorem dX6_whole_53 : decode cX6_whole 53 = .ok (.getfield 98, 3) := by decide +kernel
theorem dX6_whole_56 : decode cX6_whole 56 = .ok (.putfield 98, 3) := by decide +kernel
theorem dX6_whole_59 : decode cX6_whole 59 = .ok (.iconst 1, 1) := by decide +kernel
theorem dX6_whole_60 : decode cX6_whole 60 = .ok (.ireturn, 1) := by decide +kernel
theorem dX6_readsWish_0 : decode cX6_readsWish 0 = .ok (.aload_n 0, 1) := by decide +kernel
theorem dX6_readsWish_1 : decode cX6_readsWish 1 = .ok (.getfield 130, 3) := by decide +kernel
theorem dX6_readsWish_4 : decode cX6_readsWish 4 = .ok (.bipush 17, 2) := by decide +kernel
theorem dX6_readsWish_6 : decode cX6_readsWish 6 = .ok (.if_icmp .ne 8, 3) := by decide +kernel
theorem dX6_readsWish_9 : decode cX6_readsWish 9 = .ok (.aload_n 0, 1) := by decide +kernel
theorem dX6_readsWish_10 : decode cX6_readsWish 10 = .ok (.invokevirtual 111, 3) := by decide +kernel
theorem dX6_readsWish_13 : decode cX6_readsWish 13 = .ok (.ireturn, 1) := by decide +kernel
theorem dX6_readsWish_14 : decode cX6_readsWish 14 = .ok (.aload_n 0, 1) := by decide +kernel
theorem dX6_readsWish_15 : decode cX6_readsWish 15 = .ok (.invokevirtual 133, 3) := by decide +kernel
theorem dX6_readsWish_18 : decode cX6_readsWish 18 = .ok (.ifCond .ne 5, 3) := by decide +kernel
theorem dX6_readsWish_21 : decode cX6_readsWish 21 = .ok (.iconst 0, 1) := by decide +kernel
theorem dX6_readsWish_22 : decode cX6_readsWish 22 = .ok (.ireturn, 1) := by decide +kernel
theorem dX6_readsWish_23 : decode cX6_readsWish 23 = .ok (.aload_n 0, 1) := by decide +kernel
theorem dX6_readsWish_24 : decode cX6_readsWish 24 = .ok (.getfield 98, 3) := by decide +kernel
theorem dX6_readsWish_27 : decode cX6_readsWish 27 = .ok (.istore_n 1, 1) := by decide +kernel
theorem dX6_readsWish_28 : decode cX6_readsWish 28 = .ok (.aload_n 0, 1) := by decide +kernel
theorem dX6_readsWish_29 : decode cX6_readsWish 29 = .ok (.invokevirtual 133, 3) := by decide +kernel
theorem dX6_readsWish_32 : decode cX6_readsWish 32 = .ok (.ifCond .ne 5, 3) := by decide +kernel
theorem dX6_readsWish_35 : decode cX6_readsWish 35 = .ok (.iconst 0, 1) := by decide +kernel
theorem dX6_readsWish_36 : decode cX6_readsWish 36 = .ok (.ireturn, 1) := by decide +kernel
theorem dX6_readsWish_37 : decode cX6_readsWish 37 = .ok (.aload_n 0, 1) := by decide +kernel
theorem dX6_readsWish_38 : decode cX6_readsWish 38 = .ok (.dup, 1) := by decide +kernel
theorem dX6_readsWish_39 : decode cX6_readsWish 39 = .ok (.getfield 130, 3) := by decide +kernel
theorem dX6_readsWish_42 : decode cX6_readsWish 42 = .ok (.iconst 1, 1) := by decide +kernel
theorem dX6_readsWish_43 : decode cX6_readsWish 43 = .ok (.iadd, 1) := by decide +kernel
theorem dX6_readsWish_44 : decode cX6_readsWish 44 = .ok (.putfield 130, 3) := by decide +kernel
theorem dX6_readsWish_47 : decode cX6_readsWish 47 = .ok (.aload_n 0, 1) := by decide +kernel
theorem dX6_readsWish_48 : decode cX6_readsWish 48 = .ok (.getfield 47, 3) := by decide +kernel
theorem dX6_readsWish_51 : decode cX6_readsWish 51 = .ok (.bipush 17, 2) := by decide +kernel
theorem dX6_readsWish_53 : decode cX6_readsWish 53 = .ok (.aload_n 0, 1) := by decide +kernel
theorem dX6_readsWish_54 : decode cX6_readsWish 54 = .ok (.getfield 130, 3) := by decide +kernel
theorem dX6_readsWish_57 : decode cX6_readsWish 57 = .ok (.iadd, 1) := by decide +kernel
theorem dX6_readsWish_58 : decode cX6_readsWish 58 = .ok (.iload_n 1, 1) := by decide +kernel
theorem dX6_readsWish_59 : decode cX6_readsWish 59 = .ok (.iastore, 1) := by decide +kernel
theorem dX6_readsWish_60 : decode cX6_readsWish 60 = .ok (.aload_n 0, 1) := by decide +kernel
theorem dX6_readsWish_61 : decode cX6_readsWish 61 = .ok (.getfield 47, 3) := by decide +kernel
theorem dX6_readsWish_64 : decode cX6_readsWish 64 = .ok (.bipush 35, 2) := by decide +kernel
theorem dX6_readsWish_66 : decode cX6_readsWish 66 = .ok (.aload_n 0, 1) := by decide +kernel
theorem dX6_readsWish_67 : decode cX6_readsWish 67 = .ok (.getfield 130, 3) := by decide +kernel
theorem dX6_readsWish_70 : decode cX6_readsWish 70 = .ok (.iadd, 1) := by decide +kernel
theorem dX6_readsWish_71 : decode cX6_readsWish 71 = .ok (.aload_n 0, 1) := by decide +kernel
theorem dX6_readsWish_72 : decode cX6_readsWish 72 = .ok (.getfield 98, 3) := by decide +kernel
theorem dX6_readsWish_75 : decode cX6_readsWish 75 = .ok (.iastore, 1) := by decide +kernel
theorem dX6_readsWish_76 : decode cX6_readsWish 76 = .ok (.aload_n 0, 1) := by decide +kernel
theorem dX6_readsWish_77 : decode cX6_readsWish 77 = .ok (.invokevirtual 127, 3) := by decide +kernel
theorem dX6_readsWish_80 : decode cX6_readsWish 80 = .ok (.ireturn, 1) := by decide +kernel
theorem dX6_readsRing_0 : decode cX6_readsRing 0 = .ok (.aload_n 0, 1) := by decide +kernel
theorem dX6_readsRing_1 : decode cX6_readsRing 1 = .ok (.getfield 47, 3) := by decide +kernel
theorem dX6_readsRing_4 : decode cX6_readsRing 4 = .ok (.iconst 3, 1) := by decide +kernel
theorem dX6_readsRing_5 : decode cX6_readsRing 5 = .ok (.iaload, 1) := by decide +kernel
theorem dX6_readsRing_6 : decode cX6_readsRing 6 = .ok (.bipush 12, 2) := by decide +kernel
theorem dX6_readsRing_8 : decode cX6_readsRing 8 = .ok (.if_icmp .ne 8, 3) := by decide +kernel
theorem dX6_readsRing_11 : decode cX6_readsRing 11 = .ok (.aload_n 0, 1) := by decide +kernel
theorem dX6_readsRing_12 : decode cX6_readsRing 12 = .ok (.invokevirtual 111, 3) := by decide +kernel
theorem dX6_readsRing_15 : decode cX6_readsRing 15 = .ok (.ireturn, 1) := by decide +kernel
theorem dX6_readsRing_16 : decode cX6_readsRing 16 = .ok (.aload_n 0, 1) := by decide +kernel
theorem dX6_readsRing_17 : decode cX6_readsRing 17 = .ok (.iconst 0, 1) := by decide +kernel
theorem dX6_readsRing_18 : decode cX6_readsRing 18 = .ok (.bipush 7, 2) := by decide +kernel
theorem dX6_readsRing_20 : decode cX6_readsRing 20 = .ok (.invokevirtual 121, 3) := by decide +kernel
theorem dX6_readsRing_23 : decode cX6_readsRing 23 = .ok (.ifCond .ne 5, 3) := by decide +kernel
theorem dX6_readsRing_26 : decode cX6_readsRing 26 = .ok (.iconst 0, 1) := by decide +kernel
theorem dX6_readsRing_27 : decode cX6_readsRing 27 = .ok (.ireturn, 1) := by decide +kernel
theorem dX6_readsRing_28 : decode cX6_readsRing 28 = .ok (.aload_n 0, 1) := by decide +kernel
theorem dX6_readsRing_29 : decode cX6_readsRing 29 = .ok (.aload_n 0, 1) := by decide +kernel
theorem dX6_readsRing_30 : decode cX6_readsRing 30 = .ok (.getfield 47, 3) := by decide +kernel
theorem dX6_readsRing_33 : decode cX6_readsRing 33 = .ok (.aload_n 0, 1) := by decide +kernel
theorem dX6_readsRing_34 : decode cX6_readsRing 34 = .ok (.getfield 124, 3) := by decide +kernel
theorem dX6_readsRing_37 : decode cX6_readsRing 37 = .ok (.invokevirtual 136, 3) := by decide +kernel
theorem dX6_readsRing_40 : decode cX6_readsRing 40 = .ok (.aload_n 0, 1) := by decide +kernel
theorem dX6_readsRing_41 : decode cX6_readsRing 41 = .ok (.aload_n 0, 1) := by decide +kernel
theorem dX6_readsRing_42 : decode cX6_readsRing 42 = .ok (.getfield 47, 3) := by decide +kernel
theorem dX6_readsRing_45 : decode cX6_readsRing 45 = .ok (.aload_n 0, 1) := by decide +kernel
theorem dX6_readsRing_46 : decode cX6_readsRing 46 = .ok (.getfield 47, 3) := by decide +kernel
theorem dX6_readsRing_49 : decode cX6_readsRing 49 = .ok (.iconst 3, 1) := by decide +kernel
theorem dX6_readsRing_50 : decode cX6_readsRing 50 = .ok (.iaload, 1) := by decide +kernel
theorem dX6_readsRing_51 : decode cX6_readsRing 51 = .ok (.iconst 1, 1) := by decide +kernel
theorem dX6_readsRing_52 : decode cX6_readsRing 52 = .ok (.iadd, 1) := by decide +kernel
theorem dX6_readsRing_53 : decode cX6_readsRing 53 = .ok (.aload_n 0, 1) := by decide +kernel
theorem dX6_readsRing_54 : decode cX6_readsRing 54 = .ok (.getfield 98, 3) := by decide +kernel
theorem dX6_readsRing_57 : decode cX6_readsRing 57 = .ok (.aload_n 0, 1) := by decide +kernel
theorem dX6_readsRing_58 : decode cX6_readsRing 58 = .ok (.getfield 124, 3) := by decide +kernel
theorem dX6_readsRing_61 : decode cX6_readsRing 61 = .ok (.invokevirtual 140, 3) := by decide +kernel
theorem dX6_readsRing_64 : decode cX6_readsRing 64 = .ok (.ifCond .ne 8, 3) := by decide +kernel
theorem dX6_readsRing_67 : decode cX6_readsRing 67 = .ok (.aload_n 0, 1) := by decide +kernel
theorem dX6_readsRing_68 : decode cX6_readsRing 68 = .ok (.invokevirtual 111, 3) := by decide +kernel
theorem dX6_readsRing_71 : decode cX6_readsRing 71 = .ok (.ireturn, 1) := by decide +kernel
theorem dX6_readsRing_72 : decode cX6_readsRing 72 = .ok (.aload_n 0, 1) := by decide +kernel
theorem dX6_readsRing_73 : decode cX6_readsRing 73 = .ok (.getfield 47, 3) := by decide +kernel
theorem dX6_readsRing_76 : decode cX6_readsRing 76 = .ok (.iconst 3, 1) := by decide +kernel
theorem dX6_readsRing_77 : decode cX6_readsRing 77 = .ok (.dup2, 1) := by decide +kernel
theorem dX6_readsRing_78 : decode cX6_readsRing 78 = .ok (.iaload, 1) := by decide +kernel
theorem dX6_readsRing_79 : decode cX6_readsRing 79 = .ok (.iconst 1, 1) := by decide +kernel
theorem dX6_readsRing_80 : decode cX6_readsRing 80 = .ok (.iadd, 1) := by decide +kernel
theorem dX6_readsRing_81 : decode cX6_readsRing 81 = .ok (.iastore, 1) := by decide +kernel
theorem dX6_readsRing_82 : decode cX6_readsRing 82 = .ok (.aload_n 0, 1) := by decide +kernel
theorem dX6_readsRing_83 : decode cX6_readsRing 83 = .ok (.getfield 47, 3) := by decide +kernel
theorem dX6_readsRing_86 : decode cX6_readsRing 86 = .ok (.iconst 4, 1) := by decide +kernel
theorem dX6_readsRing_87 : decode cX6_readsRing 87 = .ok (.aload_n 0, 1) := by decide +kernel
theorem dX6_readsRing_88 : decode cX6_readsRing 88 = .ok (.getfield 47, 3) := by decide +kernel
theorem dX6_readsRing_91 : decode cX6_readsRing 91 = .ok (.iconst 3, 1) := by decide +kernel
theorem dX6_readsRing_92 : decode cX6_readsRing 92 = .ok (.iaload, 1) := by decide +kernel
theorem dX6_readsRing_93 : decode cX6_readsRing 93 = .ok (.iadd, 1) := by decide +kernel
theorem dX6_readsRing_94 : decode cX6_readsRing 94 = .ok (.aload_n 0, 1) := by decide +kernel
theorem dX6_readsRing_95 : decode cX6_readsRing 95 = .ok (.getfield 98, 3) := by decide +kernel
theorem dX6_readsRing_98 : decode cX6_readsRing 98 = .ok (.iastore, 1) := by decide +kernel
theorem dX6_readsRing_99 : decode cX6_readsRing 99 = .ok (.aload_n 0, 1) := by decide +kernel
theorem dX6_readsRing_100 : decode cX6_readsRing 100 = .ok (.invokevirtual 127, 3) := by decide +kernel
theorem dX6_readsRing_103 : decode cX6_readsRing 103 = .ok (.ireturn, 1) := by decide +kernel
theorem dX6_readsItem_0 : decode cX6_readsItem 0 = .ok (.aload_n 0, 1) := by decide +kernel
theorem dX6_readsItem_1 : decode cX6_readsItem 1 = .ok (.invokevirtual 108, 3) := by decide +kernel
theorem dX6_readsItem_4 : decode cX6_readsItem 4 = .ok (.aload_n 0, 1) := by decide +kernel
theorem dX6_readsItem_5 : decode cX6_readsItem 5 = .ok (.getfield 91, 3) := by decide +kernel
theorem dX6_readsItem_8 : decode cX6_readsItem 8 = .ok (.lookupswitch 103 #[(98, 68), (106, 76), (107, 98), (109, 84), (116, 60), (119, 93)], 60) := by decide +kernel
theorem dX6_readsItem_68 : decode cX6_readsItem 68 = .ok (.aload_n 0, 1) := by decide +kernel
theorem dX6_readsItem_69 : decode cX6_readsItem 69 = .ok (.iconst 3, 1) := by decide +kernel
theorem dX6_readsItem_70 : decode cX6_readsItem 70 = .ok (.iconst 1, 1) := by decide +kernel
theorem dX6_readsItem_71 : decode cX6_readsItem 71 = .ok (.iconst 3, 1) := by decide +kernel
theorem dX6_readsItem_72 : decode cX6_readsItem 72 = .ok (.invokevirtual 144, 3) := by decide +kernel
theorem dX6_readsItem_75 : decode cX6_readsItem 75 = .ok (.ireturn, 1) := by decide +kernel
theorem dX6_readsItem_76 : decode cX6_readsItem 76 = .ok (.aload_n 0, 1) := by decide +kernel
theorem dX6_readsItem_77 : decode cX6_readsItem 77 = .ok (.iconst 0, 1) := by decide +kernel
theorem dX6_readsItem_78 : decode cX6_readsItem 78 = .ok (.iconst 0, 1) := by decide +kernel
theorem dX6_readsItem_79 : decode cX6_readsItem 79 = .ok (.iconst 3, 1) := by decide +kernel
theorem dX6_readsItem_80 : decode cX6_readsItem 80 = .ok (.invokevirtual 144, 3) := by decide +kernel
theorem dX6_readsItem_83 : decode cX6_readsItem 83 = .ok (.ireturn, 1) := by decide +kernel
theorem dX6_readsItem_84 : decode cX6_readsItem 84 = .ok (.aload_n 0, 1) := by decide +kernel
theorem dX6_readsItem_85 : decode cX6_readsItem 85 = .ok (.iconst 1, 1) := by decide +kernel
theorem dX6_readsItem_86 : decode cX6_readsItem 86 = .ok (.iconst 0, 1) := by decide +kernel
theorem dX6_readsItem_87 : decode cX6_readsItem 87 = .ok (.iconst 2, 1) := by decide +kernel
theorem dX6_readsItem_88 : decode cX6_readsItem 88 = .ok (.invokevirtual 144, 3) := by decide +kernel
theorem dX6_readsItem_91 : decode cX6_readsItem 91 = .ok (.ireturn, 1) := by decide +kernel
theorem dX6_readsItem_92 : decode cX6_readsItem 92 = .ok (.aload_n 0, 1) := by decide +kernel
theorem dX6_readsItem_93 : decode cX6_readsItem 93 = .ok (.iconst 2, 1) := by decide +kernel
theorem dX6_readsItem_94 : decode cX6_readsItem 94 = .ok (.iconst 0, 1) := by decide +kernel
theorem dX6_readsItem_95 : decode cX6_readsItem 95 = .ok (.bipush 20, 2) := by decide +kernel
theorem dX6_readsItem_97 : decode cX6_readsItem 97 = .ok (.invokevirtual 144, 3) := by decide +kernel
theorem dX6_readsItem_100 : decode cX6_readsItem 100 = .ok (.ireturn, 1) := by decide +kernel
theorem dX6_readsItem_101 : decode cX6_readsItem 101 = .ok (.aload_n 0, 1) := by decide +kernel
theorem dX6_readsItem_102 : decode cX6_readsItem 102 = .ok (.invokevirtual 147, 3) := by decide +kernel
theorem dX6_readsItem_105 : decode cX6_readsItem 105 = .ok (.ireturn, 1) := by decide +kernel
theorem dX6_readsItem_106 : decode cX6_readsItem 106 = .ok (.aload_n 0, 1) := by decide +kernel
theorem dX6_readsItem_107 : decode cX6_readsItem 107 = .ok (.invokevirtual 150, 3) := by decide +kernel
theorem dX6_readsItem_110 : decode cX6_readsItem 110 = .ok (.ireturn, 1) := by decide +kernel
theorem dX6_readsItem_111 : decode cX6_readsItem 111 = .ok (.aload_n 0, 1) := by decide +kernel
theorem dX6_readsItem_112 : decode cX6_readsItem 112 = .ok (.invokevirtual 111, 3) := by decide +kernel
theorem dX6_readsItem_115 : decode cX6_readsItem 115 = .ok (.ireturn, 1) := by decide +kernel
theorem dX6_tunnel_0 : decode cX6_tunnel 0 = .ok (.aload_n 0, 1) := by decide +kernel
theorem dX6_tunnel_1 : decode cX6_tunnel 1 = .ok (.getfield 47, 3) := by decide +kernel
theorem dX6_tunnel_4 : decode cX6_tunnel 4 = .ok (.invokestatic 50, 3) := by decide +kernel
theorem dX6_tunnel_7 : decode cX6_tunnel 7 = .ok (.aload_n 0, 1) := by decide +kernel
theorem dX6_tunnel_8 : decode cX6_tunnel 8 = .ok (.iconst 0, 1) := by decide +kernel
theorem dX6_tunnel_9 : decode cX6_tunnel 9 = .ok (.putfield 114, 3) := by decide +kernel
theorem dX6_tunnel_12 : decode cX6_tunnel 12 = .ok (.aload_n 0, 1) := by decide +kernel
theorem dX6_tunnel_13 : decode cX6_tunnel 13 = .ok (.iconst 1, 1) := by decide +kernel
theorem dX6_tunnel_14 : decode cX6_tunnel 14 = .ok (.putfield 124, 3) := by decide +kernel
theorem dX6_tunnel_17 : decode cX6_tunnel 17 = .ok (.aload_n 0, 1) := by decide +kernel
theorem dX6_tunnel_18 : decode cX6_tunnel 18 = .ok (.iconst 0, 1) := by decide +kernel
theorem dX6_tunnel_19 : decode cX6_tunnel 19 = .ok (.putfield 130, 3) := by decide +kernel
theorem dX6_tunnel_22 : decode cX6_tunnel 22 = .ok (.aload_n 0, 1) := by decide +kernel
theorem dX6_tunnel_23 : decode cX6_tunnel 23 = .ok (.iconst 0, 1) := by decide +kernel
theorem dX6_tunnel_24 : decode cX6_tunnel 24 = .ok (.putfield 82, 3) := by decide +kernel
theorem dX6_tunnel_27 : decode cX6_tunnel 27 = .ok (.iconst 0, 1) := by decide +kernel
theorem dX6_tunnel_28 : decode cX6_tunnel 28 = .ok (.istore_n 1, 1) := by decide +kernel
theorem dX6_tunnel_29 : decode cX6_tunnel 29 = .ok (.aload_n 0, 1) := by decide +kernel
theorem dX6_tunnel_30 : decode cX6_tunnel 30 = .ok (.invokevirtual 85, 3) := by decide +kernel
theorem dX6_tunnel_33 : decode cX6_tunnel 33 = .ok (.aload_n 0, 1) := by decide +kernel
theorem dX6_tunnel_34 : decode cX6_tunnel 34 = .ok (.getfield 82, 3) := by decide +kernel
theorem dX6_tunnel_37 : decode cX6_tunnel 37 = .ok (.aload_n 0, 1) := by decide +kernel
theorem dX6_tunnel_38 : decode cX6_tunnel 38 = .ok (.getfield 79, 3) := by decide +kernel
theorem dX6_tunnel_41 : decode cX6_tunnel 41 = .ok (.if_icmp .ge 28, 3) := by decide +kernel
theorem dX6_tunnel_44 : decode cX6_tunnel 44 = .ok (.aload_n 0, 1) := by decide +kernel
theorem dX6_tunnel_45 : decode cX6_tunnel 45 = .ok (.invokevirtual 153, 3) := by decide +kernel
theorem dX6_tunnel_48 : decode cX6_tunnel 48 = .ok (.ifCond .ne 11, 3) := by decide +kernel
theorem dX6_tunnel_51 : decode cX6_tunnel 51 = .ok (.bipush (-10), 2) := by decide +kernel
theorem dX6_tunnel_53 : decode cX6_tunnel 53 = .ok (.aload_n 0, 1) := by decide +kernel
theorem dX6_tunnel_54 : decode cX6_tunnel 54 = .ok (.getfield 105, 3) := by decide +kernel
theorem dX6_tunnel_57 : decode cX6_tunnel 57 = .ok (.isub, 1) := by decide +kernel
theorem dX6_tunnel_58 : decode cX6_tunnel 58 = .ok (.ireturn, 1) := by decide +kernel
theorem dX6_tunnel_59 : decode cX6_tunnel 59 = .ok (.iinc 1 1, 3) := by decide +kernel
theorem dX6_tunnel_62 : decode cX6_tunnel 62 = .ok (.aload_n 0, 1) := by decide +kernel
theorem dX6_tunnel_63 : decode cX6_tunnel 63 = .ok (.invokevirtual 85, 3) := by decide +kernel
theorem dX6_tunnel_66 : decode cX6_tunnel 66 = .ok (.goto (-33), 3) := by decide +kernel
theorem dX6_tunnel_69 : decode cX6_tunnel 69 = .ok (.aload_n 0, 1) := by decide +kernel
theorem dX6_tunnel_70 : decode cX6_tunnel 70 = .ok (.iconst 0, 1) := by decide +kernel
theorem dX6_tunnel_71 : decode cX6_tunnel 71 = .ok (.putfield 79, 3) := by decide +kernel
theorem dX6_tunnel_74 : decode cX6_tunnel 74 = .ok (.aload_n 0, 1) := by decide +kernel
theorem dX6_tunnel_75 : decode cX6_tunnel 75 = .ok (.aload_n 0, 1) := by decide +kernel
theorem dX6_tunnel_76 : decode cX6_tunnel 76 = .ok (.getfield 124, 3) := by decide +kernel
theorem dX6_tunnel_79 : decode cX6_tunnel 79 = .ok (.putfield 54, 3) := by decide +kernel
theorem dX6_tunnel_82 : decode cX6_tunnel 82 = .ok (.iconst 0, 1) := by decide +kernel
theorem dX6_tunnel_83 : decode cX6_tunnel 83 = .ok (.istore_n 2, 1) := by decide +kernel
theorem dX6_tunnel_84 : decode cX6_tunnel 84 = .ok (.iload_n 2, 1) := by decide +kernel
theorem dX6_tunnel_85 : decode cX6_tunnel 85 = .ok (.bipush 53, 2) := by decide +kernel
theorem dX6_tunnel_87 : decode cX6_tunnel 87 = .ok (.if_icmp .ge 21, 3) := by decide +kernel
theorem dX6_tunnel_90 : decode cX6_tunnel 90 = .ok (.aload_n 0, 1) := by decide +kernel
theorem dX6_tunnel_91 : decode cX6_tunnel 91 = .ok (.getfield 7, 3) := by decide +kernel
theorem dX6_tunnel_94 : decode cX6_tunnel 94 = .ok (.iload_n 2, 1) := by decide +kernel
theorem dX6_tunnel_95 : decode cX6_tunnel 95 = .ok (.aload_n 0, 1) := by decide +kernel
theorem dX6_tunnel_96 : decode cX6_tunnel 96 = .ok (.getfield 47, 3) := by decide +kernel
theorem dX6_tunnel_99 : decode cX6_tunnel 99 = .ok (.iload_n 2, 1) := by decide +kernel
theorem dX6_tunnel_100 : decode cX6_tunnel 100 = .ok (.iaload, 1) := by decide +kernel
theorem dX6_tunnel_101 : decode cX6_tunnel 101 = .ok (.iastore, 1) := by decide +kernel
theorem dX6_tunnel_102 : decode cX6_tunnel 102 = .ok (.iinc 2 1, 3) := by decide +kernel
theorem dX6_tunnel_105 : decode cX6_tunnel 105 = .ok (.goto (-21), 3) := by decide +kernel
theorem dX6_tunnel_108 : decode cX6_tunnel 108 = .ok (.aload_n 0, 1) := by decide +kernel
theorem dX6_tunnel_109 : decode cX6_tunnel 109 = .ok (.iconst 0, 1) := by decide +kernel
theorem dX6_tunnel_110 : decode cX6_tunnel 110 = .ok (.putfield 156, 3) := by decide +kernel
theorem dX6_tunnel_113 : decode cX6_tunnel 113 = .ok (.aload_n 0, 1) := by decide +kernel
theorem dX6_tunnel_114 : decode cX6_tunnel 114 = .ok (.iconst 0, 1) := by decide +kernel
theorem dX6_tunnel_115 : decode cX6_tunnel 115 = .ok (.putfield 159, 3) := by decide +kernel
theorem dX6_tunnel_118 : decode cX6_tunnel 118 = .ok (.aload_n 0, 1) := by decide +kernel
theorem dX6_tunnel_119 : decode cX6_tunnel 119 = .ok (.getfield 22, 3) := by decide +kernel
theorem dX6_tunnel_122 : decode cX6_tunnel 122 = .ok (.iconst 0, 1) := by decide +kernel
theorem dX6_tunnel_123 : decode cX6_tunnel 123 = .ok (.iconst 0, 1) := by decide +kernel
theorem dX6_tunnel_124 : decode cX6_tunnel 124 = .ok (.bastore, 1) := by decide +kernel
theorem dX6_tunnel_125 : decode cX6_tunnel 125 = .ok (.aload_n 0, 1) := by decide +kernel
theorem dX6_tunnel_126 : decode cX6_tunnel 126 = .ok (.getfield 22, 3) := by decide +kernel
theorem dX6_tunnel_129 : decode cX6_tunnel 129 = .ok (.iconst 1, 1) := by decide +kernel
theorem dX6_tunnel_130 : decode cX6_tunnel 130 = .ok (.iconst 0, 1) := by decide +kernel
theorem dX6_tunnel_131 : decode cX6_tunnel 131 = .ok (.bastore, 1) := by decide +kernel
theorem dX6_tunnel_132 : decode cX6_tunnel 132 = .ok (.iload_n 1, 1) := by decide +kernel
theorem dX6_tunnel_133 : decode cX6_tunnel 133 = .ok (.ireturn, 1) := by decide +kernel
theorem dX6_remember_0 : decode cX6_remember 0 = .ok (.iconst 0, 1) := by decide +kernel
theorem dX6_remember_1 : decode cX6_remember 1 = .ok (.istore_n 1, 1) := by decide +kernel
theorem dX6_remember_2 : decode cX6_remember 2 = .ok (.iload_n 1, 1) := by decide +kernel
theorem dX6_remember_3 : decode cX6_remember 3 = .ok (.bipush 53, 2) := by decide +kernel
theorem dX6_remember_5 : decode cX6_remember 5 = .ok (.if_icmp .ge 29, 3) := by decide +kernel
theorem dX6_remember_8 : decode cX6_remember 8 = .ok (.aload_n 0, 1) := by decide +kernel
theorem dX6_remember_9 : decode cX6_remember 9 = .ok (.getfield 13, 3) := by decide +kernel
theorem dX6_remember_12 : decode cX6_remember 12 = .ok (.bipush 53, 2) := by decide +kernel
theorem dX6_remember_14 : decode cX6_remember 14 = .ok (.aload_n 0, 1) := by decide +kernel
theorem dX6_remember_15 : decode cX6_remember 15 = .ok (.getfield 162, 3) := by decide +kernel
theorem dX6_remember_18 : decode cX6_remember 18 = .ok (.imul, 1) := by decide +kernel
theorem dX6_remember_19 : decode cX6_remember 19 = .ok (.iload_n 1, 1) := by decide +kernel
theorem dX6_remember_20 : decode cX6_remember 20 = .ok (.iadd, 1) := by decide +kernel
theorem dX6_remember_21 : decode cX6_remember 21 = .ok (.aload_n 0, 1) := by decide +kernel
theorem dX6_remember_22 : decode cX6_remember 22 = .ok (.getfield 7, 3) := by decide +kernel
theorem dX6_remember_25 : decode cX6_remember 25 = .ok (.iload_n 1, 1) := by decide +kernel
theorem dX6_remember_26 : decode cX6_remember 26 = .ok (.iaload, 1) := by decide +kernel
theorem dX6_remember_27 : decode cX6_remember 27 = .ok (.iastore, 1) := by decide +kernel
theorem dX6_remember_28 : decode cX6_remember 28 = .ok (.iinc 1 1, 3) := by decide +kernel
theorem dX6_remember_31 : decode cX6_remember 31 = .ok (.goto (-29), 3) := by decide +kernel
theorem dX6_remember_34 : decode cX6_remember 34 = .ok (.aload_n 0, 1) := by decide +kernel
theorem dX6_remember_35 : decode cX6_remember 35 = .ok (.aload_n 0, 1) := by decide +kernel
theorem dX6_remember_36 : decode cX6_remember 36 = .ok (.getfield 162, 3) := by decide +kernel
theorem dX6_remember_39 : decode cX6_remember 39 = .ok (.iconst 1, 1) := by decide +kernel
theorem dX6_remember_40 : decode cX6_remember 40 = .ok (.iadd, 1) := by decide +kernel
theorem dX6_remember_41 : decode cX6_remember 41 = .ok (.bipush 12, 2) := by decide +kernel
theorem dX6_remember_43 : decode cX6_remember 43 = .ok (.irem, 1) := by decide +kernel
theorem dX6_remember_44 : decode cX6_remember 44 = .ok (.putfield 162, 3) := by decide +kernel
theorem dX6_remember_47 : decode cX6_remember 47 = .ok (.aload_n 0, 1) := by decide +kernel
theorem dX6_remember_48 : decode cX6_remember 48 = .ok (.dup, 1) := by decide +kernel
theorem dX6_remember_49 : decode cX6_remember 49 = .ok (.getfield 156, 3) := by decide +kernel
theorem dX6_remember_52 : decode cX6_remember 52 = .ok (.aload_n 0, 1) := by decide +kernel
theorem dX6_remember_53 : decode cX6_remember 53 = .ok (.getfield 156, 3) := by decide +kernel
theorem dX6_remember_56 : decode cX6_remember 56 = .ok (.bipush 12, 2) := by decide +kernel
theorem dX6_remember_58 : decode cX6_remember 58 = .ok (.if_icmp .ge 7, 3) := by decide +kernel
theorem dX6_remember_61 : decode cX6_remember 61 = .ok (.iconst 1, 1) := by decide +kernel
theorem dX6_remember_62 : decode cX6_remember 62 = .ok (.goto 4, 3) := by decide +kernel
theorem dX6_remember_65 : decode cX6_remember 65 = .ok (.iconst 0, 1) := by decide +kernel
theorem dX6_remember_66 : decode cX6_remember 66 = .ok (.iadd, 1) := by decide +kernel
theorem dX6_remember_67 : decode cX6_remember 67 = .ok (.putfield 156, 3) := by decide +kernel
theorem dX6_remember_70 : decode cX6_remember 70 = .ok (.return_, 1) := by decide +kernel
theorem dX6_mayBeNext_0 : decode cX6_mayBeNext 0 = .ok (.aload_n 0, 1) := by decide +kernel
theorem dX6_mayBeNext_1 : decode cX6_mayBeNext 1 = .ok (.aload_n 0, 1) := by decide +kernel
theorem dX6_mayBeNext_2 : decode cX6_mayBeNext 2 = .ok (.getfield 7, 3) := by decide +kernel
theorem dX6_mayBeNext_5 : decode cX6_mayBeNext 5 = .ok (.aload_n 0, 1) := by decide +kernel
theorem dX6_mayBeNext_6 : decode cX6_mayBeNext 6 = .ok (.getfield 54, 3) := by decide +kernel
theorem dX6_mayBeNext_9 : decode cX6_mayBeNext 9 = .ok (.invokevirtual 136, 3) := by decide +kernel
theorem dX6_mayBeNext_12 : decode cX6_mayBeNext 12 = .ok (.aload_n 0, 1) := by decide +kernel
theorem dX6_mayBeNext_13 : decode cX6_mayBeNext 13 = .ok (.aload_n 0, 1) := by decide +kernel
theorem dX6_mayBeNext_14 : decode cX6_mayBeNext 14 = .ok (.getfield 7, 3) := by decide +kernel
theorem dX6_mayBeNext_17 : decode cX6_mayBeNext 17 = .ok (.aload_n 0, 1) := by decide +kernel
theorem dX6_mayBeNext_18 : decode cX6_mayBeNext 18 = .ok (.getfield 7, 3) := by decide +kernel
theorem dX6_mayBeNext_21 : decode cX6_mayBeNext 21 = .ok (.iconst 3, 1) := by decide +kernel
theorem dX6_mayBeNext_22 : decode cX6_mayBeNext 22 = .ok (.iaload, 1) := by decide +kernel
theorem dX6_mayBeNext_23 : decode cX6_mayBeNext 23 = .ok (.iconst 1, 1) := by decide +kernel
theorem dX6_mayBeNext_24 : decode cX6_mayBeNext 24 = .ok (.iadd, 1) := by decide +kernel
theorem dX6_mayBeNext_25 : decode cX6_mayBeNext 25 = .ok (.iload_n 1, 1) := by decide +kernel
theorem dX6_mayBeNext_26 : decode cX6_mayBeNext 26 = .ok (.aload_n 0, 1) := by decide +kernel
theorem dX6_mayBeNext_27 : decode cX6_mayBeNext 27 = .ok (.getfield 54, 3) := by decide +kernel
theorem dX6_mayBeNext_30 : decode cX6_mayBeNext 30 = .ok (.invokevirtual 140, 3) := by decide +kernel
theorem dX6_mayBeNext_33 : decode cX6_mayBeNext 33 = .ok (.ireturn, 1) := by decide +kernel
theorem dX6_laysKey_0 : decode cX6_laysKey 0 = .ok (.aload_n 0, 1) := by decide +kernel
theorem dX6_laysKey_1 : decode cX6_laysKey 1 = .ok (.invokevirtual 165, 3) := by decide +kernel
theorem dX6_laysKey_4 : decode cX6_laysKey 4 = .ok (.aload_n 0, 1) := by decide +kernel
theorem dX6_laysKey_5 : decode cX6_laysKey 5 = .ok (.getfield 7, 3) := by decide +kernel
theorem dX6_laysKey_8 : decode cX6_laysKey 8 = .ok (.iconst 3, 1) := by decide +kernel
theorem dX6_laysKey_9 : decode cX6_laysKey 9 = .ok (.dup2, 1) := by decide +kernel
theorem dX6_laysKey_10 : decode cX6_laysKey 10 = .ok (.iaload, 1) := by decide +kernel
theorem dX6_laysKey_11 : decode cX6_laysKey 11 = .ok (.iconst 1, 1) := by decide +kernel
theorem dX6_laysKey_12 : decode cX6_laysKey 12 = .ok (.iadd, 1) := by decide +kernel
theorem dX6_laysKey_13 : decode cX6_laysKey 13 = .ok (.iastore, 1) := by decide +kernel
theorem dX6_laysKey_14 : decode cX6_laysKey 14 = .ok (.aload_n 0, 1) := by decide +kernel
theorem dX6_laysKey_15 : decode cX6_laysKey 15 = .ok (.getfield 7, 3) := by decide +kernel
theorem dX6_laysKey_18 : decode cX6_laysKey 18 = .ok (.iconst 4, 1) := by decide +kernel
theorem dX6_laysKey_19 : decode cX6_laysKey 19 = .ok (.aload_n 0, 1) := by decide +kernel
theorem dX6_laysKey_20 : decode cX6_laysKey 20 = .ok (.getfield 7, 3) := by decide +kernel
theorem dX6_laysKey_23 : decode cX6_laysKey 23 = .ok (.iconst 3, 1) := by decide +kernel
theorem dX6_laysKey_24 : decode cX6_laysKey 24 = .ok (.iaload, 1) := by decide +kernel
theorem dX6_laysKey_25 : decode cX6_laysKey 25 = .ok (.iadd, 1) := by decide +kernel
theorem dX6_laysKey_26 : decode cX6_laysKey 26 = .ok (.iload_n 1, 1) := by decide +kernel
theorem dX6_laysKey_27 : decode cX6_laysKey 27 = .ok (.iastore, 1) := by decide +kernel
theorem dX6_laysKey_28 : decode cX6_laysKey 28 = .ok (.return_, 1) := by decide +kernel
theorem dX6_builds_0 : decode cX6_builds 0 = .ok (.iload_n 1, 1) := by decide +kernel
theorem dX6_builds_1 : decode cX6_builds 1 = .ok (.iconst 0, 1) := by decide +kernel
theorem dX6_builds_2 : decode cX6_builds 2 = .ok (.bipush 7, 2) := by decide +kernel
theorem dX6_builds_4 : decode cX6_builds 4 = .ok (.invokestatic 76, 3) := by decide +kernel
theorem dX6_builds_7 : decode cX6_builds 7 = .ok (.ifCond .ne 5, 3) := by decide +kernel
theorem dX6_builds_10 : decode cX6_builds 10 = .ok (.iconst (-1), 1) := by decide +kernel
theorem dX6_builds_11 : decode cX6_builds 11 = .ok (.ireturn, 1) := by decide +kernel
theorem dX6_builds_12 : decode cX6_builds 12 = .ok (.aload_n 0, 1) := by decide +kernel
theorem dX6_builds_13 : decode cX6_builds 13 = .ok (.getfield 7, 3) := by decide +kernel
theorem dX6_builds_16 : decode cX6_builds 16 = .ok (.iconst 3, 1) := by decide +kernel
theorem dX6_builds_17 : decode cX6_builds 17 = .ok (.iaload, 1) := by decide +kernel
theorem dX6_builds_18 : decode cX6_builds 18 = .ok (.bipush 12, 2) := by decide +kernel
theorem dX6_builds_20 : decode cX6_builds 20 = .ok (.if_icmp .ne 6, 3) := by decide +kernel
theorem dX6_builds_23 : decode cX6_builds 23 = .ok (.bipush (-3), 2) := by decide +kernel
theorem dX6_builds_25 : decode cX6_builds 25 = .ok (.ireturn, 1) := by decide +kernel
theorem dX6_builds_26 : decode cX6_builds 26 = .ok (.aload_n 0, 1) := by decide +kernel
theorem dX6_builds_27 : decode cX6_builds 27 = .ok (.iload_n 1, 1) := by decide +kernel
theorem dX6_builds_28 : decode cX6_builds 28 = .ok (.invokevirtual 168, 3) := by decide +kernel
theorem dX6_builds_31 : decode cX6_builds 31 = .ok (.ifCond .ne 6, 3) := by decide +kernel
theorem dX6_builds_34 : decode cX6_builds 34 = .ok (.bipush (-2), 2) := by decide +kernel
theorem dX6_builds_36 : decode cX6_builds 36 = .ok (.ireturn, 1) := by decide +kernel
theorem dX6_builds_37 : decode cX6_builds 37 = .ok (.aload_n 0, 1) := by decide +kernel
theorem dX6_builds_38 : decode cX6_builds 38 = .ok (.iload_n 1, 1) := by decide +kernel
theorem dX6_builds_39 : decode cX6_builds 39 = .ok (.invokevirtual 171, 3) := by decide +kernel
theorem dX6_builds_42 : decode cX6_builds 42 = .ok (.aload_n 0, 1) := by decide +kernel
theorem dX6_builds_43 : decode cX6_builds 43 = .ok (.aload_n 0, 1) := by decide +kernel
theorem dX6_builds_44 : decode cX6_builds 44 = .ok (.getfield 7, 3) := by decide +kernel
theorem dX6_builds_47 : decode cX6_builds 47 = .ok (.iconst 3, 1) := by decide +kernel
theorem dX6_builds_48 : decode cX6_builds 48 = .ok (.iaload, 1) := by decide +kernel
theorem dX6_builds_49 : decode cX6_builds 49 = .ok (.invokevirtual 175, 3) := by decide +kernel
theorem dX6_builds_52 : decode cX6_builds 52 = .ok (.ireturn, 1) := by decide +kernel
theorem dX6_follows_0 : decode cX6_follows 0 = .ok (.iload_n 1, 1) := by decide +kernel
theorem dX6_follows_1 : decode cX6_follows 1 = .ok (.iconst 1, 1) := by decide +kernel
theorem dX6_follows_2 : decode cX6_follows 2 = .ok (.iconst 5, 1) := by decide +kernel
theorem dX6_follows_3 : decode cX6_follows 3 = .ok (.invokestatic 76, 3) := by decide +kernel
theorem dX6_follows_6 : decode cX6_follows 6 = .ok (.ifCond .ne 5, 3) := by decide +kernel
theorem dX6_follows_9 : decode cX6_follows 9 = .ok (.iconst (-1), 1) := by decide +kernel
theorem dX6_follows_10 : decode cX6_follows 10 = .ok (.ireturn, 1) := by decide +kernel
theorem dX6_follows_11 : decode cX6_follows 11 = .ok (.aload_n 0, 1) := by decide +kernel
theorem dX6_follows_12 : decode cX6_follows 12 = .ok (.getfield 7, 3) := by decide +kernel
theorem dX6_follows_15 : decode cX6_follows 15 = .ok (.iconst 3, 1) := by decide +kernel
theorem dX6_follows_16 : decode cX6_follows 16 = .ok (.iaload, 1) := by decide +kernel
theorem dX6_follows_17 : decode cX6_follows 17 = .ok (.bipush 12, 2) := by decide +kernel
theorem dX6_follows_19 : decode cX6_follows 19 = .ok (.if_icmp .ne 6, 3) := by decide +kernel
theorem dX6_follows_22 : decode cX6_follows 22 = .ok (.bipush (-3), 2) := by decide +kernel
theorem dX6_follows_24 : decode cX6_follows 24 = .ok (.ireturn, 1) := by decide +kernel
theorem dX6_follows_25 : decode cX6_follows 25 = .ok (.aload_n 0, 1) := by decide +kernel
theorem dX6_follows_26 : decode cX6_follows 26 = .ok (.iload_n 1, 1) := by decide +kernel
theorem dX6_follows_27 : decode cX6_follows 27 = .ok (.invokevirtual 178, 3) := by decide +kernel
theorem dX6_follows_30 : decode cX6_follows 30 = .ok (.aload_n 0, 1) := by decide +kernel
theorem dX6_follows_31 : decode cX6_follows 31 = .ok (.getfield 181, 3) := by decide +kernel
theorem dX6_follows_34 : decode cX6_follows 34 = .ok (.ifCond .ne 6, 3) := by decide +kernel
theorem dX6_follows_37 : decode cX6_follows 37 = .ok (.bipush (-2), 2) := by decide +kernel
theorem dX6_follows_39 : decode cX6_follows 39 = .ok (.ireturn, 1) := by decide +kernel
theorem dX6_follows_40 : decode cX6_follows 40 = .ok (.aload_n 0, 1) := by decide +kernel
theorem dX6_follows_41 : decode cX6_follows 41 = .ok (.getfield 184, 3) := by decide +kernel
theorem dX6_follows_44 : decode cX6_follows 44 = .ok (.iload_n 1, 1) := by decide +kernel
theorem dX6_follows_45 : decode cX6_follows 45 = .ok (.iconst 0, 1) := by decide +kernel
theorem dX6_follows_46 : decode cX6_follows 46 = .ok (.invokestatic 187, 3) := by decide +kernel
theorem dX6_follows_49 : decode cX6_follows 49 = .ok (.istore_n 2, 1) := by decide +kernel
theorem dX6_follows_50 : decode cX6_follows 50 = .ok (.aload_n 0, 1) := by decide +kernel
theorem dX6_follows_51 : decode cX6_follows 51 = .ok (.iload_n 2, 1) := by decide +kernel
theorem dX6_follows_52 : decode cX6_follows 52 = .ok (.invokevirtual 171, 3) := by decide +kernel
theorem dX6_follows_55 : decode cX6_follows 55 = .ok (.iload_n 2, 1) := by decide +kernel
theorem dX6_follows_56 : decode cX6_follows 56 = .ok (.ireturn, 1) := by decide +kernel
theorem dX6_wishes_0 : decode cX6_wishes 0 = .ok (.iload_n 1, 1) := by decide +kernel
theorem dX6_wishes_1 : decode cX6_wishes 1 = .ok (.iconst 1, 1) := by decide +kernel
theorem dX6_wishes_2 : decode cX6_wishes 2 = .ok (.bipush 17, 2) := by decide +kernel
theorem dX6_wishes_4 : decode cX6_wishes 4 = .ok (.invokestatic 76, 3) := by decide +kernel
theorem dX6_wishes_7 : decode cX6_wishes 7 = .ok (.ifCond .eq 25, 3) := by decide +kernel
theorem dX6_wishes_10 : decode cX6_wishes 10 = .ok (.iload_n 2, 1) := by decide +kernel
theorem dX6_wishes_11 : decode cX6_wishes 11 = .ok (.bipush (-99), 2) := by decide +kernel
theorem dX6_wishes_13 : decode cX6_wishes 13 = .ok (.bipush 99, 2) := by decide +kernel
theorem dX6_wishes_15 : decode cX6_wishes 15 = .ok (.invokestatic 76, 3) := by decide +kernel
theorem dX6_wishes_18 : decode cX6_wishes 18 = .ok (.ifCond .eq 14, 3) := by decide +kernel
theorem dX6_wishes_21 : decode cX6_wishes 21 = .ok (.iload_n 3, 1) := by decide +kernel
theorem dX6_wishes_22 : decode cX6_wishes 22 = .ok (.bipush (-99), 2) := by decide +kernel
theorem dX6_wishes_24 : decode cX6_wishes 24 = .ok (.bipush 99, 2) := by decide +kernel
theorem dX6_wishes_26 : decode cX6_wishes 26 = .ok (.invokestatic 76, 3) := by decide +kernel
theorem dX6_wishes_29 : decode cX6_wishes 29 = .ok (.ifCond .ne 5, 3) := by decide +kernel
theorem dX6_wishes_32 : decode cX6_wishes 32 = .ok (.iconst (-1), 1) := by decide +kernel
theorem dX6_wishes_33 : decode cX6_wishes 33 = .ok (.ireturn, 1) := by decide +kernel
theorem dX6_wishes_34 : decode cX6_wishes 34 = .ok (.aload_n 0, 1) := by decide +kernel
theorem dX6_wishes_35 : decode cX6_wishes 35 = .ok (.getfield 7, 3) := by decide +kernel
theorem dX6_wishes_38 : decode cX6_wishes 38 = .ok (.bipush 17, 2) := by decide +kernel
theorem dX6_wishes_40 : decode cX6_wishes 40 = .ok (.iload_n 1, 1) := by decide +kernel
theorem dX6_wishes_41 : decode cX6_wishes 41 = .ok (.iadd, 1) := by decide +kernel
theorem dX6_wishes_42 : decode cX6_wishes 42 = .ok (.iaload, 1) := by decide +kernel
theorem dX6_wishes_43 : decode cX6_wishes 43 = .ok (.iload_n 2, 1) := by decide +kernel
theorem dX6_wishes_44 : decode cX6_wishes 44 = .ok (.if_icmp .ne 19, 3) := by decide +kernel
theorem dX6_wishes_47 : decode cX6_wishes 47 = .ok (.aload_n 0, 1) := by decide +kernel
theorem dX6_wishes_48 : decode cX6_wishes 48 = .ok (.getfield 7, 3) := by decide +kernel
theorem dX6_wishes_51 : decode cX6_wishes 51 = .ok (.bipush 35, 2) := by decide +kernel
theorem dX6_wishes_53 : decode cX6_wishes 53 = .ok (.iload_n 1, 1) := by decide +kernel
theorem dX6_wishes_54 : decode cX6_wishes 54 = .ok (.iadd, 1) := by decide +kernel
theorem dX6_wishes_55 : decode cX6_wishes 55 = .ok (.iaload, 1) := by decide +kernel
theorem dX6_wishes_56 : decode cX6_wishes 56 = .ok (.iload_n 3, 1) := by decide +kernel
theorem dX6_wishes_57 : decode cX6_wishes 57 = .ok (.if_icmp .ne 6, 3) := by decide +kernel
theorem dX6_wishes_60 : decode cX6_wishes 60 = .ok (.bipush (-2), 2) := by decide +kernel
theorem dX6_wishes_62 : decode cX6_wishes 62 = .ok (.ireturn, 1) := by decide +kernel
theorem dX6_wishes_63 : decode cX6_wishes 63 = .ok (.aload_n 0, 1) := by decide +kernel
theorem dX6_wishes_64 : decode cX6_wishes 64 = .ok (.invokevirtual 165, 3) := by decide +kernel
theorem dX6_wishes_67 : decode cX6_wishes 67 = .ok (.aload_n 0, 1) := by decide +kernel
theorem dX6_wishes_68 : decode cX6_wishes 68 = .ok (.getfield 7, 3) := by decide +kernel
theorem dX6_wishes_71 : decode cX6_wishes 71 = .ok (.bipush 17, 2) := by decide +kernel
theorem dX6_wishes_73 : decode cX6_wishes 73 = .ok (.iload_n 1, 1) := by decide +kernel
theorem dX6_wishes_74 : decode cX6_wishes 74 = .ok (.iadd, 1) := by decide +kernel
theorem dX6_wishes_75 : decode cX6_wishes 75 = .ok (.iload_n 2, 1) := by decide +kernel
theorem dX6_wishes_76 : decode cX6_wishes 76 = .ok (.iastore, 1) := by decide +kernel
theorem dX6_wishes_77 : decode cX6_wishes 77 = .ok (.aload_n 0, 1) := by decide +kernel
theorem dX6_wishes_78 : decode cX6_wishes 78 = .ok (.getfield 7, 3) := by decide +kernel
theorem dX6_wishes_81 : decode cX6_wishes 81 = .ok (.bipush 35, 2) := by decide +kernel
theorem dX6_wishes_83 : decode cX6_wishes 83 = .ok (.iload_n 1, 1) := by decide +kernel
theorem dX6_wishes_84 : decode cX6_wishes 84 = .ok (.iadd, 1) := by decide +kernel
theorem dX6_wishes_85 : decode cX6_wishes 85 = .ok (.iload_n 3, 1) := by decide +kernel
theorem dX6_wishes_86 : decode cX6_wishes 86 = .ok (.iastore, 1) := by decide +kernel
theorem dX6_wishes_87 : decode cX6_wishes 87 = .ok (.iconst 1, 1) := by decide +kernel
theorem dX6_wishes_88 : decode cX6_wishes 88 = .ok (.ireturn, 1) := by decide +kernel
theorem dX6_rules_0 : decode cX6_rules 0 = .ok (.iload_n 1, 1) := by decide +kernel
theorem dX6_rules_1 : decode cX6_rules 1 = .ok (.iconst 0, 1) := by decide +kernel
theorem dX6_rules_2 : decode cX6_rules 2 = .ok (.iconst 2, 1) := by decide +kernel
theorem dX6_rules_3 : decode cX6_rules 3 = .ok (.invokestatic 76, 3) := by decide +kernel
theorem dX6_rules_6 : decode cX6_rules 6 = .ok (.ifCond .eq 30, 3) := by decide +kernel
theorem dX6_rules_9 : decode cX6_rules 9 = .ok (.iload_n 2, 1) := by decide +kernel
theorem dX6_rules_10 : decode cX6_rules 10 = .ok (.iconst 0, 1) := by decide +kernel
theorem dX6_rules_11 : decode cX6_rules 11 = .ok (.iload_n 1, 1) := by decide +kernel
theorem dX6_rules_12 : decode cX6_rules 12 = .ok (.ifCond .ne 7, 3) := by decide +kernel
theorem dX6_rules_15 : decode cX6_rules 15 = .ok (.iconst 3, 1) := by decide +kernel
theorem dX6_rules_16 : decode cX6_rules 16 = .ok (.goto 14, 3) := by decide +kernel
theorem dX6_rules_19 : decode cX6_rules 19 = .ok (.iload_n 1, 1) := by decide +kernel
theorem dX6_rules_20 : decode cX6_rules 20 = .ok (.iconst 1, 1) := by decide +kernel
theorem dX6_rules_21 : decode cX6_rules 21 = .ok (.if_icmp .ne 7, 3) := by decide +kernel
theorem dX6_rules_24 : decode cX6_rules 24 = .ok (.iconst 2, 1) := by decide +kernel
theorem dX6_rules_25 : decode cX6_rules 25 = .ok (.goto 5, 3) := by decide +kernel
theorem dX6_rules_28 : decode cX6_rules 28 = .ok (.bipush 20, 2) := by decide +kernel
theorem dX6_rules_30 : decode cX6_rules 30 = .ok (.invokestatic 76, 3) := by decide +kernel
theorem dX6_rules_33 : decode cX6_rules 33 = .ok (.ifCond .ne 5, 3) := by decide +kernel
theorem dX6_rules_36 : decode cX6_rules 36 = .ok (.iconst (-1), 1) := by decide +kernel
theorem dX6_rules_37 : decode cX6_rules 37 = .ok (.ireturn, 1) := by decide +kernel
theorem dX6_rules_38 : decode cX6_rules 38 = .ok (.aload_n 0, 1) := by decide +kernel
theorem dX6_rules_39 : decode cX6_rules 39 = .ok (.getfield 7, 3) := by decide +kernel
theorem dX6_rules_42 : decode cX6_rules 42 = .ok (.iload_n 1, 1) := by decide +kernel
theorem dX6_rules_43 : decode cX6_rules 43 = .ok (.iaload, 1) := by decide +kernel
theorem dX6_rules_44 : decode cX6_rules 44 = .ok (.istore_n 3, 1) := by decide +kernel
theorem dX6_rules_45 : decode cX6_rules 45 = .ok (.iload_n 3, 1) := by decide +kernel
theorem dX6_rules_46 : decode cX6_rules 46 = .ok (.iload_n 2, 1) := by decide +kernel
theorem dX6_rules_47 : decode cX6_rules 47 = .ok (.if_icmp .ne 6, 3) := by decide +kernel
theorem dX6_rules_50 : decode cX6_rules 50 = .ok (.bipush (-2), 2) := by decide +kernel
theorem dX6_rules_52 : decode cX6_rules 52 = .ok (.ireturn, 1) := by decide +kernel
theorem dX6_rules_53 : decode cX6_rules 53 = .ok (.aload_n 0, 1) := by decide +kernel
theorem dX6_rules_54 : decode cX6_rules 54 = .ok (.invokevirtual 165, 3) := by decide +kernel
theorem dX6_rules_57 : decode cX6_rules 57 = .ok (.aload_n 0, 1) := by decide +kernel
theorem dX6_rules_58 : decode cX6_rules 58 = .ok (.getfield 7, 3) := by decide +kernel
theorem dX6_rules_61 : decode cX6_rules 61 = .ok (.iload_n 1, 1) := by decide +kernel
theorem dX6_rules_62 : decode cX6_rules 62 = .ok (.iload_n 2, 1) := by decide +kernel
theorem dX6_rules_63 : decode cX6_rules 63 = .ok (.iastore, 1) := by decide +kernel
theorem dX6_rules_64 : decode cX6_rules 64 = .ok (.iload_n 3, 1) := by decide +kernel
theorem dX6_rules_65 : decode cX6_rules 65 = .ok (.ireturn, 1) := by decide +kernel
theorem dX6_undo_0 : decode cX6_undo 0 = .ok (.aload_n 0, 1) := by decide +kernel
theorem dX6_undo_1 : decode cX6_undo 1 = .ok (.getfield 156, 3) := by decide +kernel
theorem dX6_undo_4 : decode cX6_undo 4 = .ok (.ifCond .ne 6, 3) := by decide +kernel
theorem dX6_undo_7 : decode cX6_undo 7 = .ok (.bipush (-2), 2) := by decide +kernel
theorem dX6_undo_9 : decode cX6_undo 9 = .ok (.ireturn, 1) := by decide +kernel
theorem dX6_undo_10 : decode cX6_undo 10 = .ok (.aload_n 0, 1) := by decide +kernel
theorem dX6_undo_11 : decode cX6_undo 11 = .ok (.aload_n 0, 1) := by decide +kernel
theorem dX6_undo_12 : decode cX6_undo 12 = .ok (.getfield 162, 3) := by decide +kernel
theorem dX6_undo_15 : decode cX6_undo 15 = .ok (.bipush 12, 2) := by decide +kernel
theorem dX6_undo_17 : decode cX6_undo 17 = .ok (.iadd, 1) := by decide +kernel
theorem dX6_undo_18 : decode cX6_undo 18 = .ok (.iconst 1, 1) := by decide +kernel
theorem dX6_undo_19 : decode cX6_undo 19 = .ok (.isub, 1) := by decide +kernel
theorem dX6_undo_20 : decode cX6_undo 20 = .ok (.bipush 12, 2) := by decide +kernel
theorem dX6_undo_22 : decode cX6_undo 22 = .ok (.irem, 1) := by decide +kernel
theorem dX6_undo_23 : decode cX6_undo 23 = .ok (.putfield 162, 3) := by decide +kernel
theorem dX6_undo_26 : decode cX6_undo 26 = .ok (.aload_n 0, 1) := by decide +kernel
theorem dX6_undo_27 : decode cX6_undo 27 = .ok (.dup, 1) := by decide +kernel
theorem dX6_undo_28 : decode cX6_undo 28 = .ok (.getfield 156, 3) := by decide +kernel
theorem dX6_undo_31 : decode cX6_undo 31 = .ok (.iconst 1, 1) := by decide +kernel
theorem dX6_undo_32 : decode cX6_undo 32 = .ok (.isub, 1) := by decide +kernel
theorem dX6_undo_33 : decode cX6_undo 33 = .ok (.putfield 156, 3) := by decide +kernel
theorem dX6_undo_36 : decode cX6_undo 36 = .ok (.iconst 0, 1) := by decide +kernel
theorem dX6_undo_37 : decode cX6_undo 37 = .ok (.istore_n 1, 1) := by decide +kernel
theorem dX6_undo_38 : decode cX6_undo 38 = .ok (.iload_n 1, 1) := by decide +kernel
theorem dX6_undo_39 : decode cX6_undo 39 = .ok (.bipush 53, 2) := by decide +kernel
theorem dX6_undo_41 : decode cX6_undo 41 = .ok (.if_icmp .ge 29, 3) := by decide +kernel
theorem dX6_undo_44 : decode cX6_undo 44 = .ok (.aload_n 0, 1) := by decide +kernel
theorem dX6_undo_45 : decode cX6_undo 45 = .ok (.getfield 7, 3) := by decide +kernel
theorem dX6_undo_48 : decode cX6_undo 48 = .ok (.iload_n 1, 1) := by decide +kernel
theorem dX6_undo_49 : decode cX6_undo 49 = .ok (.aload_n 0, 1) := by decide +kernel
theorem dX6_undo_50 : decode cX6_undo 50 = .ok (.getfield 13, 3) := by decide +kernel
theorem dX6_undo_53 : decode cX6_undo 53 = .ok (.bipush 53, 2) := by decide +kernel
theorem dX6_undo_55 : decode cX6_undo 55 = .ok (.aload_n 0, 1) := by decide +kernel
theorem dX6_undo_56 : decode cX6_undo 56 = .ok (.getfield 162, 3) := by decide +kernel
theorem dX6_undo_59 : decode cX6_undo 59 = .ok (.imul, 1) := by decide +kernel
theorem dX6_undo_60 : decode cX6_undo 60 = .ok (.iload_n 1, 1) := by decide +kernel
theorem dX6_undo_61 : decode cX6_undo 61 = .ok (.iadd, 1) := by decide +kernel
theorem dX6_undo_62 : decode cX6_undo 62 = .ok (.iaload, 1) := by decide +kernel
theorem dX6_undo_63 : decode cX6_undo 63 = .ok (.iastore, 1) := by decide +kernel
theorem dX6_undo_64 : decode cX6_undo 64 = .ok (.iinc 1 1, 3) := by decide +kernel
theorem dX6_undo_67 : decode cX6_undo 67 = .ok (.goto (-29), 3) := by decide +kernel
theorem dX6_undo_70 : decode cX6_undo 70 = .ok (.aload_n 0, 1) := by decide +kernel
theorem dX6_undo_71 : decode cX6_undo 71 = .ok (.getfield 156, 3) := by decide +kernel
theorem dX6_undo_74 : decode cX6_undo 74 = .ok (.ireturn, 1) := by decide +kernel
theorem dX6_ring_0 : decode cX6_ring 0 = .ok (.iload_n 1, 1) := by decide +kernel
theorem dX6_ring_1 : decode cX6_ring 1 = .ok (.iconst 0, 1) := by decide +kernel
theorem dX6_ring_2 : decode cX6_ring 2 = .ok (.aload_n 0, 1) := by decide +kernel
theorem dX6_ring_3 : decode cX6_ring 3 = .ok (.getfield 7, 3) := by decide +kernel
theorem dX6_ring_6 : decode cX6_ring 6 = .ok (.iconst 3, 1) := by decide +kernel
theorem dX6_ring_7 : decode cX6_ring 7 = .ok (.iaload, 1) := by decide +kernel
theorem dX6_ring_8 : decode cX6_ring 8 = .ok (.invokestatic 76, 3) := by decide +kernel
theorem dX6_ring_11 : decode cX6_ring 11 = .ok (.ifCond .eq 12, 3) := by decide +kernel
theorem dX6_ring_14 : decode cX6_ring 14 = .ok (.iload_n 2, 1) := by decide +kernel
theorem dX6_ring_15 : decode cX6_ring 15 = .ok (.iconst 0, 1) := by decide +kernel
theorem dX6_ring_16 : decode cX6_ring 16 = .ok (.iconst 5, 1) := by decide +kernel
theorem dX6_ring_17 : decode cX6_ring 17 = .ok (.invokestatic 76, 3) := by decide +kernel
theorem dX6_ring_20 : decode cX6_ring 20 = .ok (.ifCond .ne 6, 3) := by decide +kernel
theorem dX6_ring_23 : decode cX6_ring 23 = .ok (.ldc 191, 2) := by decide +kernel
theorem dX6_ring_25 : decode cX6_ring 25 = .ok (.ireturn, 1) := by decide +kernel
theorem dX6_ring_26 : decode cX6_ring 26 = .ok (.aload_n 0, 1) := by decide +kernel
theorem dX6_ring_27 : decode cX6_ring 27 = .ok (.aload_n 0, 1) := by decide +kernel
theorem dX6_ring_28 : decode cX6_ring 28 = .ok (.getfield 7, 3) := by decide +kernel
theorem dX6_ring_31 : decode cX6_ring 31 = .ok (.aload_n 0, 1) := by decide +kernel
theorem dX6_ring_32 : decode cX6_ring 32 = .ok (.getfield 54, 3) := by decide +kernel
theorem dX6_ring_35 : decode cX6_ring 35 = .ok (.invokevirtual 136, 3) := by decide +kernel
theorem dX6_ring_38 : decode cX6_ring 38 = .ok (.iload_n 2, 1) := by decide +kernel
theorem dX6_ring_39 : decode cX6_ring 39 = .ok (.tableswitch 77 0 4 #[33, 49, 56, 63, 70], 33) := by decide +kernel
theorem dX6_ring_72 : decode cX6_ring 72 = .ok (.iload_n 1, 1) := by decide +kernel
theorem dX6_ring_73 : decode cX6_ring 73 = .ok (.ifCond .ne 8, 3) := by decide +kernel
theorem dX6_ring_76 : decode cX6_ring 76 = .ok (.bipush (-9), 2) := by decide +kernel
theorem dX6_ring_78 : decode cX6_ring 78 = .ok (.goto 9, 3) := by decide +kernel
theorem dX6_ring_81 : decode cX6_ring 81 = .ok (.aload_n 0, 1) := by decide +kernel
theorem dX6_ring_82 : decode cX6_ring 82 = .ok (.getfield 29, 3) := by decide +kernel
theorem dX6_ring_85 : decode cX6_ring 85 = .ok (.iload_n 1, 1) := by decide +kernel
theorem dX6_ring_86 : decode cX6_ring 86 = .ok (.iaload, 1) := by decide +kernel
theorem dX6_ring_87 : decode cX6_ring 87 = .ok (.ireturn, 1) := by decide +kernel
theorem dX6_ring_88 : decode cX6_ring 88 = .ok (.aload_n 0, 1) := by decide +kernel
theorem dX6_ring_89 : decode cX6_ring 89 = .ok (.getfield 32, 3) := by decide +kernel
theorem dX6_ring_92 : decode cX6_ring 92 = .ok (.iload_n 1, 1) := by decide +kernel
theorem dX6_ring_93 : decode cX6_ring 93 = .ok (.iaload, 1) := by decide +kernel
theorem dX6_ring_94 : decode cX6_ring 94 = .ok (.ireturn, 1) := by decide +kernel
theorem dX6_ring_95 : decode cX6_ring 95 = .ok (.aload_n 0, 1) := by decide +kernel
theorem dX6_ring_96 : decode cX6_ring 96 = .ok (.getfield 35, 3) := by decide +kernel
theorem dX6_ring_99 : decode cX6_ring 99 = .ok (.iload_n 1, 1) := by decide +kernel
theorem dX6_ring_100 : decode cX6_ring 100 = .ok (.iaload, 1) := by decide +kernel
theorem dX6_ring_101 : decode cX6_ring 101 = .ok (.ireturn, 1) := by decide +kernel
theorem dX6_ring_102 : decode cX6_ring 102 = .ok (.aload_n 0, 1) := by decide +kernel
theorem dX6_ring_103 : decode cX6_ring 103 = .ok (.getfield 38, 3) := by decide +kernel
theorem dX6_ring_106 : decode cX6_ring 106 = .ok (.iload_n 1, 1) := by decide +kernel
theorem dX6_ring_107 : decode cX6_ring 107 = .ok (.iaload, 1) := by decide +kernel
theorem dX6_ring_108 : decode cX6_ring 108 = .ok (.ireturn, 1) := by decide +kernel
theorem dX6_ring_109 : decode cX6_ring 109 = .ok (.aload_n 0, 1) := by decide +kernel
theorem dX6_ring_110 : decode cX6_ring 110 = .ok (.getfield 41, 3) := by decide +kernel
theorem dX6_ring_113 : decode cX6_ring 113 = .ok (.iload_n 1, 1) := by decide +kernel
theorem dX6_ring_114 : decode cX6_ring 114 = .ok (.iaload, 1) := by decide +kernel
theorem dX6_ring_115 : decode cX6_ring 115 = .ok (.ireturn, 1) := by decide +kernel
theorem dX6_ring_116 : decode cX6_ring 116 = .ok (.iload_n 1, 1) := by decide +kernel
theorem dX6_ring_117 : decode cX6_ring 117 = .ok (.ifCond .ne 7, 3) := by decide +kernel
theorem dX6_ring_120 : decode cX6_ring 120 = .ok (.iconst 0, 1) := by decide +kernel
theorem dX6_ring_121 : decode cX6_ring 121 = .ok (.goto 8, 3) := by decide +kernel
theorem dX6_ring_124 : decode cX6_ring 124 = .ok (.aload_n 0, 1) := by decide +kernel
theorem dX6_ring_125 : decode cX6_ring 125 = .ok (.iload_n 1, 1) := by decide +kernel
theorem dX6_ring_126 : decode cX6_ring 126 = .ok (.invokevirtual 175, 3) := by decide +kernel
theorem dX6_ring_129 : decode cX6_ring 129 = .ok (.ireturn, 1) := by decide +kernel
theorem dX6_wish_0 : decode cX6_wish 0 = .ok (.iload_n 1, 1) := by decide +kernel
theorem dX6_wish_1 : decode cX6_wish 1 = .ok (.iconst 0, 1) := by decide +kernel
theorem dX6_wish_2 : decode cX6_wish 2 = .ok (.bipush 17, 2) := by decide +kernel
theorem dX6_wish_4 : decode cX6_wish 4 = .ok (.invokestatic 76, 3) := by decide +kernel
theorem dX6_wish_7 : decode cX6_wish 7 = .ok (.ifCond .eq 33, 3) := by decide +kernel
theorem dX6_wish_10 : decode cX6_wish 10 = .ok (.iload_n 2, 1) := by decide +kernel
theorem dX6_wish_11 : decode cX6_wish 11 = .ok (.iconst 0, 1) := by decide +kernel
theorem dX6_wish_12 : decode cX6_wish 12 = .ok (.iconst 1, 1) := by decide +kernel
theorem dX6_wish_13 : decode cX6_wish 13 = .ok (.invokestatic 76, 3) := by decide +kernel
theorem dX6_wish_16 : decode cX6_wish 16 = .ok (.ifCond .eq 24, 3) := by decide +kernel
theorem dX6_wish_19 : decode cX6_wish 19 = .ok (.aload_n 0, 1) := by decide +kernel
theorem dX6_wish_20 : decode cX6_wish 20 = .ok (.getfield 7, 3) := by decide +kernel
theorem dX6_wish_23 : decode cX6_wish 23 = .ok (.iload_n 2, 1) := by decide +kernel
theorem dX6_wish_24 : decode cX6_wish 24 = .ok (.ifCond .ne 8, 3) := by decide +kernel
theorem dX6_wish_27 : decode cX6_wish 27 = .ok (.bipush 17, 2) := by decide +kernel
theorem dX6_wish_29 : decode cX6_wish 29 = .ok (.goto 5, 3) := by decide +kernel
theorem dX6_wish_32 : decode cX6_wish 32 = .ok (.bipush 35, 2) := by decide +kernel
theorem dX6_wish_34 : decode cX6_wish 34 = .ok (.iload_n 1, 1) := by decide +kernel
theorem dX6_wish_35 : decode cX6_wish 35 = .ok (.iadd, 1) := by decide +kernel
theorem dX6_wish_36 : decode cX6_wish 36 = .ok (.iaload, 1) := by decide +kernel
theorem dX6_wish_37 : decode cX6_wish 37 = .ok (.goto 5, 3) := by decide +kernel
theorem dX6_wish_40 : decode cX6_wish 40 = .ok (.ldc 191, 2) := by decide +kernel
theorem dX6_wish_42 : decode cX6_wish 42 = .ok (.ireturn, 1) := by decide +kernel
theorem dX6_worst_0 : decode cX6_worst 0 = .ok (.iload_n 1, 1) := by decide +kernel
theorem dX6_worst_1 : decode cX6_worst 1 = .ok (.ifCond .ge 5, 3) := by decide +kernel
theorem dX6_worst_4 : decode cX6_worst 4 = .ok (.iconst (-1), 1) := by decide +kernel
theorem dX6_worst_5 : decode cX6_worst 5 = .ok (.ireturn, 1) := by decide +kernel
theorem dX6_worst_6 : decode cX6_worst 6 = .ok (.aload_n 0, 1) := by decide +kernel
theorem dX6_worst_7 : decode cX6_worst 7 = .ok (.aload_n 0, 1) := by decide +kernel
theorem dX6_worst_8 : decode cX6_worst 8 = .ok (.getfield 7, 3) := by decide +kernel
theorem dX6_worst_11 : decode cX6_worst 11 = .ok (.aload_n 0, 1) := by decide +kernel
theorem dX6_worst_12 : decode cX6_worst 12 = .ok (.getfield 54, 3) := by decide +kernel
theorem dX6_worst_15 : decode cX6_worst 15 = .ok (.invokevirtual 136, 3) := by decide +kernel
theorem dX6_worst_18 : decode cX6_worst 18 = .ok (.iconst 1, 1) := by decide +kernel
theorem dX6_worst_19 : decode cX6_worst 19 = .ok (.istore_n 2, 1) := by decide +kernel
theorem dX6_worst_20 : decode cX6_worst 20 = .ok (.iload_n 2, 1) := by decide +kernel
theorem dX6_worst_21 : decode cX6_worst 21 = .ok (.aload_n 0, 1) := by decide +kernel
theorem dX6_worst_22 : decode cX6_worst 22 = .ok (.getfield 7, 3) := by decide +kernel
theorem dX6_worst_25 : decode cX6_worst 25 = .ok (.iconst 3, 1) := by decide +kernel
theorem dX6_worst_26 : decode cX6_worst 26 = .ok (.iaload, 1) := by decide +kernel
theorem dX6_worst_27 : decode cX6_worst 27 = .ok (.if_icmp .gt 80, 3) := by decide +kernel
theorem dX6_worst_30 : decode cX6_worst 30 = .ok (.iconst 0, 1) := by decide +kernel
theorem dX6_worst_31 : decode cX6_worst 31 = .ok (.istore_n 3, 1) := by decide +kernel
theorem dX6_worst_32 : decode cX6_worst 32 = .ok (.iconst 1, 1) := by decide +kernel
theorem dX6_worst_33 : decode cX6_worst 33 = .ok (.istore 4, 2) := by decide +kernel
theorem dX6_worst_35 : decode cX6_worst 35 = .ok (.iload 4, 2) := by decide +kernel
theorem dX6_worst_37 : decode cX6_worst 37 = .ok (.aload_n 0, 1) := by decide +kernel
theorem dX6_worst_38 : decode cX6_worst 38 = .ok (.getfield 7, 3) := by decide +kernel
theorem dX6_worst_41 : decode cX6_worst 41 = .ok (.iconst 3, 1) := by decide +kernel
theorem dX6_worst_42 : decode cX6_worst 42 = .ok (.iaload, 1) := by decide +kernel
theorem dX6_worst_43 : decode cX6_worst 43 = .ok (.if_icmp .gt 51, 3) := by decide +kernel
theorem dX6_worst_46 : decode cX6_worst 46 = .ok (.iload_n 3, 1) := by decide +kernel
theorem dX6_worst_47 : decode cX6_worst 47 = .ok (.aload_n 0, 1) := by decide +kernel
theorem dX6_worst_48 : decode cX6_worst 48 = .ok (.iload 4, 2) := by decide +kernel
theorem dX6_worst_50 : decode cX6_worst 50 = .ok (.invokevirtual 175, 3) := by decide +kernel
theorem dX6_worst_53 : decode cX6_worst 53 = .ok (.aload_n 0, 1) := by decide +kernel
theorem dX6_worst_54 : decode cX6_worst 54 = .ok (.iload_n 2, 1) := by decide +kernel
theorem dX6_worst_55 : decode cX6_worst 55 = .ok (.invokevirtual 175, 3) := by decide +kernel
theorem dX6_worst_58 : decode cX6_worst 58 = .ok (.if_icmp .gt 23, 3) := by decide +kernel
theorem dX6_worst_61 : decode cX6_worst 61 = .ok (.aload_n 0, 1) := by decide +kernel
theorem dX6_worst_62 : decode cX6_worst 62 = .ok (.iload 4, 2) := by decide +kernel
theorem dX6_worst_64 : decode cX6_worst 64 = .ok (.invokevirtual 175, 3) := by decide +kernel
theorem dX6_worst_67 : decode cX6_worst 67 = .ok (.aload_n 0, 1) := by decide +kernel
theorem dX6_worst_68 : decode cX6_worst 68 = .ok (.iload_n 2, 1) := by decide +kernel
theorem dX6_worst_69 : decode cX6_worst 69 = .ok (.invokevirtual 175, 3) := by decide +kernel
theorem dX6_worst_72 : decode cX6_worst 72 = .ok (.if_icmp .ne 13, 3) := by decide +kernel
theorem dX6_worst_75 : decode cX6_worst 75 = .ok (.iload 4, 2) := by decide +kernel
theorem dX6_worst_77 : decode cX6_worst 77 = .ok (.iload_n 2, 1) := by decide +kernel
theorem dX6_worst_78 : decode cX6_worst 78 = .ok (.if_icmp .ge 7, 3) := by decide +kernel
theorem dX6_worst_81 : decode cX6_worst 81 = .ok (.iconst 1, 1) := by decide +kernel
theorem dX6_worst_82 : decode cX6_worst 82 = .ok (.goto 4, 3) := by decide +kernel
theorem dX6_worst_85 : decode cX6_worst 85 = .ok (.iconst 0, 1) := by decide +kernel
theorem dX6_worst_86 : decode cX6_worst 86 = .ok (.iadd, 1) := by decide +kernel
theorem dX6_worst_87 : decode cX6_worst 87 = .ok (.istore_n 3, 1) := by decide +kernel
theorem dX6_worst_88 : decode cX6_worst 88 = .ok (.iinc 4 1, 3) := by decide +kernel
theorem dX6_worst_91 : decode cX6_worst 91 = .ok (.goto (-56), 3) := by decide +kernel
theorem dX6_worst_94 : decode cX6_worst 94 = .ok (.iload_n 3, 1) := by decide +kernel
theorem dX6_worst_95 : decode cX6_worst 95 = .ok (.iload_n 1, 1) := by decide +kernel
theorem dX6_worst_96 : decode cX6_worst 96 = .ok (.if_icmp .ne 5, 3) := by decide +kernel
theorem dX6_worst_99 : decode cX6_worst 99 = .ok (.iload_n 2, 1) := by decide +kernel
theorem dX6_worst_100 : decode cX6_worst 100 = .ok (.ireturn, 1) := by decide +kernel
theorem dX6_worst_101 : decode cX6_worst 101 = .ok (.iinc 2 1, 3) := by decide +kernel
theorem dX6_worst_104 : decode cX6_worst 104 = .ok (.goto (-84), 3) := by decide +kernel
theorem dX6_worst_107 : decode cX6_worst 107 = .ok (.bipush (-9), 2) := by decide +kernel
theorem dX6_worst_109 : decode cX6_worst 109 = .ok (.ireturn, 1) := by decide +kernel
theorem dX6_keyOf_0 : decode cX6_keyOf 0 = .ok (.iload_n 0, 1) := by decide +kernel
theorem dX6_keyOf_1 : decode cX6_keyOf 1 = .ok (.iconst 3, 1) := by decide +kernel
theorem dX6_keyOf_2 : decode cX6_keyOf 2 = .ok (.iload_n 1, 1) := by decide +kernel
theorem dX6_keyOf_3 : decode cX6_keyOf 3 = .ok (.iconst 1, 1) := by decide +kernel
theorem dX6_keyOf_4 : decode cX6_keyOf 4 = .ok (.isub, 1) := by decide +kernel
theorem dX6_keyOf_5 : decode cX6_keyOf 5 = .ok (.iload_n 2, 1) := by decide +kernel
theorem dX6_keyOf_6 : decode cX6_keyOf 6 = .ok (.isub, 1) := by decide +kernel
theorem dX6_keyOf_7 : decode cX6_keyOf 7 = .ok (.imul, 1) := by decide +kernel
theorem dX6_keyOf_8 : decode cX6_keyOf 8 = .ok (.ishr, 1) := by decide +kernel
theorem dX6_keyOf_9 : decode cX6_keyOf 9 = .ok (.bipush 7, 2) := by decide +kernel
theorem dX6_keyOf_11 : decode cX6_keyOf 11 = .ok (.iand, 1) := by decide +kernel
theorem dX6_keyOf_12 : decode cX6_keyOf 12 = .ok (.ireturn, 1) := by decide +kernel
theorem dX6_layPlan_0 : decode cX6_layPlan 0 = .ok (.aload_n 0, 1) := by decide +kernel
theorem dX6_layPlan_1 : decode cX6_layPlan 1 = .ok (.iconst 0, 1) := by decide +kernel
theorem dX6_layPlan_2 : decode cX6_layPlan 2 = .ok (.putfield 181, 3) := by decide +kernel
theorem dX6_layPlan_5 : decode cX6_layPlan 5 = .ok (.aload_n 0, 1) := by decide +kernel
theorem dX6_layPlan_6 : decode cX6_layPlan 6 = .ok (.aload_n 0, 1) := by decide +kernel
theorem dX6_layPlan_7 : decode cX6_layPlan 7 = .ok (.getfield 7, 3) := by decide +kernel
theorem dX6_layPlan_10 : decode cX6_layPlan 10 = .ok (.aload_n 0, 1) := by decide +kernel
theorem dX6_layPlan_11 : decode cX6_layPlan 11 = .ok (.getfield 54, 3) := by decide +kernel
theorem dX6_layPlan_14 : decode cX6_layPlan 14 = .ok (.invokevirtual 136, 3) := by decide +kernel
theorem dX6_layPlan_17 : decode cX6_layPlan 17 = .ok (.aload_n 0, 1) := by decide +kernel
theorem dX6_layPlan_18 : decode cX6_layPlan 18 = .ok (.getfield 7, 3) := by decide +kernel
theorem dX6_layPlan_21 : decode cX6_layPlan 21 = .ok (.iconst 3, 1) := by decide +kernel
theorem dX6_layPlan_22 : decode cX6_layPlan 22 = .ok (.iaload, 1) := by decide +kernel
theorem dX6_layPlan_23 : decode cX6_layPlan 23 = .ok (.istore_n 2, 1) := by decide +kernel
theorem dX6_layPlan_24 : decode cX6_layPlan 24 = .ok (.iconst 0, 1) := by decide +kernel
theorem dX6_layPlan_25 : decode cX6_layPlan 25 = .ok (.istore_n 3, 1) := by decide +kernel
theorem dX6_layPlan_26 : decode cX6_layPlan 26 = .ok (.iload_n 3, 1) := by decide +kernel
theorem dX6_layPlan_27 : decode cX6_layPlan 27 = .ok (.iconst 1, 1) := by decide +kernel
theorem dX6_layPlan_28 : decode cX6_layPlan 28 = .ok (.iconst 3, 1) := by decide +kernel
theorem dX6_layPlan_29 : decode cX6_layPlan 29 = .ok (.iload_n 1, 1) := by decide +kernel
theorem dX6_layPlan_30 : decode cX6_layPlan 30 = .ok (.imul, 1) := by decide +kernel
theorem dX6_layPlan_31 : decode cX6_layPlan 31 = .ok (.ishl, 1) := by decide +kernel
theorem dX6_layPlan_32 : decode cX6_layPlan 32 = .ok (.if_icmp .ge 141, 3) := by decide +kernel
theorem dX6_layPlan_35 : decode cX6_layPlan 35 = .ok (.iconst 1, 1) := by decide +kernel
theorem dX6_layPlan_36 : decode cX6_layPlan 36 = .ok (.istore 4, 2) := by decide +kernel
theorem dX6_layPlan_38 : decode cX6_layPlan 38 = .ok (.iconst 0, 1) := by decide +kernel
theorem dX6_layPlan_39 : decode cX6_layPlan 39 = .ok (.istore 5, 2) := by decide +kernel
theorem dX6_layPlan_41 : decode cX6_layPlan 41 = .ok (.iconst 0, 1) := by decide +kernel
theorem dX6_layPlan_42 : decode cX6_layPlan 42 = .ok (.istore 6, 2) := by decide +kernel
theorem dX6_layPlan_44 : decode cX6_layPlan 44 = .ok (.iload 6, 2) := by decide +kernel
theorem dX6_layPlan_46 : decode cX6_layPlan 46 = .ok (.iload_n 1, 1) := by decide +kernel
theorem dX6_layPlan_47 : decode cX6_layPlan 47 = .ok (.if_icmp .ge 56, 3) := by decide +kernel
theorem dX6_layPlan_50 : decode cX6_layPlan 50 = .ok (.iload 4, 2) := by decide +kernel
theorem dX6_layPlan_52 : decode cX6_layPlan 52 = .ok (.ifCond .eq 51, 3) := by decide +kernel
theorem dX6_layPlan_55 : decode cX6_layPlan 55 = .ok (.aload_n 0, 1) := by decide +kernel
theorem dX6_layPlan_56 : decode cX6_layPlan 56 = .ok (.aload_n 0, 1) := by decide +kernel
theorem dX6_layPlan_57 : decode cX6_layPlan 57 = .ok (.getfield 7, 3) := by decide +kernel
theorem dX6_layPlan_60 : decode cX6_layPlan 60 = .ok (.iload_n 2, 1) := by decide +kernel
theorem dX6_layPlan_61 : decode cX6_layPlan 61 = .ok (.iconst 1, 1) := by decide +kernel
theorem dX6_layPlan_62 : decode cX6_layPlan 62 = .ok (.iadd, 1) := by decide +kernel
theorem dX6_layPlan_63 : decode cX6_layPlan 63 = .ok (.iload 6, 2) := by decide +kernel
theorem dX6_layPlan_65 : decode cX6_layPlan 65 = .ok (.iadd, 1) := by decide +kernel
theorem dX6_layPlan_66 : decode cX6_layPlan 66 = .ok (.iload_n 3, 1) := by decide +kernel
theorem dX6_layPlan_67 : decode cX6_layPlan 67 = .ok (.iload_n 1, 1) := by decide +kernel
theorem dX6_layPlan_68 : decode cX6_layPlan 68 = .ok (.iload 6, 2) := by decide +kernel
theorem dX6_layPlan_70 : decode cX6_layPlan 70 = .ok (.invokestatic 187, 3) := by decide +kernel
theorem dX6_layPlan_73 : decode cX6_layPlan 73 = .ok (.aload_n 0, 1) := by decide +kernel
theorem dX6_layPlan_74 : decode cX6_layPlan 74 = .ok (.getfield 54, 3) := by decide +kernel
theorem dX6_layPlan_77 : decode cX6_layPlan 77 = .ok (.invokevirtual 140, 3) := by decide +kernel
theorem dX6_layPlan_80 : decode cX6_layPlan 80 = .ok (.istore 4, 2) := by decide +kernel
theorem dX6_layPlan_82 : decode cX6_layPlan 82 = .ok (.iload 5, 2) := by decide +kernel
theorem dX6_layPlan_84 : decode cX6_layPlan 84 = .ok (.aload_n 0, 1) := by decide +kernel
theorem dX6_layPlan_85 : decode cX6_layPlan 85 = .ok (.iload_n 2, 1) := by decide +kernel
theorem dX6_layPlan_86 : decode cX6_layPlan 86 = .ok (.iconst 1, 1) := by decide +kernel
theorem dX6_layPlan_87 : decode cX6_layPlan 87 = .ok (.iadd, 1) := by decide +kernel
theorem dX6_layPlan_88 : decode cX6_layPlan 88 = .ok (.iload 6, 2) := by decide +kernel
theorem dX6_layPlan_90 : decode cX6_layPlan 90 = .ok (.iadd, 1) := by decide +kernel
theorem dX6_layPlan_91 : decode cX6_layPlan 91 = .ok (.invokevirtual 175, 3) := by decide +kernel
theorem dX6_layPlan_94 : decode cX6_layPlan 94 = .ok (.iadd, 1) := by decide +kernel
theorem dX6_layPlan_95 : decode cX6_layPlan 95 = .ok (.istore 5, 2) := by decide +kernel
theorem dX6_layPlan_97 : decode cX6_layPlan 97 = .ok (.iinc 6 1, 3) := by decide +kernel
theorem dX6_layPlan_100 : decode cX6_layPlan 100 = .ok (.goto (-56), 3) := by decide +kernel
theorem dX6_layPlan_103 : decode cX6_layPlan 103 = .ok (.iload 4, 2) := by decide +kernel
theorem dX6_layPlan_105 : decode cX6_layPlan 105 = .ok (.ifCond .eq 38, 3) := by decide +kernel
theorem dX6_layPlan_108 : decode cX6_layPlan 108 = .ok (.aload_n 0, 1) := by decide +kernel
theorem dX6_layPlan_109 : decode cX6_layPlan 109 = .ok (.getfield 181, 3) := by decide +kernel
theorem dX6_layPlan_112 : decode cX6_layPlan 112 = .ok (.ifCond .eq 12, 3) := by decide +kernel
theorem dX6_layPlan_115 : decode cX6_layPlan 115 = .ok (.iload 5, 2) := by decide +kernel
theorem dX6_layPlan_117 : decode cX6_layPlan 117 = .ok (.aload_n 0, 1) := by decide +kernel
theorem dX6_layPlan_118 : decode cX6_layPlan 118 = .ok (.getfield 192, 3) := by decide +kernel
theorem dX6_layPlan_121 : decode cX6_layPlan 121 = .ok (.if_icmp .ge 22, 3) := by decide +kernel
theorem dX6_layPlan_124 : decode cX6_layPlan 124 = .ok (.aload_n 0, 1) := by decide +kernel
theorem dX6_layPlan_125 : decode cX6_layPlan 125 = .ok (.iconst 1, 1) := by decide +kernel
theorem dX6_layPlan_126 : decode cX6_layPlan 126 = .ok (.putfield 181, 3) := by decide +kernel
theorem dX6_layPlan_129 : decode cX6_layPlan 129 = .ok (.aload_n 0, 1) := by decide +kernel
theorem dX6_layPlan_130 : decode cX6_layPlan 130 = .ok (.iload_n 3, 1) := by decide +kernel
theorem dX6_layPlan_131 : decode cX6_layPlan 131 = .ok (.putfield 184, 3) := by decide +kernel
theorem dX6_layPlan_134 : decode cX6_layPlan 134 = .ok (.aload_n 0, 1) := by decide +kernel
theorem dX6_layPlan_135 : decode cX6_layPlan 135 = .ok (.iload 5, 2) := by decide +kernel
theorem dX6_layPlan_137 : decode cX6_layPlan 137 = .ok (.putfield 192, 3) := by decide +kernel
theorem dX6_layPlan_140 : decode cX6_layPlan 140 = .ok (.goto 27, 3) := by decide +kernel
theorem dX6_layPlan_143 : decode cX6_layPlan 143 = .ok (.iload 4, 2) := by decide +kernel
theorem dX6_layPlan_145 : decode cX6_layPlan 145 = .ok (.ifCond .eq 22, 3) := by decide +kernel
theorem dX6_layPlan_148 : decode cX6_layPlan 148 = .ok (.iload 5, 2) := by decide +kernel
theorem dX6_layPlan_150 : decode cX6_layPlan 150 = .ok (.aload_n 0, 1) := by decide +kernel
theorem dX6_layPlan_151 : decode cX6_layPlan 151 = .ok (.getfield 192, 3) := by decide +kernel
theorem dX6_layPlan_154 : decode cX6_layPlan 154 = .ok (.if_icmp .ne 13, 3) := by decide +kernel
theorem dX6_layPlan_157 : decode cX6_layPlan 157 = .ok (.aload_n 0, 1) := by decide +kernel
theorem dX6_layPlan_158 : decode cX6_layPlan 158 = .ok (.dup, 1) := by decide +kernel
theorem dX6_layPlan_159 : decode cX6_layPlan 159 = .ok (.getfield 181, 3) := by decide +kernel
theorem dX6_layPlan_162 : decode cX6_layPlan 162 = .ok (.iconst 1, 1) := by decide +kernel
theorem dX6_layPlan_163 : decode cX6_layPlan 163 = .ok (.iadd, 1) := by decide +kernel
theorem dX6_layPlan_164 : decode cX6_layPlan 164 = .ok (.putfield 181, 3) := by decide +kernel
theorem dX6_layPlan_167 : decode cX6_layPlan 167 = .ok (.iinc 3 1, 3) := by decide +kernel
theorem dX6_layPlan_170 : decode cX6_layPlan 170 = .ok (.goto (-144), 3) := by decide +kernel
theorem dX6_layPlan_173 : decode cX6_layPlan 173 = .ok (.return_, 1) := by decide +kernel
theorem dX6_plan_0 : decode cX6_plan 0 = .ok (.iload_n 1, 1) := by decide +kernel
theorem dX6_plan_1 : decode cX6_plan 1 = .ok (.iconst 1, 1) := by decide +kernel
theorem dX6_plan_2 : decode cX6_plan 2 = .ok (.iconst 5, 1) := by decide +kernel
theorem dX6_plan_3 : decode cX6_plan 3 = .ok (.invokestatic 76, 3) := by decide +kernel
theorem dX6_plan_6 : decode cX6_plan 6 = .ok (.ifCond .eq 9, 3) := by decide +kernel
theorem dX6_plan_9 : decode cX6_plan 9 = .ok (.iload_n 2, 1) := by decide +kernel
theorem dX6_plan_10 : decode cX6_plan 10 = .ok (.bipush (-2), 2) := by decide +kernel
theorem dX6_plan_12 : decode cX6_plan 12 = .ok (.if_icmp .ge 5, 3) := by decide +kernel
theorem dX6_plan_15 : decode cX6_plan 15 = .ok (.iconst (-1), 1) := by decide +kernel
theorem dX6_plan_16 : decode cX6_plan 16 = .ok (.ireturn, 1) := by decide +kernel
theorem dX6_plan_17 : decode cX6_plan 17 = .ok (.aload_n 0, 1) := by decide +kernel
theorem dX6_plan_18 : decode cX6_plan 18 = .ok (.iload_n 1, 1) := by decide +kernel
theorem dX6_plan_19 : decode cX6_plan 19 = .ok (.invokevirtual 178, 3) := by decide +kernel
theorem dX6_plan_22 : decode cX6_plan 22 = .ok (.aload_n 0, 1) := by decide +kernel
theorem dX6_plan_23 : decode cX6_plan 23 = .ok (.getfield 181, 3) := by decide +kernel
theorem dX6_plan_26 : decode cX6_plan 26 = .ok (.ifCond .eq 8, 3) := by decide +kernel
theorem dX6_plan_29 : decode cX6_plan 29 = .ok (.iload_n 2, 1) := by decide +kernel
theorem dX6_plan_30 : decode cX6_plan 30 = .ok (.iload_n 1, 1) := by decide +kernel
theorem dX6_plan_31 : decode cX6_plan 31 = .ok (.if_icmp .lt 6, 3) := by decide +kernel
theorem dX6_plan_34 : decode cX6_plan 34 = .ok (.bipush (-9), 2) := by decide +kernel
theorem dX6_plan_36 : decode cX6_plan 36 = .ok (.ireturn, 1) := by decide +kernel
theorem dX6_plan_37 : decode cX6_plan 37 = .ok (.iload_n 2, 1) := by decide +kernel
theorem dX6_plan_38 : decode cX6_plan 38 = .ok (.iconst (-1), 1) := by decide +kernel
theorem dX6_plan_39 : decode cX6_plan 39 = .ok (.if_icmp .ne 10, 3) := by decide +kernel
theorem dX6_plan_42 : decode cX6_plan 42 = .ok (.aload_n 0, 1) := by decide +kernel
theorem dX6_plan_43 : decode cX6_plan 43 = .ok (.getfield 192, 3) := by decide +kernel
theorem dX6_plan_46 : decode cX6_plan 46 = .ok (.goto 25, 3) := by decide +kernel
theorem dX6_plan_49 : decode cX6_plan 49 = .ok (.iload_n 2, 1) := by decide +kernel
theorem dX6_plan_50 : decode cX6_plan 50 = .ok (.bipush (-2), 2) := by decide +kernel
theorem dX6_plan_52 : decode cX6_plan 52 = .ok (.if_icmp .ne 10, 3) := by decide +kernel
theorem dX6_plan_55 : decode cX6_plan 55 = .ok (.aload_n 0, 1) := by decide +kernel
theorem dX6_plan_56 : decode cX6_plan 56 = .ok (.getfield 181, 3) := by decide +kernel
theorem dX6_plan_59 : decode cX6_plan 59 = .ok (.goto 12, 3) := by decide +kernel
theorem dX6_plan_62 : decode cX6_plan 62 = .ok (.aload_n 0, 1) := by decide +kernel
theorem dX6_plan_63 : decode cX6_plan 63 = .ok (.getfield 184, 3) := by decide +kernel
theorem dX6_plan_66 : decode cX6_plan 66 = .ok (.iload_n 1, 1) := by decide +kernel
theorem dX6_plan_67 : decode cX6_plan 67 = .ok (.iload_n 2, 1) := by decide +kernel
theorem dX6_plan_68 : decode cX6_plan 68 = .ok (.invokestatic 187, 3) := by decide +kernel
theorem dX6_plan_71 : decode cX6_plan 71 = .ok (.ireturn, 1) := by decide +kernel
theorem dX6_trying_0 : decode cX6_trying 0 = .ok (.iload_n 1, 1) := by decide +kernel
theorem dX6_trying_1 : decode cX6_trying 1 = .ok (.iconst 0, 1) := by decide +kernel
theorem dX6_trying_2 : decode cX6_trying 2 = .ok (.bipush 7, 2) := by decide +kernel
theorem dX6_trying_4 : decode cX6_trying 4 = .ok (.invokestatic 76, 3) := by decide +kernel
theorem dX6_trying_7 : decode cX6_trying 7 = .ok (.ifCond .ne 7, 3) := by decide +kernel
theorem dX6_trying_10 : decode cX6_trying 10 = .ok (.iconst (-1), 1) := by decide +kernel
theorem dX6_trying_11 : decode cX6_trying 11 = .ok (.goto 28, 3) := by decide +kernel
theorem dX6_trying_14 : decode cX6_trying 14 = .ok (.aload_n 0, 1) := by decide +kernel
theorem dX6_trying_15 : decode cX6_trying 15 = .ok (.iload_n 1, 1) := by decide +kernel
theorem dX6_trying_16 : decode cX6_trying 16 = .ok (.invokevirtual 168, 3) := by decide +kernel
theorem dX6_trying_19 : decode cX6_trying 19 = .ok (.ifCond .eq 18, 3) := by decide +kernel
theorem dX6_trying_22 : decode cX6_trying 22 = .ok (.aload_n 0, 1) := by decide +kernel
theorem dX6_trying_23 : decode cX6_trying 23 = .ok (.aload_n 0, 1) := by decide +kernel
theorem dX6_trying_24 : decode cX6_trying 24 = .ok (.getfield 7, 3) := by decide +kernel
theorem dX6_trying_27 : decode cX6_trying 27 = .ok (.iconst 3, 1) := by decide +kernel
theorem dX6_trying_28 : decode cX6_trying 28 = .ok (.iaload, 1) := by decide +kernel
theorem dX6_trying_29 : decode cX6_trying 29 = .ok (.iconst 1, 1) := by decide +kernel
theorem dX6_trying_30 : decode cX6_trying 30 = .ok (.iadd, 1) := by decide +kernel
theorem dX6_trying_31 : decode cX6_trying 31 = .ok (.invokevirtual 175, 3) := by decide +kernel
theorem dX6_trying_34 : decode cX6_trying 34 = .ok (.goto 5, 3) := by decide +kernel
theorem dX6_trying_37 : decode cX6_trying 37 = .ok (.bipush (-2), 2) := by decide +kernel
theorem dX6_trying_39 : decode cX6_trying 39 = .ok (.ireturn, 1) := by decide +kernel
theorem dX6_sees_0 : decode cX6_sees 0 = .ok (.iload_n 1, 1) := by decide +kernel
theorem dX6_sees_1 : decode cX6_sees 1 = .ok (.sipush (-9999), 3) := by decide +kernel
theorem dX6_sees_4 : decode cX6_sees 4 = .ok (.sipush 9999, 3) := by decide +kernel
theorem dX6_sees_7 : decode cX6_sees 7 = .ok (.invokestatic 76, 3) := by decide +kernel
theorem dX6_sees_10 : decode cX6_sees 10 = .ok (.ifCond .eq 16, 3) := by decide +kernel
theorem dX6_sees_13 : decode cX6_sees 13 = .ok (.iload_n 2, 1) := by decide +kernel
theorem dX6_sees_14 : decode cX6_sees 14 = .ok (.sipush (-9999), 3) := by decide +kernel
theorem dX6_sees_17 : decode cX6_sees 17 = .ok (.sipush 9999, 3) := by decide +kernel
theorem dX6_sees_20 : decode cX6_sees 20 = .ok (.invokestatic 76, 3) := by decide +kernel
theorem dX6_sees_23 : decode cX6_sees 23 = .ok (.ifCond .ne 5, 3) := by decide +kernel
theorem dX6_sees_26 : decode cX6_sees 26 = .ok (.iconst (-1), 1) := by decide +kernel
theorem dX6_sees_27 : decode cX6_sees 27 = .ok (.ireturn, 1) := by decide +kernel
theorem dX6_sees_28 : decode cX6_sees 28 = .ok (.aload_n 0, 1) := by decide +kernel
theorem dX6_sees_29 : decode cX6_sees 29 = .ok (.getfield 159, 3) := by decide +kernel
theorem dX6_sees_32 : decode cX6_sees 32 = .ok (.iconst 4, 1) := by decide +kernel
theorem dX6_sees_33 : decode cX6_sees 33 = .ok (.if_icmp .ne 6, 3) := by decide +kernel
theorem dX6_sees_36 : decode cX6_sees 36 = .ok (.bipush (-3), 2) := by decide +kernel
theorem dX6_sees_38 : decode cX6_sees 38 = .ok (.ireturn, 1) := by decide +kernel
theorem dX6_sees_39 : decode cX6_sees 39 = .ok (.aload_n 0, 1) := by decide +kernel
theorem dX6_sees_40 : decode cX6_sees 40 = .ok (.getfield 16, 3) := by decide +kernel
theorem dX6_sees_43 : decode cX6_sees 43 = .ok (.aload_n 0, 1) := by decide +kernel
theorem dX6_sees_44 : decode cX6_sees 44 = .ok (.getfield 159, 3) := by decide +kernel
theorem dX6_sees_47 : decode cX6_sees 47 = .ok (.iload_n 1, 1) := by decide +kernel
theorem dX6_sees_48 : decode cX6_sees 48 = .ok (.iastore, 1) := by decide +kernel
theorem dX6_sees_49 : decode cX6_sees 49 = .ok (.aload_n 0, 1) := by decide +kernel
theorem dX6_sees_50 : decode cX6_sees 50 = .ok (.getfield 19, 3) := by decide +kernel
theorem dX6_sees_53 : decode cX6_sees 53 = .ok (.aload_n 0, 1) := by decide +kernel
theorem dX6_sees_54 : decode cX6_sees 54 = .ok (.getfield 159, 3) := by decide +kernel
theorem dX6_sees_57 : decode cX6_sees 57 = .ok (.iload_n 2, 1) := by decide +kernel
theorem dX6_sees_58 : decode cX6_sees 58 = .ok (.iastore, 1) := by decide +kernel
theorem dX6_sees_59 : decode cX6_sees 59 = .ok (.aload_n 0, 1) := by decide +kernel
theorem dX6_sees_60 : decode cX6_sees 60 = .ok (.dup, 1) := by decide +kernel
theorem dX6_sees_61 : decode cX6_sees 61 = .ok (.getfield 159, 3) := by decide +kernel
theorem dX6_sees_64 : decode cX6_sees 64 = .ok (.iconst 1, 1) := by decide +kernel
theorem dX6_sees_65 : decode cX6_sees 65 = .ok (.iadd, 1) := by decide +kernel
theorem dX6_sees_66 : decode cX6_sees 66 = .ok (.putfield 159, 3) := by decide +kernel
theorem dX6_sees_69 : decode cX6_sees 69 = .ok (.aload_n 0, 1) := by decide +kernel
theorem dX6_sees_70 : decode cX6_sees 70 = .ok (.getfield 159, 3) := by decide +kernel
theorem dX6_sees_73 : decode cX6_sees 73 = .ok (.ireturn, 1) := by decide +kernel
theorem dX6_forget_0 : decode cX6_forget 0 = .ok (.aload_n 0, 1) := by decide +kernel
theorem dX6_forget_1 : decode cX6_forget 1 = .ok (.getfield 159, 3) := by decide +kernel
theorem dX6_forget_4 : decode cX6_forget 4 = .ok (.istore_n 1, 1) := by decide +kernel
theorem dX6_forget_5 : decode cX6_forget 5 = .ok (.aload_n 0, 1) := by decide +kernel
theorem dX6_forget_6 : decode cX6_forget 6 = .ok (.iconst 0, 1) := by decide +kernel
theorem dX6_forget_7 : decode cX6_forget 7 = .ok (.putfield 159, 3) := by decide +kernel
theorem dX6_forget_10 : decode cX6_forget 10 = .ok (.iload_n 1, 1) := by decide +kernel
theorem dX6_forget_11 : decode cX6_forget 11 = .ok (.ireturn, 1) := by decide +kernel
theorem dX6_layAgain_0 : decode cX6_layAgain 0 = .ok (.iload_n 1, 1) := by decide +kernel
theorem dX6_layAgain_1 : decode cX6_layAgain 1 = .ok (.istore_n 2, 1) := by decide +kernel
theorem dX6_layAgain_2 : decode cX6_layAgain 2 = .ok (.iload_n 2, 1) := by decide +kernel
theorem dX6_layAgain_3 : decode cX6_layAgain 3 = .ok (.aload_n 0, 1) := by decide +kernel
theorem dX6_layAgain_4 : decode cX6_layAgain 4 = .ok (.getfield 7, 3) := by decide +kernel
theorem dX6_layAgain_7 : decode cX6_layAgain 7 = .ok (.iconst 3, 1) := by decide +kernel
theorem dX6_layAgain_8 : decode cX6_layAgain 8 = .ok (.iaload, 1) := by decide +kernel
theorem dX6_layAgain_9 : decode cX6_layAgain 9 = .ok (.if_icmp .gt 18, 3) := by decide +kernel
theorem dX6_layAgain_12 : decode cX6_layAgain 12 = .ok (.aload_n 0, 1) := by decide +kernel
theorem dX6_layAgain_13 : decode cX6_layAgain 13 = .ok (.iload_n 2, 1) := by decide +kernel
theorem dX6_layAgain_14 : decode cX6_layAgain 14 = .ok (.aload_n 0, 1) := by decide +kernel
theorem dX6_layAgain_15 : decode cX6_layAgain 15 = .ok (.getfield 54, 3) := by decide +kernel
theorem dX6_layAgain_18 : decode cX6_layAgain 18 = .ok (.invokevirtual 65, 3) := by decide +kernel
theorem dX6_layAgain_21 : decode cX6_layAgain 21 = .ok (.iinc 2 1, 3) := by decide +kernel
theorem dX6_layAgain_24 : decode cX6_layAgain 24 = .ok (.goto (-22), 3) := by decide +kernel
theorem dX6_layAgain_27 : decode cX6_layAgain 27 = .ok (.return_, 1) := by decide +kernel
theorem dX6_unseen_0 : decode cX6_unseen 0 = .ok (.iload_n 1, 1) := by decide +kernel
theorem dX6_unseen_1 : decode cX6_unseen 1 = .ok (.iconst 1, 1) := by decide +kernel
theorem dX6_unseen_2 : decode cX6_unseen 2 = .ok (.aload_n 0, 1) := by decide +kernel
theorem dX6_unseen_3 : decode cX6_unseen 3 = .ok (.getfield 7, 3) := by decide +kernel
theorem dX6_unseen_6 : decode cX6_unseen 6 = .ok (.iconst 3, 1) := by decide +kernel
theorem dX6_unseen_7 : decode cX6_unseen 7 = .ok (.iaload, 1) := by decide +kernel
theorem dX6_unseen_8 : decode cX6_unseen 8 = .ok (.invokestatic 76, 3) := by decide +kernel
theorem dX6_unseen_11 : decode cX6_unseen 11 = .ok (.ifCond .ne 5, 3) := by decide +kernel
theorem dX6_unseen_14 : decode cX6_unseen 14 = .ok (.iconst (-1), 1) := by decide +kernel
theorem dX6_unseen_15 : decode cX6_unseen 15 = .ok (.ireturn, 1) := by decide +kernel
theorem dX6_unseen_16 : decode cX6_unseen 16 = .ok (.iconst 0, 1) := by decide +kernel
theorem dX6_unseen_17 : decode cX6_unseen 17 = .ok (.istore_n 2, 1) := by decide +kernel
theorem dX6_unseen_18 : decode cX6_unseen 18 = .ok (.iconst 0, 1) := by decide +kernel
theorem dX6_unseen_19 : decode cX6_unseen 19 = .ok (.istore_n 3, 1) := by decide +kernel
theorem dX6_unseen_20 : decode cX6_unseen 20 = .ok (.iload_n 3, 1) := by decide +kernel
theorem dX6_unseen_21 : decode cX6_unseen 21 = .ok (.bipush 8, 2) := by decide +kernel
theorem dX6_unseen_23 : decode cX6_unseen 23 = .ok (.if_icmp .ge 137, 3) := by decide +kernel
theorem dX6_unseen_26 : decode cX6_unseen 26 = .ok (.aload_n 0, 1) := by decide +kernel
theorem dX6_unseen_27 : decode cX6_unseen 27 = .ok (.aload_n 0, 1) := by decide +kernel
theorem dX6_unseen_28 : decode cX6_unseen 28 = .ok (.getfield 7, 3) := by decide +kernel
theorem dX6_unseen_31 : decode cX6_unseen 31 = .ok (.aload_n 0, 1) := by decide +kernel
theorem dX6_unseen_32 : decode cX6_unseen 32 = .ok (.getfield 54, 3) := by decide +kernel
theorem dX6_unseen_35 : decode cX6_unseen 35 = .ok (.invokevirtual 136, 3) := by decide +kernel
theorem dX6_unseen_38 : decode cX6_unseen 38 = .ok (.aload_n 0, 1) := by decide +kernel
theorem dX6_unseen_39 : decode cX6_unseen 39 = .ok (.getfield 29, 3) := by decide +kernel
theorem dX6_unseen_42 : decode cX6_unseen 42 = .ok (.iload_n 1, 1) := by decide +kernel
theorem dX6_unseen_43 : decode cX6_unseen 43 = .ok (.iaload, 1) := by decide +kernel
theorem dX6_unseen_44 : decode cX6_unseen 44 = .ok (.iload_n 3, 1) := by decide +kernel
theorem dX6_unseen_45 : decode cX6_unseen 45 = .ok (.if_icmp .eq 7, 3) := by decide +kernel
theorem dX6_unseen_48 : decode cX6_unseen 48 = .ok (.iconst 1, 1) := by decide +kernel
theorem dX6_unseen_49 : decode cX6_unseen 49 = .ok (.goto 4, 3) := by decide +kernel
theorem dX6_unseen_52 : decode cX6_unseen 52 = .ok (.iconst 0, 1) := by decide +kernel
theorem dX6_unseen_53 : decode cX6_unseen 53 = .ok (.istore 4, 2) := by decide +kernel
theorem dX6_unseen_55 : decode cX6_unseen 55 = .ok (.aload_n 0, 1) := by decide +kernel
theorem dX6_unseen_56 : decode cX6_unseen 56 = .ok (.getfield 29, 3) := by decide +kernel
theorem dX6_unseen_59 : decode cX6_unseen 59 = .ok (.iload_n 1, 1) := by decide +kernel
theorem dX6_unseen_60 : decode cX6_unseen 60 = .ok (.iload_n 3, 1) := by decide +kernel
theorem dX6_unseen_61 : decode cX6_unseen 61 = .ok (.iastore, 1) := by decide +kernel
theorem dX6_unseen_62 : decode cX6_unseen 62 = .ok (.aload_n 0, 1) := by decide +kernel
theorem dX6_unseen_63 : decode cX6_unseen 63 = .ok (.iload_n 1, 1) := by decide +kernel
theorem dX6_unseen_64 : decode cX6_unseen 64 = .ok (.invokevirtual 195, 3) := by decide +kernel
theorem dX6_unseen_67 : decode cX6_unseen 67 = .ok (.iconst 0, 1) := by decide +kernel
theorem dX6_unseen_68 : decode cX6_unseen 68 = .ok (.istore 5, 2) := by decide +kernel
theorem dX6_unseen_70 : decode cX6_unseen 70 = .ok (.iload 5, 2) := by decide +kernel
theorem dX6_unseen_72 : decode cX6_unseen 72 = .ok (.aload_n 0, 1) := by decide +kernel
theorem dX6_unseen_73 : decode cX6_unseen 73 = .ok (.getfield 159, 3) := by decide +kernel
theorem dX6_unseen_76 : decode cX6_unseen 76 = .ok (.if_icmp .ge 63, 3) := by decide +kernel
theorem dX6_unseen_79 : decode cX6_unseen 79 = .ok (.iload 4, 2) := by decide +kernel
theorem dX6_unseen_81 : decode cX6_unseen 81 = .ok (.ifCond .eq 49, 3) := by decide +kernel
theorem dX6_unseen_84 : decode cX6_unseen 84 = .ok (.aload_n 0, 1) := by decide +kernel
theorem dX6_unseen_85 : decode cX6_unseen 85 = .ok (.getfield 38, 3) := by decide +kernel
theorem dX6_unseen_88 : decode cX6_unseen 88 = .ok (.aload_n 0, 1) := by decide +kernel
theorem dX6_unseen_89 : decode cX6_unseen 89 = .ok (.getfield 7, 3) := by decide +kernel
theorem dX6_unseen_92 : decode cX6_unseen 92 = .ok (.iconst 3, 1) := by decide +kernel
theorem dX6_unseen_93 : decode cX6_unseen 93 = .ok (.iaload, 1) := by decide +kernel
theorem dX6_unseen_94 : decode cX6_unseen 94 = .ok (.iaload, 1) := by decide +kernel
theorem dX6_unseen_95 : decode cX6_unseen 95 = .ok (.aload_n 0, 1) := by decide +kernel
theorem dX6_unseen_96 : decode cX6_unseen 96 = .ok (.getfield 16, 3) := by decide +kernel
theorem dX6_unseen_99 : decode cX6_unseen 99 = .ok (.iload 5, 2) := by decide +kernel
theorem dX6_unseen_101 : decode cX6_unseen 101 = .ok (.iaload, 1) := by decide +kernel
theorem dX6_unseen_102 : decode cX6_unseen 102 = .ok (.if_icmp .ne 28, 3) := by decide +kernel
theorem dX6_unseen_105 : decode cX6_unseen 105 = .ok (.aload_n 0, 1) := by decide +kernel
theorem dX6_unseen_106 : decode cX6_unseen 106 = .ok (.getfield 41, 3) := by decide +kernel
theorem dX6_unseen_109 : decode cX6_unseen 109 = .ok (.aload_n 0, 1) := by decide +kernel
theorem dX6_unseen_110 : decode cX6_unseen 110 = .ok (.getfield 7, 3) := by decide +kernel
theorem dX6_unseen_113 : decode cX6_unseen 113 = .ok (.iconst 3, 1) := by decide +kernel
theorem dX6_unseen_114 : decode cX6_unseen 114 = .ok (.iaload, 1) := by decide +kernel
theorem dX6_unseen_115 : decode cX6_unseen 115 = .ok (.iaload, 1) := by decide +kernel
theorem dX6_unseen_116 : decode cX6_unseen 116 = .ok (.aload_n 0, 1) := by decide +kernel
theorem dX6_unseen_117 : decode cX6_unseen 117 = .ok (.getfield 19, 3) := by decide +kernel
theorem dX6_unseen_120 : decode cX6_unseen 120 = .ok (.iload 5, 2) := by decide +kernel
theorem dX6_unseen_122 : decode cX6_unseen 122 = .ok (.iaload, 1) := by decide +kernel
theorem dX6_unseen_123 : decode cX6_unseen 123 = .ok (.if_icmp .ne 7, 3) := by decide +kernel
theorem dX6_unseen_126 : decode cX6_unseen 126 = .ok (.iconst 1, 1) := by decide +kernel
theorem dX6_unseen_127 : decode cX6_unseen 127 = .ok (.goto 4, 3) := by decide +kernel
theorem dX6_unseen_130 : decode cX6_unseen 130 = .ok (.iconst 0, 1) := by decide +kernel
theorem dX6_unseen_131 : decode cX6_unseen 131 = .ok (.istore 4, 2) := by decide +kernel
theorem dX6_unseen_133 : decode cX6_unseen 133 = .ok (.iinc 5 1, 3) := by decide +kernel
theorem dX6_unseen_136 : decode cX6_unseen 136 = .ok (.goto (-66), 3) := by decide +kernel
theorem dX6_unseen_139 : decode cX6_unseen 139 = .ok (.iload_n 2, 1) := by decide +kernel
theorem dX6_unseen_140 : decode cX6_unseen 140 = .ok (.iload 4, 2) := by decide +kernel
theorem dX6_unseen_142 : decode cX6_unseen 142 = .ok (.ifCond .eq 9, 3) := by decide +kernel
theorem dX6_unseen_145 : decode cX6_unseen 145 = .ok (.iconst 1, 1) := by decide +kernel
theorem dX6_unseen_146 : decode cX6_unseen 146 = .ok (.iload_n 3, 1) := by decide +kernel
theorem dX6_unseen_147 : decode cX6_unseen 147 = .ok (.ishl, 1) := by decide +kernel
theorem dX6_unseen_148 : decode cX6_unseen 148 = .ok (.goto 4, 3) := by decide +kernel
theorem dX6_unseen_151 : decode cX6_unseen 151 = .ok (.iconst 0, 1) := by decide +kernel
theorem dX6_unseen_152 : decode cX6_unseen 152 = .ok (.ior, 1) := by decide +kernel
theorem dX6_unseen_153 : decode cX6_unseen 153 = .ok (.istore_n 2, 1) := by decide +kernel
theorem dX6_unseen_154 : decode cX6_unseen 154 = .ok (.iinc 3 1, 3) := by decide +kernel
theorem dX6_unseen_157 : decode cX6_unseen 157 = .ok (.goto (-137), 3) := by decide +kernel
theorem dX6_unseen_160 : decode cX6_unseen 160 = .ok (.iload_n 2, 1) := by decide +kernel
theorem dX6_unseen_161 : decode cX6_unseen 161 = .ok (.ireturn, 1) := by decide +kernel
theorem dX6_odds_0 : decode cX6_odds 0 = .ok (.iload_n 1, 1) := by decide +kernel
theorem dX6_odds_1 : decode cX6_odds 1 = .ok (.iconst 0, 1) := by decide +kernel
theorem dX6_odds_2 : decode cX6_odds 2 = .ok (.bipush 10, 2) := by decide +kernel
theorem dX6_odds_4 : decode cX6_odds 4 = .ok (.invokestatic 76, 3) := by decide +kernel
theorem dX6_odds_7 : decode cX6_odds 7 = .ok (.ifCond .eq 23, 3) := by decide +kernel
theorem dX6_odds_10 : decode cX6_odds 10 = .ok (.iload_n 2, 1) := by decide +kernel
theorem dX6_odds_11 : decode cX6_odds 11 = .ok (.iconst 0, 1) := by decide +kernel
theorem dX6_odds_12 : decode cX6_odds 12 = .ok (.sipush 9999, 3) := by decide +kernel
theorem dX6_odds_15 : decode cX6_odds 15 = .ok (.invokestatic 76, 3) := by decide +kernel
theorem dX6_odds_18 : decode cX6_odds 18 = .ok (.ifCond .eq 12, 3) := by decide +kernel
theorem dX6_odds_21 : decode cX6_odds 21 = .ok (.iload_n 3, 1) := by decide +kernel
theorem dX6_odds_22 : decode cX6_odds 22 = .ok (.iconst 0, 1) := by decide +kernel
theorem dX6_odds_23 : decode cX6_odds 23 = .ok (.iconst 1, 1) := by decide +kernel
theorem dX6_odds_24 : decode cX6_odds 24 = .ok (.invokestatic 76, 3) := by decide +kernel
theorem dX6_odds_27 : decode cX6_odds 27 = .ok (.ifCond .ne 5, 3) := by decide +kernel
theorem dX6_odds_30 : decode cX6_odds 30 = .ok (.iconst (-1), 1) := by decide +kernel
theorem dX6_odds_31 : decode cX6_odds 31 = .ok (.ireturn, 1) := by decide +kernel
theorem dX6_odds_32 : decode cX6_odds 32 = .ok (.aload_n 0, 1) := by decide +kernel
theorem dX6_odds_33 : decode cX6_odds 33 = .ok (.getfield 7, 3) := by decide +kernel
theorem dX6_odds_36 : decode cX6_odds 36 = .ok (.iconst 3, 1) := by decide +kernel
theorem dX6_odds_37 : decode cX6_odds 37 = .ok (.iaload, 1) := by decide +kernel
theorem dX6_odds_38 : decode cX6_odds 38 = .ok (.istore 4, 2) := by decide +kernel
theorem dX6_odds_40 : decode cX6_odds 40 = .ok (.iload 4, 2) := by decide +kernel
theorem dX6_odds_42 : decode cX6_odds 42 = .ok (.bipush 8, 2) := by decide +kernel
theorem dX6_odds_44 : decode cX6_odds 44 = .ok (.if_icmp .ge 8, 3) := by decide +kernel
theorem dX6_odds_47 : decode cX6_odds 47 = .ok (.iload 4, 2) := by decide +kernel
theorem dX6_odds_49 : decode cX6_odds 49 = .ok (.goto 5, 3) := by decide +kernel
theorem dX6_odds_52 : decode cX6_odds 52 = .ok (.bipush 8, 2) := by decide +kernel
theorem dX6_odds_54 : decode cX6_odds 54 = .ok (.istore 5, 2) := by decide +kernel
theorem dX6_odds_56 : decode cX6_odds 56 = .ok (.lconst 1, 1) := by decide +kernel
theorem dX6_odds_57 : decode cX6_odds 57 = .ok (.lstore 6, 2) := by decide +kernel
theorem dX6_odds_59 : decode cX6_odds 59 = .ok (.iconst 0, 1) := by decide +kernel
theorem dX6_odds_60 : decode cX6_odds 60 = .ok (.istore 8, 2) := by decide +kernel
theorem dX6_odds_62 : decode cX6_odds 62 = .ok (.iload 8, 2) := by decide +kernel
theorem dX6_odds_64 : decode cX6_odds 64 = .ok (.iload 5, 2) := by decide +kernel
theorem dX6_odds_66 : decode cX6_odds 66 = .ok (.if_icmp .ge 17, 3) := by decide +kernel
theorem dX6_odds_69 : decode cX6_odds 69 = .ok (.lload 6, 2) := by decide +kernel
theorem dX6_odds_71 : decode cX6_odds 71 = .ok (.ldc2_w 198, 3) := by decide +kernel
theorem dX6_odds_74 : decode cX6_odds 74 = .ok (.lmul, 1) := by decide +kernel
theorem dX6_odds_75 : decode cX6_odds 75 = .ok (.lstore 6, 2) := by decide +kernel
theorem dX6_odds_77 : decode cX6_odds 77 = .ok (.iinc 8 1, 3) := by decide +kernel
theorem dX6_odds_80 : decode cX6_odds 80 = .ok (.goto (-18), 3) := by decide +kernel
theorem dX6_odds_83 : decode cX6_odds 83 = .ok (.lconst 0, 1) := by decide +kernel
theorem dX6_odds_84 : decode cX6_odds 84 = .ok (.lstore 8, 2) := by decide +kernel
theorem dX6_odds_86 : decode cX6_odds 86 = .ok (.iconst 0, 1) := by decide +kernel
theorem dX6_odds_87 : decode cX6_odds 87 = .ok (.istore 10, 2) := by decide +kernel
theorem dX6_odds_89 : decode cX6_odds 89 = .ok (.iload 10, 2) := by decide +kernel
theorem dX6_odds_91 : decode cX6_odds 91 = .ok (.iconst 1, 1) := by decide +kernel
theorem dX6_odds_92 : decode cX6_odds 92 = .ok (.iload 5, 2) := by decide +kernel
theorem dX6_odds_94 : decode cX6_odds 94 = .ok (.ishl, 1) := by decide +kernel
theorem dX6_odds_95 : decode cX6_odds 95 = .ok (.if_icmp .ge 150, 3) := by decide +kernel
theorem dX6_odds_98 : decode cX6_odds 98 = .ok (.aload_n 0, 1) := by decide +kernel
theorem dX6_odds_99 : decode cX6_odds 99 = .ok (.aload_n 0, 1) := by decide +kernel
theorem dX6_odds_100 : decode cX6_odds 100 = .ok (.getfield 7, 3) := by decide +kernel
theorem dX6_odds_103 : decode cX6_odds 103 = .ok (.aload_n 0, 1) := by decide +kernel
theorem dX6_odds_104 : decode cX6_odds 104 = .ok (.getfield 54, 3) := by decide +kernel
theorem dX6_odds_107 : decode cX6_odds 107 = .ok (.invokevirtual 136, 3) := by decide +kernel
theorem dX6_odds_110 : decode cX6_odds 110 = .ok (.lconst 1, 1) := by decide +kernel
theorem dX6_odds_111 : decode cX6_odds 111 = .ok (.lstore 11, 2) := by decide +kernel
theorem dX6_odds_113 : decode cX6_odds 113 = .ok (.iconst 0, 1) := by decide +kernel
theorem dX6_odds_114 : decode cX6_odds 114 = .ok (.istore 13, 2) := by decide +kernel
theorem dX6_odds_116 : decode cX6_odds 116 = .ok (.iload 13, 2) := by decide +kernel
theorem dX6_odds_118 : decode cX6_odds 118 = .ok (.iload 5, 2) := by decide +kernel
theorem dX6_odds_120 : decode cX6_odds 120 = .ok (.if_icmp .ge 82, 3) := by decide +kernel
theorem dX6_odds_123 : decode cX6_odds 123 = .ok (.aload_n 0, 1) := by decide +kernel
theorem dX6_odds_124 : decode cX6_odds 124 = .ok (.getfield 29, 3) := by decide +kernel
theorem dX6_odds_127 : decode cX6_odds 127 = .ok (.iload 4, 2) := by decide +kernel
theorem dX6_odds_129 : decode cX6_odds 129 = .ok (.iload 13, 2) := by decide +kernel
theorem dX6_odds_131 : decode cX6_odds 131 = .ok (.isub, 1) := by decide +kernel
theorem dX6_odds_132 : decode cX6_odds 132 = .ok (.iload 10, 2) := by decide +kernel
theorem dX6_odds_134 : decode cX6_odds 134 = .ok (.iload 13, 2) := by decide +kernel
theorem dX6_odds_136 : decode cX6_odds 136 = .ok (.invokestatic 117, 3) := by decide +kernel
theorem dX6_odds_139 : decode cX6_odds 139 = .ok (.ifCond .eq 21, 3) := by decide +kernel
theorem dX6_odds_142 : decode cX6_odds 142 = .ok (.aload_n 0, 1) := by decide +kernel
theorem dX6_odds_143 : decode cX6_odds 143 = .ok (.getfield 29, 3) := by decide +kernel
theorem dX6_odds_146 : decode cX6_odds 146 = .ok (.iload 4, 2) := by decide +kernel
theorem dX6_odds_148 : decode cX6_odds 148 = .ok (.iload 13, 2) := by decide +kernel
theorem dX6_odds_150 : decode cX6_odds 150 = .ok (.isub, 1) := by decide +kernel
theorem dX6_odds_151 : decode cX6_odds 151 = .ok (.iaload, 1) := by decide +kernel
theorem dX6_odds_152 : decode cX6_odds 152 = .ok (.iconst 1, 1) := by decide +kernel
theorem dX6_odds_153 : decode cX6_odds 153 = .ok (.iadd, 1) := by decide +kernel
theorem dX6_odds_154 : decode cX6_odds 154 = .ok (.bipush 8, 2) := by decide +kernel
theorem dX6_odds_156 : decode cX6_odds 156 = .ok (.irem, 1) := by decide +kernel
theorem dX6_odds_157 : decode cX6_odds 157 = .ok (.goto 13, 3) := by decide +kernel
theorem dX6_odds_160 : decode cX6_odds 160 = .ok (.aload_n 0, 1) := by decide +kernel
theorem dX6_odds_161 : decode cX6_odds 161 = .ok (.getfield 29, 3) := by decide +kernel
theorem dX6_odds_164 : decode cX6_odds 164 = .ok (.iload 4, 2) := by decide +kernel
theorem dX6_odds_166 : decode cX6_odds 166 = .ok (.iload 13, 2) := by decide +kernel
theorem dX6_odds_168 : decode cX6_odds 168 = .ok (.isub, 1) := by decide +kernel
theorem dX6_odds_169 : decode cX6_odds 169 = .ok (.iaload, 1) := by decide +kernel
theorem dX6_odds_170 : decode cX6_odds 170 = .ok (.iastore, 1) := by decide +kernel
theorem dX6_odds_171 : decode cX6_odds 171 = .ok (.lload 11, 2) := by decide +kernel
theorem dX6_odds_173 : decode cX6_odds 173 = .ok (.iload 10, 2) := by decide +kernel
theorem dX6_odds_175 : decode cX6_odds 175 = .ok (.iload 13, 2) := by decide +kernel
theorem dX6_odds_177 : decode cX6_odds 177 = .ok (.invokestatic 117, 3) := by decide +kernel
theorem dX6_odds_180 : decode cX6_odds 180 = .ok (.ifCond .eq 8, 3) := by decide +kernel
theorem dX6_odds_183 : decode cX6_odds 183 = .ok (.iload_n 1, 1) := by decide +kernel
theorem dX6_odds_184 : decode cX6_odds 184 = .ok (.i2l, 1) := by decide +kernel
theorem dX6_odds_185 : decode cX6_odds 185 = .ok (.goto 8, 3) := by decide +kernel
theorem dX6_odds_188 : decode cX6_odds 188 = .ok (.bipush 10, 2) := by decide +kernel
theorem dX6_odds_190 : decode cX6_odds 190 = .ok (.iload_n 1, 1) := by decide +kernel
theorem dX6_odds_191 : decode cX6_odds 191 = .ok (.isub, 1) := by decide +kernel
theorem dX6_odds_192 : decode cX6_odds 192 = .ok (.i2l, 1) := by decide +kernel
theorem dX6_odds_193 : decode cX6_odds 193 = .ok (.lmul, 1) := by decide +kernel
theorem dX6_odds_194 : decode cX6_odds 194 = .ok (.lstore 11, 2) := by decide +kernel
theorem dX6_odds_196 : decode cX6_odds 196 = .ok (.iinc 13 1, 3) := by decide +kernel
theorem dX6_odds_199 : decode cX6_odds 199 = .ok (.goto (-83), 3) := by decide +kernel
theorem dX6_odds_202 : decode cX6_odds 202 = .ok (.aload_n 0, 1) := by decide +kernel
theorem dX6_odds_203 : decode cX6_odds 203 = .ok (.iload 4, 2) := by decide +kernel
theorem dX6_odds_205 : decode cX6_odds 205 = .ok (.iload 5, 2) := by decide +kernel
theorem dX6_odds_207 : decode cX6_odds 207 = .ok (.isub, 1) := by decide +kernel
theorem dX6_odds_208 : decode cX6_odds 208 = .ok (.iconst 1, 1) := by decide +kernel
theorem dX6_odds_209 : decode cX6_odds 209 = .ok (.iadd, 1) := by decide +kernel
theorem dX6_odds_210 : decode cX6_odds 210 = .ok (.invokevirtual 195, 3) := by decide +kernel
theorem dX6_odds_213 : decode cX6_odds 213 = .ok (.lload 8, 2) := by decide +kernel
theorem dX6_odds_215 : decode cX6_odds 215 = .ok (.iload 4, 2) := by decide +kernel
theorem dX6_odds_217 : decode cX6_odds 217 = .ok (.ifCond .eq 13, 3) := by decide +kernel
theorem dX6_odds_220 : decode cX6_odds 220 = .ok (.aload_n 0, 1) := by decide +kernel
theorem dX6_odds_221 : decode cX6_odds 221 = .ok (.iload 4, 2) := by decide +kernel
theorem dX6_odds_223 : decode cX6_odds 223 = .ok (.invokevirtual 175, 3) := by decide +kernel
theorem dX6_odds_226 : decode cX6_odds 226 = .ok (.iload_n 2, 1) := by decide +kernel
theorem dX6_odds_227 : decode cX6_odds 227 = .ok (.if_icmp .gt 8, 3) := by decide +kernel
theorem dX6_odds_230 : decode cX6_odds 230 = .ok (.lload 11, 2) := by decide +kernel
theorem dX6_odds_232 : decode cX6_odds 232 = .ok (.goto 4, 3) := by decide +kernel
theorem dX6_odds_235 : decode cX6_odds 235 = .ok (.lconst 0, 1) := by decide +kernel
theorem dX6_odds_236 : decode cX6_odds 236 = .ok (.ladd, 1) := by decide +kernel
theorem dX6_odds_237 : decode cX6_odds 237 = .ok (.lstore 8, 2) := by decide +kernel
theorem dX6_odds_239 : decode cX6_odds 239 = .ok (.iinc 10 1, 3) := by decide +kernel
theorem dX6_odds_242 : decode cX6_odds 242 = .ok (.goto (-153), 3) := by decide +kernel
theorem dX6_odds_245 : decode cX6_odds 245 = .ok (.lload 8, 2) := by decide +kernel
theorem dX6_odds_247 : decode cX6_odds 247 = .ok (.lstore 10, 2) := by decide +kernel
theorem dX6_odds_249 : decode cX6_odds 249 = .ok (.lload 6, 2) := by decide +kernel
theorem dX6_odds_251 : decode cX6_odds 251 = .ok (.lstore 12, 2) := by decide +kernel
theorem dX6_odds_253 : decode cX6_odds 253 = .ok (.lload 12, 2) := by decide +kernel
theorem dX6_odds_255 : decode cX6_odds 255 = .ok (.lconst 0, 1) := by decide +kernel
theorem dX6_odds_256 : decode cX6_odds 256 = .ok (.lcmp, 1) := by decide +kernel
theorem dX6_odds_257 : decode cX6_odds 257 = .ok (.ifCond .eq 21, 3) := by decide +kernel
theorem dX6_odds_260 : decode cX6_odds 260 = .ok (.lload 10, 2) := by decide +kernel
theorem dX6_odds_262 : decode cX6_odds 262 = .ok (.lload 12, 2) := by decide +kernel
theorem dX6_odds_264 : decode cX6_odds 264 = .ok (.lrem, 1) := by decide +kernel
theorem dX6_odds_265 : decode cX6_odds 265 = .ok (.lstore 14, 2) := by decide +kernel
theorem dX6_odds_267 : decode cX6_odds 267 = .ok (.lload 12, 2) := by decide +kernel
theorem dX6_odds_269 : decode cX6_odds 269 = .ok (.lstore 10, 2) := by decide +kernel
theorem dX6_odds_271 : decode cX6_odds 271 = .ok (.lload 14, 2) := by decide +kernel
theorem dX6_odds_273 : decode cX6_odds 273 = .ok (.lstore 12, 2) := by decide +kernel
theorem dX6_odds_275 : decode cX6_odds 275 = .ok (.goto (-22), 3) := by decide +kernel
theorem dX6_odds_278 : decode cX6_odds 278 = .ok (.iload_n 3, 1) := by decide +kernel
theorem dX6_odds_279 : decode cX6_odds 279 = .ok (.ifCond .ne 11, 3) := by decide +kernel
theorem dX6_odds_282 : decode cX6_odds 282 = .ok (.lload 8, 2) := by decide +kernel
theorem dX6_odds_284 : decode cX6_odds 284 = .ok (.lload 10, 2) := by decide +kernel
theorem dX6_odds_286 : decode cX6_odds 286 = .ok (.ldiv, 1) := by decide +kernel
theorem dX6_odds_287 : decode cX6_odds 287 = .ok (.goto 8, 3) := by decide +kernel
theorem dX6_odds_290 : decode cX6_odds 290 = .ok (.lload 6, 2) := by decide +kernel
theorem dX6_odds_292 : decode cX6_odds 292 = .ok (.lload 10, 2) := by decide +kernel
theorem dX6_odds_294 : decode cX6_odds 294 = .ok (.ldiv, 1) := by decide +kernel
theorem dX6_odds_295 : decode cX6_odds 295 = .ok (.l2i, 1) := by decide +kernel
theorem dX6_odds_296 : decode cX6_odds 296 = .ok (.ireturn, 1) := by decide +kernel
theorem dX6_keep_0 : decode cX6_keep 0 = .ok (.iload_n 1, 1) := by decide +kernel
theorem dX6_keep_1 : decode cX6_keep 1 = .ok (.iconst 0, 1) := by decide +kernel
theorem dX6_keep_2 : decode cX6_keep 2 = .ok (.iconst 1, 1) := by decide +kernel
theorem dX6_keep_3 : decode cX6_keep 3 = .ok (.invokestatic 76, 3) := by decide +kernel
theorem dX6_keep_6 : decode cX6_keep 6 = .ok (.ifCond .ne 5, 3) := by decide +kernel
theorem dX6_keep_9 : decode cX6_keep 9 = .ok (.iconst (-1), 1) := by decide +kernel
theorem dX6_keep_10 : decode cX6_keep 10 = .ok (.ireturn, 1) := by decide +kernel
theorem dX6_keep_11 : decode cX6_keep 11 = .ok (.aload_n 0, 1) := by decide +kernel
theorem dX6_keep_12 : decode cX6_keep 12 = .ok (.getfield 22, 3) := by decide +kernel
theorem dX6_keep_15 : decode cX6_keep 15 = .ok (.iload_n 1, 1) := by decide +kernel
theorem dX6_keep_16 : decode cX6_keep 16 = .ok (.iconst 1, 1) := by decide +kernel
theorem dX6_keep_17 : decode cX6_keep 17 = .ok (.bastore, 1) := by decide +kernel
theorem dX6_keep_18 : decode cX6_keep 18 = .ok (.iconst 0, 1) := by decide +kernel
theorem dX6_keep_19 : decode cX6_keep 19 = .ok (.istore_n 2, 1) := by decide +kernel
theorem dX6_keep_20 : decode cX6_keep 20 = .ok (.iload_n 2, 1) := by decide +kernel
theorem dX6_keep_21 : decode cX6_keep 21 = .ok (.bipush 53, 2) := by decide +kernel
theorem dX6_keep_23 : decode cX6_keep 23 = .ok (.if_icmp .ge 26, 3) := by decide +kernel
theorem dX6_keep_26 : decode cX6_keep 26 = .ok (.aload_n 0, 1) := by decide +kernel
theorem dX6_keep_27 : decode cX6_keep 27 = .ok (.getfield 26, 3) := by decide +kernel
theorem dX6_keep_30 : decode cX6_keep 30 = .ok (.bipush 53, 2) := by decide +kernel
theorem dX6_keep_32 : decode cX6_keep 32 = .ok (.iload_n 1, 1) := by decide +kernel
theorem dX6_keep_33 : decode cX6_keep 33 = .ok (.imul, 1) := by decide +kernel
theorem dX6_keep_34 : decode cX6_keep 34 = .ok (.iload_n 2, 1) := by decide +kernel
theorem dX6_keep_35 : decode cX6_keep 35 = .ok (.iadd, 1) := by decide +kernel
theorem dX6_keep_36 : decode cX6_keep 36 = .ok (.aload_n 0, 1) := by decide +kernel
theorem dX6_keep_37 : decode cX6_keep 37 = .ok (.getfield 7, 3) := by decide +kernel
theorem dX6_keep_40 : decode cX6_keep 40 = .ok (.iload_n 2, 1) := by decide +kernel
theorem dX6_keep_41 : decode cX6_keep 41 = .ok (.iaload, 1) := by decide +kernel
theorem dX6_keep_42 : decode cX6_keep 42 = .ok (.iastore, 1) := by decide +kernel
theorem dX6_keep_43 : decode cX6_keep 43 = .ok (.iinc 2 1, 3) := by decide +kernel
theorem dX6_keep_46 : decode cX6_keep 46 = .ok (.goto (-26), 3) := by decide +kernel
theorem dX6_keep_49 : decode cX6_keep 49 = .ok (.aload_n 0, 1) := by decide +kernel
theorem dX6_keep_50 : decode cX6_keep 50 = .ok (.getfield 7, 3) := by decide +kernel
theorem dX6_keep_53 : decode cX6_keep 53 = .ok (.iconst 3, 1) := by decide +kernel
theorem dX6_keep_54 : decode cX6_keep 54 = .ok (.iaload, 1) := by decide +kernel
theorem dX6_keep_55 : decode cX6_keep 55 = .ok (.ireturn, 1) := by decide +kernel
theorem dX6_back_0 : decode cX6_back 0 = .ok (.iload_n 1, 1) := by decide +kernel
theorem dX6_back_1 : decode cX6_back 1 = .ok (.iconst 0, 1) := by decide +kernel
theorem dX6_back_2 : decode cX6_back 2 = .ok (.iconst 1, 1) := by decide +kernel
theorem dX6_back_3 : decode cX6_back 3 = .ok (.invokestatic 76, 3) := by decide +kernel
theorem dX6_back_6 : decode cX6_back 6 = .ok (.ifCond .ne 5, 3) := by decide +kernel
theorem dX6_back_9 : decode cX6_back 9 = .ok (.iconst (-1), 1) := by decide +kernel
theorem dX6_back_10 : decode cX6_back 10 = .ok (.ireturn, 1) := by decide +kernel
theorem dX6_back_11 : decode cX6_back 11 = .ok (.aload_n 0, 1) := by decide +kernel
theorem dX6_back_12 : decode cX6_back 12 = .ok (.getfield 22, 3) := by decide +kernel
theorem dX6_back_15 : decode cX6_back 15 = .ok (.iload_n 1, 1) := by decide +kernel
theorem dX6_back_16 : decode cX6_back 16 = .ok (.baload, 1) := by decide +kernel
theorem dX6_back_17 : decode cX6_back 17 = .ok (.ifCond .ne 6, 3) := by decide +kernel
theorem dX6_back_20 : decode cX6_back 20 = .ok (.bipush (-2), 2) := by decide +kernel
theorem dX6_back_22 : decode cX6_back 22 = .ok (.ireturn, 1) := by decide +kernel
theorem dX6_back_23 : decode cX6_back 23 = .ok (.iconst 0, 1) := by decide +kernel
theorem dX6_back_24 : decode cX6_back 24 = .ok (.istore_n 2, 1) := by decide +kernel
theorem dX6_back_25 : decode cX6_back 25 = .ok (.iload_n 2, 1) := by decide +kernel
theorem dX6_back_26 : decode cX6_back 26 = .ok (.bipush 53, 2) := by decide +kernel
theorem dX6_back_28 : decode cX6_back 28 = .ok (.if_icmp .ge 26, 3) := by decide +kernel
theorem dX6_back_31 : decode cX6_back 31 = .ok (.aload_n 0, 1) := by decide +kernel
theorem dX6_back_32 : decode cX6_back 32 = .ok (.getfield 7, 3) := by decide +kernel
theorem dX6_back_35 : decode cX6_back 35 = .ok (.iload_n 2, 1) := by decide +kernel
theorem dX6_back_36 : decode cX6_back 36 = .ok (.aload_n 0, 1) := by decide +kernel
theorem dX6_back_37 : decode cX6_back 37 = .ok (.getfield 26, 3) := by decide +kernel
theorem dX6_back_40 : decode cX6_back 40 = .ok (.bipush 53, 2) := by decide +kernel
theorem dX6_back_42 : decode cX6_back 42 = .ok (.iload_n 1, 1) := by decide +kernel
theorem dX6_back_43 : decode cX6_back 43 = .ok (.imul, 1) := by decide +kernel
theorem dX6_back_44 : decode cX6_back 44 = .ok (.iload_n 2, 1) := by decide +kernel
theorem dX6_back_45 : decode cX6_back 45 = .ok (.iadd, 1) := by decide +kernel
theorem dX6_back_46 : decode cX6_back 46 = .ok (.iaload, 1) := by decide +kernel
theorem dX6_back_47 : decode cX6_back 47 = .ok (.iastore, 1) := by decide +kernel
theorem dX6_back_48 : decode cX6_back 48 = .ok (.iinc 2 1, 3) := by decide +kernel
theorem dX6_back_51 : decode cX6_back 51 = .ok (.goto (-26), 3) := by decide +kernel
theorem dX6_back_54 : decode cX6_back 54 = .ok (.aload_n 0, 1) := by decide +kernel
theorem dX6_back_55 : decode cX6_back 55 = .ok (.iconst 0, 1) := by decide +kernel
theorem dX6_back_56 : decode cX6_back 56 = .ok (.putfield 156, 3) := by decide +kernel
theorem dX6_back_59 : decode cX6_back 59 = .ok (.aload_n 0, 1) := by decide +kernel
theorem dX6_back_60 : decode cX6_back 60 = .ok (.getfield 7, 3) := by decide +kernel
theorem dX6_back_63 : decode cX6_back 63 = .ok (.iconst 3, 1) := by decide +kernel
theorem dX6_back_64 : decode cX6_back 64 = .ok (.iaload, 1) := by decide +kernel
theorem dX6_back_65 : decode cX6_back 65 = .ok (.ireturn, 1) := by decide +kernel
theorem dX6_nextKeys_0 : decode cX6_nextKeys 0 = .ok (.iconst 0, 1) := by decide +kernel
theorem dX6_nextKeys_1 : decode cX6_nextKeys 1 = .ok (.istore_n 1, 1) := by decide +kernel
theorem dX6_nextKeys_2 : decode cX6_nextKeys 2 = .ok (.iconst 0, 1) := by decide +kernel
theorem dX6_nextKeys_3 : decode cX6_nextKeys 3 = .ok (.istore_n 2, 1) := by decide +kernel
theorem dX6_nextKeys_4 : decode cX6_nextKeys 4 = .ok (.iload_n 2, 1) := by decide +kernel
theorem dX6_nextKeys_5 : decode cX6_nextKeys 5 = .ok (.bipush 8, 2) := by decide +kernel
theorem dX6_nextKeys_7 : decode cX6_nextKeys 7 = .ok (.if_icmp .ge 27, 3) := by decide +kernel
theorem dX6_nextKeys_10 : decode cX6_nextKeys 10 = .ok (.iload_n 1, 1) := by decide +kernel
theorem dX6_nextKeys_11 : decode cX6_nextKeys 11 = .ok (.aload_n 0, 1) := by decide +kernel
theorem dX6_nextKeys_12 : decode cX6_nextKeys 12 = .ok (.iload_n 2, 1) := by decide +kernel
theorem dX6_nextKeys_13 : decode cX6_nextKeys 13 = .ok (.invokevirtual 168, 3) := by decide +kernel
theorem dX6_nextKeys_16 : decode cX6_nextKeys 16 = .ok (.ifCond .eq 9, 3) := by decide +kernel
theorem dX6_nextKeys_19 : decode cX6_nextKeys 19 = .ok (.iconst 1, 1) := by decide +kernel
theorem dX6_nextKeys_20 : decode cX6_nextKeys 20 = .ok (.iload_n 2, 1) := by decide +kernel
theorem dX6_nextKeys_21 : decode cX6_nextKeys 21 = .ok (.ishl, 1) := by decide +kernel
theorem dX6_nextKeys_22 : decode cX6_nextKeys 22 = .ok (.goto 4, 3) := by decide +kernel
theorem dX6_nextKeys_25 : decode cX6_nextKeys 25 = .ok (.iconst 0, 1) := by decide +kernel
theorem dX6_nextKeys_26 : decode cX6_nextKeys 26 = .ok (.ior, 1) := by decide +kernel
theorem dX6_nextKeys_27 : decode cX6_nextKeys 27 = .ok (.istore_n 1, 1) := by decide +kernel
theorem dX6_nextKeys_28 : decode cX6_nextKeys 28 = .ok (.iinc 2 1, 3) := by decide +kernel
theorem dX6_nextKeys_31 : decode cX6_nextKeys 31 = .ok (.goto (-27), 3) := by decide +kernel
theorem dX6_nextKeys_34 : decode cX6_nextKeys 34 = .ok (.iload_n 1, 1) := by decide +kernel
theorem dX6_nextKeys_35 : decode cX6_nextKeys 35 = .ok (.ireturn, 1) := by decide +kernel
theorem dX6_allCosts_0 : decode cX6_allCosts 0 = .ok (.aload_n 0, 1) := by decide +kernel
theorem dX6_allCosts_1 : decode cX6_allCosts 1 = .ok (.aload_n 0, 1) := by decide +kernel
theorem dX6_allCosts_2 : decode cX6_allCosts 2 = .ok (.getfield 7, 3) := by decide +kernel
theorem dX6_allCosts_5 : decode cX6_allCosts 5 = .ok (.aload_n 0, 1) := by decide +kernel
theorem dX6_allCosts_6 : decode cX6_allCosts 6 = .ok (.getfield 54, 3) := by decide +kernel
theorem dX6_allCosts_9 : decode cX6_allCosts 9 = .ok (.invokevirtual 136, 3) := by decide +kernel
theorem dX6_allCosts_12 : decode cX6_allCosts 12 = .ok (.iconst 0, 1) := by decide +kernel
theorem dX6_allCosts_13 : decode cX6_allCosts 13 = .ok (.istore_n 1, 1) := by decide +kernel
theorem dX6_allCosts_14 : decode cX6_allCosts 14 = .ok (.iconst 1, 1) := by decide +kernel
theorem dX6_allCosts_15 : decode cX6_allCosts 15 = .ok (.istore_n 2, 1) := by decide +kernel
theorem dX6_allCosts_16 : decode cX6_allCosts 16 = .ok (.iload_n 2, 1) := by decide +kernel
theorem dX6_allCosts_17 : decode cX6_allCosts 17 = .ok (.aload_n 0, 1) := by decide +kernel
theorem dX6_allCosts_18 : decode cX6_allCosts 18 = .ok (.getfield 7, 3) := by decide +kernel
theorem dX6_allCosts_21 : decode cX6_allCosts 21 = .ok (.iconst 3, 1) := by decide +kernel
theorem dX6_allCosts_22 : decode cX6_allCosts 22 = .ok (.iaload, 1) := by decide +kernel
theorem dX6_allCosts_23 : decode cX6_allCosts 23 = .ok (.if_icmp .gt 17, 3) := by decide +kernel
theorem dX6_allCosts_26 : decode cX6_allCosts 26 = .ok (.iload_n 1, 1) := by decide +kernel
theorem dX6_allCosts_27 : decode cX6_allCosts 27 = .ok (.aload_n 0, 1) := by decide +kernel
theorem dX6_allCosts_28 : decode cX6_allCosts 28 = .ok (.iload_n 2, 1) := by decide +kernel
theorem dX6_allCosts_29 : decode cX6_allCosts 29 = .ok (.invokevirtual 175, 3) := by decide +kernel
theorem dX6_allCosts_32 : decode cX6_allCosts 32 = .ok (.iadd, 1) := by decide +kernel
theorem dX6_allCosts_33 : decode cX6_allCosts 33 = .ok (.istore_n 1, 1) := by decide +kernel
theorem dX6_allCosts_34 : decode cX6_allCosts 34 = .ok (.iinc 2 1, 3) := by decide +kernel
theorem dX6_allCosts_37 : decode cX6_allCosts 37 = .ok (.goto (-21), 3) := by decide +kernel
theorem dX6_allCosts_40 : decode cX6_allCosts 40 = .ok (.iload_n 1, 1) := by decide +kernel
theorem dX6_allCosts_41 : decode cX6_allCosts 41 = .ok (.ireturn, 1) := by decide +kernel
theorem dX6_count_0 : decode cX6_count 0 = .ok (.iload_n 1, 1) := by decide +kernel
theorem dX6_count_1 : decode cX6_count 1 = .ok (.tableswitch 113 0 9 #[55, 62, 67, 74, 81, 88, 93, 98, 103, 108], 55) := by decide +kernel
theorem dX6_count_56 : decode cX6_count 56 = .ok (.aload_n 0, 1) := by decide +kernel
theorem dX6_count_57 : decode cX6_count 57 = .ok (.getfield 7, 3) := by decide +kernel
theorem dX6_count_60 : decode cX6_count 60 = .ok (.iconst 3, 1) := by decide +kernel
theorem dX6_count_61 : decode cX6_count 61 = .ok (.iaload, 1) := by decide +kernel
theorem dX6_count_62 : decode cX6_count 62 = .ok (.ireturn, 1) := by decide +kernel
theorem dX6_count_63 : decode cX6_count 63 = .ok (.aload_n 0, 1) := by decide +kernel
theorem dX6_count_64 : decode cX6_count 64 = .ok (.getfield 54, 3) := by decide +kernel
theorem dX6_count_67 : decode cX6_count 67 = .ok (.ireturn, 1) := by decide +kernel
theorem dX6_count_68 : decode cX6_count 68 = .ok (.aload_n 0, 1) := by decide +kernel
theorem dX6_count_69 : decode cX6_count 69 = .ok (.getfield 7, 3) := by decide +kernel
theorem dX6_count_72 : decode cX6_count 72 = .ok (.iconst 0, 1) := by decide +kernel
theorem dX6_count_73 : decode cX6_count 73 = .ok (.iaload, 1) := by decide +kernel
theorem dX6_count_74 : decode cX6_count 74 = .ok (.ireturn, 1) := by decide +kernel
theorem dX6_count_75 : decode cX6_count 75 = .ok (.aload_n 0, 1) := by decide +kernel
theorem dX6_count_76 : decode cX6_count 76 = .ok (.getfield 7, 3) := by decide +kernel
theorem dX6_count_79 : decode cX6_count 79 = .ok (.iconst 1, 1) := by decide +kernel
theorem dX6_count_80 : decode cX6_count 80 = .ok (.iaload, 1) := by decide +kernel
theorem dX6_count_81 : decode cX6_count 81 = .ok (.ireturn, 1) := by decide +kernel
theorem dX6_count_82 : decode cX6_count 82 = .ok (.aload_n 0, 1) := by decide +kernel
theorem dX6_count_83 : decode cX6_count 83 = .ok (.getfield 7, 3) := by decide +kernel
theorem dX6_count_86 : decode cX6_count 86 = .ok (.iconst 2, 1) := by decide +kernel
theorem dX6_count_87 : decode cX6_count 87 = .ok (.iaload, 1) := by decide +kernel
theorem dX6_count_88 : decode cX6_count 88 = .ok (.ireturn, 1) := by decide +kernel
theorem dX6_count_89 : decode cX6_count 89 = .ok (.aload_n 0, 1) := by decide +kernel
theorem dX6_count_90 : decode cX6_count 90 = .ok (.invokevirtual 200, 3) := by decide +kernel
theorem dX6_count_93 : decode cX6_count 93 = .ok (.ireturn, 1) := by decide +kernel
theorem dX6_count_94 : decode cX6_count 94 = .ok (.aload_n 0, 1) := by decide +kernel
theorem dX6_count_95 : decode cX6_count 95 = .ok (.invokevirtual 204, 3) := by decide +kernel
theorem dX6_count_98 : decode cX6_count 98 = .ok (.ireturn, 1) := by decide +kernel
theorem dX6_count_99 : decode cX6_count 99 = .ok (.aload_n 0, 1) := by decide +kernel
theorem dX6_count_100 : decode cX6_count 100 = .ok (.getfield 159, 3) := by decide +kernel
theorem dX6_count_103 : decode cX6_count 103 = .ok (.ireturn, 1) := by decide +kernel
theorem dX6_count_104 : decode cX6_count 104 = .ok (.aload_n 0, 1) := by decide +kernel
theorem dX6_count_105 : decode cX6_count 105 = .ok (.getfield 79, 3) := by decide +kernel
theorem dX6_count_108 : decode cX6_count 108 = .ok (.ireturn, 1) := by decide +kernel
theorem dX6_count_109 : decode cX6_count 109 = .ok (.aload_n 0, 1) := by decide +kernel
theorem dX6_count_110 : decode cX6_count 110 = .ok (.getfield 156, 3) := by decide +kernel
theorem dX6_count_113 : decode cX6_count 113 = .ok (.ireturn, 1) := by decide +kernel
theorem dX6_count_114 : decode cX6_count 114 = .ok (.iconst (-1), 1) := by decide +kernel
theorem dX6_count_115 : decode cX6_count 115 = .ok (.ireturn, 1) := by decide +kernel
