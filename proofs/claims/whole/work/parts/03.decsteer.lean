theorem dX5_init_0 : decode cX5_init 0 = .ok (.aload_n 0, 1) := by decide +kernel
theorem dX5_init_1 : decode cX5_init 1 = .ok (.invokespecial 3, 3) := by decide +kernel
theorem dX5_init_4 : decode cX5_init 4 = .ok (.aload_n 0, 1) := by decide +kernel
theorem dX5_init_5 : decode cX5_init 5 = .ok (.new 9, 3) := by decide +kernel
theorem dX5_init_8 : decode cX5_init 8 = .ok (.dup, 1) := by decide +kernel
theorem dX5_init_9 : decode cX5_init 9 = .ok (.invokespecial 11, 3) := by decide +kernel
theorem dX5_init_12 : decode cX5_init 12 = .ok (.putfield 12, 3) := by decide +kernel
theorem dX5_init_15 : decode cX5_init 15 = .ok (.aload_n 0, 1) := by decide +kernel
theorem dX5_init_16 : decode cX5_init 16 = .ok (.new 9, 3) := by decide +kernel
theorem dX5_init_19 : decode cX5_init 19 = .ok (.dup, 1) := by decide +kernel
theorem dX5_init_20 : decode cX5_init 20 = .ok (.invokespecial 11, 3) := by decide +kernel
theorem dX5_init_23 : decode cX5_init 23 = .ok (.putfield 16, 3) := by decide +kernel
theorem dX5_init_26 : decode cX5_init 26 = .ok (.aload_n 0, 1) := by decide +kernel
theorem dX5_init_27 : decode cX5_init 27 = .ok (.iconst 2, 1) := by decide +kernel
theorem dX5_init_28 : decode cX5_init 28 = .ok (.anewarray 9, 3) := by decide +kernel
theorem dX5_init_31 : decode cX5_init 31 = .ok (.putfield 19, 3) := by decide +kernel
theorem dX5_init_34 : decode cX5_init 34 = .ok (.aload_n 0, 1) := by decide +kernel
theorem dX5_init_35 : decode cX5_init 35 = .ok (.iconst 2, 1) := by decide +kernel
theorem dX5_init_36 : decode cX5_init 36 = .ok (.newarray .boolean, 2) := by decide +kernel
theorem dX5_init_38 : decode cX5_init 38 = .ok (.putfield 23, 3) := by decide +kernel
theorem dX5_init_41 : decode cX5_init 41 = .ok (.aload_n 0, 1) := by decide +kernel
theorem dX5_init_42 : decode cX5_init 42 = .ok (.new 27, 3) := by decide +kernel
theorem dX5_init_45 : decode cX5_init 45 = .ok (.dup, 1) := by decide +kernel
theorem dX5_init_46 : decode cX5_init 46 = .ok (.invokespecial 29, 3) := by decide +kernel
theorem dX5_init_49 : decode cX5_init 49 = .ok (.putfield 30, 3) := by decide +kernel
theorem dX5_init_52 : decode cX5_init 52 = .ok (.aload_n 0, 1) := by decide +kernel
theorem dX5_init_53 : decode cX5_init 53 = .ok (.new 34, 3) := by decide +kernel
theorem dX5_init_56 : decode cX5_init 56 = .ok (.dup, 1) := by decide +kernel
theorem dX5_init_57 : decode cX5_init 57 = .ok (.invokespecial 36, 3) := by decide +kernel
theorem dX5_init_60 : decode cX5_init 60 = .ok (.putfield 37, 3) := by decide +kernel
theorem dX5_init_63 : decode cX5_init 63 = .ok (.aload_n 0, 1) := by decide +kernel
theorem dX5_init_64 : decode cX5_init 64 = .ok (.new 41, 3) := by decide +kernel
theorem dX5_init_67 : decode cX5_init 67 = .ok (.dup, 1) := by decide +kernel
theorem dX5_init_68 : decode cX5_init 68 = .ok (.invokespecial 43, 3) := by decide +kernel
theorem dX5_init_71 : decode cX5_init 71 = .ok (.putfield 44, 3) := by decide +kernel
theorem dX5_init_74 : decode cX5_init 74 = .ok (.aload_n 0, 1) := by decide +kernel
theorem dX5_init_75 : decode cX5_init 75 = .ok (.new 48, 3) := by decide +kernel
theorem dX5_init_78 : decode cX5_init 78 = .ok (.dup, 1) := by decide +kernel
theorem dX5_init_79 : decode cX5_init 79 = .ok (.invokespecial 50, 3) := by decide +kernel
theorem dX5_init_82 : decode cX5_init 82 = .ok (.putfield 51, 3) := by decide +kernel
theorem dX5_init_85 : decode cX5_init 85 = .ok (.aload_n 0, 1) := by decide +kernel
theorem dX5_init_86 : decode cX5_init 86 = .ok (.iconst 4, 1) := by decide +kernel
theorem dX5_init_87 : decode cX5_init 87 = .ok (.newarray .int, 2) := by decide +kernel
theorem dX5_init_89 : decode cX5_init 89 = .ok (.putfield 55, 3) := by decide +kernel
theorem dX5_init_92 : decode cX5_init 92 = .ok (.aload_n 0, 1) := by decide +kernel
theorem dX5_init_93 : decode cX5_init 93 = .ok (.iconst 4, 1) := by decide +kernel
theorem dX5_init_94 : decode cX5_init 94 = .ok (.newarray .int, 2) := by decide +kernel
theorem dX5_init_96 : decode cX5_init 96 = .ok (.putfield 59, 3) := by decide +kernel
theorem dX5_init_99 : decode cX5_init 99 = .ok (.aload_n 0, 1) := by decide +kernel
theorem dX5_init_100 : decode cX5_init 100 = .ok (.iconst 0, 1) := by decide +kernel
theorem dX5_init_101 : decode cX5_init 101 = .ok (.putfield 62, 3) := by decide +kernel
theorem dX5_init_104 : decode cX5_init 104 = .ok (.iconst 0, 1) := by decide +kernel
theorem dX5_init_105 : decode cX5_init 105 = .ok (.istore_n 1, 1) := by decide +kernel
theorem dX5_init_106 : decode cX5_init 106 = .ok (.iload_n 1, 1) := by decide +kernel
theorem dX5_init_107 : decode cX5_init 107 = .ok (.iconst 2, 1) := by decide +kernel
theorem dX5_init_108 : decode cX5_init 108 = .ok (.if_icmp .ge 22, 3) := by decide +kernel
theorem dX5_init_111 : decode cX5_init 111 = .ok (.aload_n 0, 1) := by decide +kernel
theorem dX5_init_112 : decode cX5_init 112 = .ok (.getfield 19, 3) := by decide +kernel
theorem dX5_init_115 : decode cX5_init 115 = .ok (.iload_n 1, 1) := by decide +kernel
theorem dX5_init_116 : decode cX5_init 116 = .ok (.new 9, 3) := by decide +kernel
theorem dX5_init_119 : decode cX5_init 119 = .ok (.dup, 1) := by decide +kernel
theorem dX5_init_120 : decode cX5_init 120 = .ok (.invokespecial 11, 3) := by decide +kernel
theorem dX5_init_123 : decode cX5_init 123 = .ok (.aastore, 1) := by decide +kernel
theorem dX5_init_124 : decode cX5_init 124 = .ok (.iinc 1 1, 3) := by decide +kernel
theorem dX5_init_127 : decode cX5_init 127 = .ok (.goto (-21), 3) := by decide +kernel
theorem dX5_init_130 : decode cX5_init 130 = .ok (.return_, 1) := by decide +kernel
theorem dX5_type_0 : decode cX5_type 0 = .ok (.iload_n 1, 1) := by decide +kernel
theorem dX5_type_1 : decode cX5_type 1 = .ok (.iconst 0, 1) := by decide +kernel
theorem dX5_type_2 : decode cX5_type 2 = .ok (.sipush 255, 3) := by decide +kernel
theorem dX5_type_5 : decode cX5_type 5 = .ok (.invokestatic 66, 3) := by decide +kernel
theorem dX5_type_8 : decode cX5_type 8 = .ok (.ifCond .ne 5, 3) := by decide +kernel
theorem dX5_type_11 : decode cX5_type 11 = .ok (.iconst (-1), 1) := by decide +kernel
theorem dX5_type_12 : decode cX5_type 12 = .ok (.ireturn, 1) := by decide +kernel
theorem dX5_type_13 : decode cX5_type 13 = .ok (.aload_n 0, 1) := by decide +kernel
theorem dX5_type_14 : decode cX5_type 14 = .ok (.getfield 30, 3) := by decide +kernel
theorem dX5_type_17 : decode cX5_type 17 = .ok (.iload_n 1, 1) := by decide +kernel
theorem dX5_type_18 : decode cX5_type 18 = .ok (.invokevirtual 70, 3) := by decide +kernel
theorem dX5_type_21 : decode cX5_type 21 = .ok (.ifCond .eq 13, 3) := by decide +kernel
theorem dX5_type_24 : decode cX5_type 24 = .ok (.aload_n 0, 1) := by decide +kernel
theorem dX5_type_25 : decode cX5_type 25 = .ok (.getfield 30, 3) := by decide +kernel
theorem dX5_type_28 : decode cX5_type 28 = .ok (.getfield 74, 3) := by decide +kernel
theorem dX5_type_31 : decode cX5_type 31 = .ok (.goto 5, 3) := by decide +kernel
theorem dX5_type_34 : decode cX5_type 34 = .ok (.bipush (-3), 2) := by decide +kernel
theorem dX5_type_36 : decode cX5_type 36 = .ok (.ireturn, 1) := by decide +kernel
theorem dX5_clear_0 : decode cX5_clear 0 = .ok (.aload_n 0, 1) := by decide +kernel
theorem dX5_clear_1 : decode cX5_clear 1 = .ok (.getfield 30, 3) := by decide +kernel
theorem dX5_clear_4 : decode cX5_clear 4 = .ok (.getfield 74, 3) := by decide +kernel
theorem dX5_clear_7 : decode cX5_clear 7 = .ok (.istore_n 1, 1) := by decide +kernel
theorem dX5_clear_8 : decode cX5_clear 8 = .ok (.aload_n 0, 1) := by decide +kernel
theorem dX5_clear_9 : decode cX5_clear 9 = .ok (.getfield 30, 3) := by decide +kernel
theorem dX5_clear_12 : decode cX5_clear 12 = .ok (.iconst 0, 1) := by decide +kernel
theorem dX5_clear_13 : decode cX5_clear 13 = .ok (.putfield 74, 3) := by decide +kernel
theorem dX5_clear_16 : decode cX5_clear 16 = .ok (.iload_n 1, 1) := by decide +kernel
theorem dX5_clear_17 : decode cX5_clear 17 = .ok (.ireturn, 1) := by decide +kernel
theorem dX5_tunnel_0 : decode cX5_tunnel 0 = .ok (.aload_n 0, 1) := by decide +kernel
theorem dX5_tunnel_1 : decode cX5_tunnel 1 = .ok (.getfield 16, 3) := by decide +kernel
theorem dX5_tunnel_4 : decode cX5_tunnel 4 = .ok (.invokevirtual 77, 3) := by decide +kernel
theorem dX5_tunnel_7 : decode cX5_tunnel 7 = .ok (.aload_n 0, 1) := by decide +kernel
theorem dX5_tunnel_8 : decode cX5_tunnel 8 = .ok (.getfield 30, 3) := by decide +kernel
theorem dX5_tunnel_11 : decode cX5_tunnel 11 = .ok (.aload_n 0, 1) := by decide +kernel
theorem dX5_tunnel_12 : decode cX5_tunnel 12 = .ok (.getfield 16, 3) := by decide +kernel
theorem dX5_tunnel_15 : decode cX5_tunnel 15 = .ok (.invokevirtual 80, 3) := by decide +kernel
theorem dX5_tunnel_18 : decode cX5_tunnel 18 = .ok (.istore_n 1, 1) := by decide +kernel
theorem dX5_tunnel_19 : decode cX5_tunnel 19 = .ok (.iload_n 1, 1) := by decide +kernel
theorem dX5_tunnel_20 : decode cX5_tunnel 20 = .ok (.ifCond .ge 5, 3) := by decide +kernel
theorem dX5_tunnel_23 : decode cX5_tunnel 23 = .ok (.iload_n 1, 1) := by decide +kernel
theorem dX5_tunnel_24 : decode cX5_tunnel 24 = .ok (.ireturn, 1) := by decide +kernel
theorem dX5_tunnel_25 : decode cX5_tunnel 25 = .ok (.aload_n 0, 1) := by decide +kernel
theorem dX5_tunnel_26 : decode cX5_tunnel 26 = .ok (.getfield 12, 3) := by decide +kernel
theorem dX5_tunnel_29 : decode cX5_tunnel 29 = .ok (.aload_n 0, 1) := by decide +kernel
theorem dX5_tunnel_30 : decode cX5_tunnel 30 = .ok (.getfield 16, 3) := by decide +kernel
theorem dX5_tunnel_33 : decode cX5_tunnel 33 = .ok (.invokevirtual 84, 3) := by decide +kernel
theorem dX5_tunnel_36 : decode cX5_tunnel 36 = .ok (.aload_n 0, 1) := by decide +kernel
theorem dX5_tunnel_37 : decode cX5_tunnel 37 = .ok (.invokevirtual 88, 3) := by decide +kernel
theorem dX5_tunnel_40 : decode cX5_tunnel 40 = .ok (.aload_n 0, 1) := by decide +kernel
theorem dX5_tunnel_41 : decode cX5_tunnel 41 = .ok (.getfield 30, 3) := by decide +kernel
theorem dX5_tunnel_44 : decode cX5_tunnel 44 = .ok (.iconst 0, 1) := by decide +kernel
theorem dX5_tunnel_45 : decode cX5_tunnel 45 = .ok (.putfield 74, 3) := by decide +kernel
theorem dX5_tunnel_48 : decode cX5_tunnel 48 = .ok (.aload_n 0, 1) := by decide +kernel
theorem dX5_tunnel_49 : decode cX5_tunnel 49 = .ok (.getfield 37, 3) := by decide +kernel
theorem dX5_tunnel_52 : decode cX5_tunnel 52 = .ok (.iconst 0, 1) := by decide +kernel
theorem dX5_tunnel_53 : decode cX5_tunnel 53 = .ok (.putfield 91, 3) := by decide +kernel
theorem dX5_tunnel_56 : decode cX5_tunnel 56 = .ok (.aload_n 0, 1) := by decide +kernel
theorem dX5_tunnel_57 : decode cX5_tunnel 57 = .ok (.iconst 0, 1) := by decide +kernel
theorem dX5_tunnel_58 : decode cX5_tunnel 58 = .ok (.putfield 62, 3) := by decide +kernel
theorem dX5_tunnel_61 : decode cX5_tunnel 61 = .ok (.iconst 0, 1) := by decide +kernel
theorem dX5_tunnel_62 : decode cX5_tunnel 62 = .ok (.istore_n 2, 1) := by decide +kernel
theorem dX5_tunnel_63 : decode cX5_tunnel 63 = .ok (.iload_n 2, 1) := by decide +kernel
theorem dX5_tunnel_64 : decode cX5_tunnel 64 = .ok (.iconst 2, 1) := by decide +kernel
theorem dX5_tunnel_65 : decode cX5_tunnel 65 = .ok (.if_icmp .ge 16, 3) := by decide +kernel
theorem dX5_tunnel_68 : decode cX5_tunnel 68 = .ok (.aload_n 0, 1) := by decide +kernel
theorem dX5_tunnel_69 : decode cX5_tunnel 69 = .ok (.getfield 23, 3) := by decide +kernel
theorem dX5_tunnel_72 : decode cX5_tunnel 72 = .ok (.iload_n 2, 1) := by decide +kernel
theorem dX5_tunnel_73 : decode cX5_tunnel 73 = .ok (.iconst 0, 1) := by decide +kernel
theorem dX5_tunnel_74 : decode cX5_tunnel 74 = .ok (.bastore, 1) := by decide +kernel
theorem dX5_tunnel_75 : decode cX5_tunnel 75 = .ok (.iinc 2 1, 3) := by decide +kernel
theorem dX5_tunnel_78 : decode cX5_tunnel 78 = .ok (.goto (-15), 3) := by decide +kernel
theorem dX5_tunnel_81 : decode cX5_tunnel 81 = .ok (.iload_n 1, 1) := by decide +kernel
theorem dX5_tunnel_82 : decode cX5_tunnel 82 = .ok (.ireturn, 1) := by decide +kernel
theorem dX5_builds_0 : decode cX5_builds 0 = .ok (.iload_n 1, 1) := by decide +kernel
theorem dX5_builds_1 : decode cX5_builds 1 = .ok (.invokestatic 94, 3) := by decide +kernel
theorem dX5_builds_4 : decode cX5_builds 4 = .ok (.ifCond .ne 5, 3) := by decide +kernel
theorem dX5_builds_7 : decode cX5_builds 7 = .ok (.iconst (-1), 1) := by decide +kernel
theorem dX5_builds_8 : decode cX5_builds 8 = .ok (.ireturn, 1) := by decide +kernel
theorem dX5_builds_9 : decode cX5_builds 9 = .ok (.aload_n 0, 1) := by decide +kernel
theorem dX5_builds_10 : decode cX5_builds 10 = .ok (.getfield 12, 3) := by decide +kernel
theorem dX5_builds_13 : decode cX5_builds 13 = .ok (.getfield 97, 3) := by decide +kernel
theorem dX5_builds_16 : decode cX5_builds 16 = .ok (.bipush 12, 2) := by decide +kernel
theorem dX5_builds_18 : decode cX5_builds 18 = .ok (.if_icmp .lt 6, 3) := by decide +kernel
theorem dX5_builds_21 : decode cX5_builds 21 = .ok (.bipush (-3), 2) := by decide +kernel
theorem dX5_builds_23 : decode cX5_builds 23 = .ok (.ireturn, 1) := by decide +kernel
theorem dX5_builds_24 : decode cX5_builds 24 = .ok (.aload_n 0, 1) := by decide +kernel
theorem dX5_builds_25 : decode cX5_builds 25 = .ok (.getfield 12, 3) := by decide +kernel
theorem dX5_builds_28 : decode cX5_builds 28 = .ok (.aload_n 0, 1) := by decide +kernel
theorem dX5_builds_29 : decode cX5_builds 29 = .ok (.getfield 12, 3) := by decide +kernel
theorem dX5_builds_32 : decode cX5_builds 32 = .ok (.invokevirtual 100, 3) := by decide +kernel
theorem dX5_builds_35 : decode cX5_builds 35 = .ok (.iload_n 1, 1) := by decide +kernel
theorem dX5_builds_36 : decode cX5_builds 36 = .ok (.invokevirtual 104, 3) := by decide +kernel
theorem dX5_builds_39 : decode cX5_builds 39 = .ok (.ifCond .ne 6, 3) := by decide +kernel
theorem dX5_builds_42 : decode cX5_builds 42 = .ok (.bipush (-2), 2) := by decide +kernel
theorem dX5_builds_44 : decode cX5_builds 44 = .ok (.ireturn, 1) := by decide +kernel
theorem dX5_builds_45 : decode cX5_builds 45 = .ok (.aload_n 0, 1) := by decide +kernel
theorem dX5_builds_46 : decode cX5_builds 46 = .ok (.iload_n 1, 1) := by decide +kernel
theorem dX5_builds_47 : decode cX5_builds 47 = .ok (.invokevirtual 108, 3) := by decide +kernel
theorem dX5_builds_50 : decode cX5_builds 50 = .ok (.aload_n 0, 1) := by decide +kernel
theorem dX5_builds_51 : decode cX5_builds 51 = .ok (.getfield 12, 3) := by decide +kernel
theorem dX5_builds_54 : decode cX5_builds 54 = .ok (.aload_n 0, 1) := by decide +kernel
theorem dX5_builds_55 : decode cX5_builds 55 = .ok (.getfield 12, 3) := by decide +kernel
theorem dX5_builds_58 : decode cX5_builds 58 = .ok (.invokevirtual 100, 3) := by decide +kernel
theorem dX5_builds_61 : decode cX5_builds 61 = .ok (.invokevirtual 112, 3) := by decide +kernel
theorem dX5_builds_64 : decode cX5_builds 64 = .ok (.ireturn, 1) := by decide +kernel
theorem dX5_follows_0 : decode cX5_follows 0 = .ok (.iload_n 1, 1) := by decide +kernel
theorem dX5_follows_1 : decode cX5_follows 1 = .ok (.iconst 1, 1) := by decide +kernel
theorem dX5_follows_2 : decode cX5_follows 2 = .ok (.iconst 5, 1) := by decide +kernel
theorem dX5_follows_3 : decode cX5_follows 3 = .ok (.invokestatic 66, 3) := by decide +kernel
theorem dX5_follows_6 : decode cX5_follows 6 = .ok (.ifCond .ne 5, 3) := by decide +kernel
theorem dX5_follows_9 : decode cX5_follows 9 = .ok (.iconst (-1), 1) := by decide +kernel
theorem dX5_follows_10 : decode cX5_follows 10 = .ok (.ireturn, 1) := by decide +kernel
theorem dX5_follows_11 : decode cX5_follows 11 = .ok (.aload_n 0, 1) := by decide +kernel
theorem dX5_follows_12 : decode cX5_follows 12 = .ok (.getfield 12, 3) := by decide +kernel
theorem dX5_follows_15 : decode cX5_follows 15 = .ok (.getfield 97, 3) := by decide +kernel
theorem dX5_follows_18 : decode cX5_follows 18 = .ok (.bipush 12, 2) := by decide +kernel
theorem dX5_follows_20 : decode cX5_follows 20 = .ok (.if_icmp .lt 6, 3) := by decide +kernel
theorem dX5_follows_23 : decode cX5_follows 23 = .ok (.bipush (-3), 2) := by decide +kernel
theorem dX5_follows_25 : decode cX5_follows 25 = .ok (.ireturn, 1) := by decide +kernel
theorem dX5_follows_26 : decode cX5_follows 26 = .ok (.aload_n 0, 1) := by decide +kernel
theorem dX5_follows_27 : decode cX5_follows 27 = .ok (.getfield 44, 3) := by decide +kernel
theorem dX5_follows_30 : decode cX5_follows 30 = .ok (.aload_n 0, 1) := by decide +kernel
theorem dX5_follows_31 : decode cX5_follows 31 = .ok (.getfield 12, 3) := by decide +kernel
theorem dX5_follows_34 : decode cX5_follows 34 = .ok (.iload_n 1, 1) := by decide +kernel
theorem dX5_follows_35 : decode cX5_follows 35 = .ok (.invokevirtual 116, 3) := by decide +kernel
theorem dX5_follows_38 : decode cX5_follows 38 = .ok (.aload_n 0, 1) := by decide +kernel
theorem dX5_follows_39 : decode cX5_follows 39 = .ok (.getfield 44, 3) := by decide +kernel
theorem dX5_follows_42 : decode cX5_follows 42 = .ok (.getfield 120, 3) := by decide +kernel
theorem dX5_follows_45 : decode cX5_follows 45 = .ok (.ifCond .ne 6, 3) := by decide +kernel
theorem dX5_follows_48 : decode cX5_follows 48 = .ok (.bipush (-2), 2) := by decide +kernel
theorem dX5_follows_50 : decode cX5_follows 50 = .ok (.ireturn, 1) := by decide +kernel
theorem dX5_follows_51 : decode cX5_follows 51 = .ok (.aload_n 0, 1) := by decide +kernel
theorem dX5_follows_52 : decode cX5_follows 52 = .ok (.getfield 44, 3) := by decide +kernel
theorem dX5_follows_55 : decode cX5_follows 55 = .ok (.getfield 123, 3) := by decide +kernel
theorem dX5_follows_58 : decode cX5_follows 58 = .ok (.iconst 0, 1) := by decide +kernel
theorem dX5_follows_59 : decode cX5_follows 59 = .ok (.iaload, 1) := by decide +kernel
theorem dX5_follows_60 : decode cX5_follows 60 = .ok (.istore_n 2, 1) := by decide +kernel
theorem dX5_follows_61 : decode cX5_follows 61 = .ok (.aload_n 0, 1) := by decide +kernel
theorem dX5_follows_62 : decode cX5_follows 62 = .ok (.iload_n 2, 1) := by decide +kernel
theorem dX5_follows_63 : decode cX5_follows 63 = .ok (.invokevirtual 108, 3) := by decide +kernel
theorem dX5_follows_66 : decode cX5_follows 66 = .ok (.iload_n 2, 1) := by decide +kernel
theorem dX5_follows_67 : decode cX5_follows 67 = .ok (.ireturn, 1) := by decide +kernel
theorem dX5_wishes_0 : decode cX5_wishes 0 = .ok (.iload_n 1, 1) := by decide +kernel
theorem dX5_wishes_1 : decode cX5_wishes 1 = .ok (.iconst 1, 1) := by decide +kernel
theorem dX5_wishes_2 : decode cX5_wishes 2 = .ok (.bipush 17, 2) := by decide +kernel
theorem dX5_wishes_4 : decode cX5_wishes 4 = .ok (.invokestatic 66, 3) := by decide +kernel
theorem dX5_wishes_7 : decode cX5_wishes 7 = .ok (.ifCond .eq 17, 3) := by decide +kernel
theorem dX5_wishes_10 : decode cX5_wishes 10 = .ok (.iload_n 2, 1) := by decide +kernel
theorem dX5_wishes_11 : decode cX5_wishes 11 = .ok (.invokestatic 126, 3) := by decide +kernel
theorem dX5_wishes_14 : decode cX5_wishes 14 = .ok (.ifCond .eq 10, 3) := by decide +kernel
theorem dX5_wishes_17 : decode cX5_wishes 17 = .ok (.iload_n 3, 1) := by decide +kernel
theorem dX5_wishes_18 : decode cX5_wishes 18 = .ok (.invokestatic 126, 3) := by decide +kernel
theorem dX5_wishes_21 : decode cX5_wishes 21 = .ok (.ifCond .ne 5, 3) := by decide +kernel
theorem dX5_wishes_24 : decode cX5_wishes 24 = .ok (.iconst (-1), 1) := by decide +kernel
theorem dX5_wishes_25 : decode cX5_wishes 25 = .ok (.ireturn, 1) := by decide +kernel
theorem dX5_wishes_26 : decode cX5_wishes 26 = .ok (.aload_n 0, 1) := by decide +kernel
theorem dX5_wishes_27 : decode cX5_wishes 27 = .ok (.getfield 12, 3) := by decide +kernel
theorem dX5_wishes_30 : decode cX5_wishes 30 = .ok (.getfield 129, 3) := by decide +kernel
theorem dX5_wishes_33 : decode cX5_wishes 33 = .ok (.iload_n 1, 1) := by decide +kernel
theorem dX5_wishes_34 : decode cX5_wishes 34 = .ok (.iaload, 1) := by decide +kernel
theorem dX5_wishes_35 : decode cX5_wishes 35 = .ok (.iload_n 2, 1) := by decide +kernel
theorem dX5_wishes_36 : decode cX5_wishes 36 = .ok (.if_icmp .ne 19, 3) := by decide +kernel
theorem dX5_wishes_39 : decode cX5_wishes 39 = .ok (.aload_n 0, 1) := by decide +kernel
theorem dX5_wishes_40 : decode cX5_wishes 40 = .ok (.getfield 12, 3) := by decide +kernel
theorem dX5_wishes_43 : decode cX5_wishes 43 = .ok (.getfield 132, 3) := by decide +kernel
theorem dX5_wishes_46 : decode cX5_wishes 46 = .ok (.iload_n 1, 1) := by decide +kernel
theorem dX5_wishes_47 : decode cX5_wishes 47 = .ok (.iaload, 1) := by decide +kernel
theorem dX5_wishes_48 : decode cX5_wishes 48 = .ok (.iload_n 3, 1) := by decide +kernel
theorem dX5_wishes_49 : decode cX5_wishes 49 = .ok (.if_icmp .ne 6, 3) := by decide +kernel
theorem dX5_wishes_52 : decode cX5_wishes 52 = .ok (.bipush (-2), 2) := by decide +kernel
theorem dX5_wishes_54 : decode cX5_wishes 54 = .ok (.ireturn, 1) := by decide +kernel
theorem dX5_wishes_55 : decode cX5_wishes 55 = .ok (.aload_n 0, 1) := by decide +kernel
theorem dX5_wishes_56 : decode cX5_wishes 56 = .ok (.getfield 37, 3) := by decide +kernel
theorem dX5_wishes_59 : decode cX5_wishes 59 = .ok (.iconst 1, 1) := by decide +kernel
theorem dX5_wishes_60 : decode cX5_wishes 60 = .ok (.iload_n 1, 1) := by decide +kernel
theorem dX5_wishes_61 : decode cX5_wishes 61 = .ok (.aload_n 0, 1) := by decide +kernel
theorem dX5_wishes_62 : decode cX5_wishes 62 = .ok (.getfield 12, 3) := by decide +kernel
theorem dX5_wishes_65 : decode cX5_wishes 65 = .ok (.getfield 129, 3) := by decide +kernel
theorem dX5_wishes_68 : decode cX5_wishes 68 = .ok (.iload_n 1, 1) := by decide +kernel
theorem dX5_wishes_69 : decode cX5_wishes 69 = .ok (.iaload, 1) := by decide +kernel
theorem dX5_wishes_70 : decode cX5_wishes 70 = .ok (.aload_n 0, 1) := by decide +kernel
theorem dX5_wishes_71 : decode cX5_wishes 71 = .ok (.getfield 12, 3) := by decide +kernel
theorem dX5_wishes_74 : decode cX5_wishes 74 = .ok (.getfield 132, 3) := by decide +kernel
theorem dX5_wishes_77 : decode cX5_wishes 77 = .ok (.iload_n 1, 1) := by decide +kernel
theorem dX5_wishes_78 : decode cX5_wishes 78 = .ok (.iaload, 1) := by decide +kernel
theorem dX5_wishes_79 : decode cX5_wishes 79 = .ok (.invokevirtual 135, 3) := by decide +kernel
theorem dX5_wishes_82 : decode cX5_wishes 82 = .ok (.aload_n 0, 1) := by decide +kernel
theorem dX5_wishes_83 : decode cX5_wishes 83 = .ok (.getfield 12, 3) := by decide +kernel
theorem dX5_wishes_86 : decode cX5_wishes 86 = .ok (.iload_n 1, 1) := by decide +kernel
theorem dX5_wishes_87 : decode cX5_wishes 87 = .ok (.iload_n 2, 1) := by decide +kernel
theorem dX5_wishes_88 : decode cX5_wishes 88 = .ok (.iload_n 3, 1) := by decide +kernel
theorem dX5_wishes_89 : decode cX5_wishes 89 = .ok (.invokevirtual 138, 3) := by decide +kernel
theorem dX5_wishes_92 : decode cX5_wishes 92 = .ok (.aload_n 0, 1) := by decide +kernel
theorem dX5_wishes_93 : decode cX5_wishes 93 = .ok (.invokevirtual 88, 3) := by decide +kernel
theorem dX5_wishes_96 : decode cX5_wishes 96 = .ok (.iconst 1, 1) := by decide +kernel
theorem dX5_wishes_97 : decode cX5_wishes 97 = .ok (.ireturn, 1) := by decide +kernel
theorem dX5_rules_0 : decode cX5_rules 0 = .ok (.iload_n 1, 1) := by decide +kernel
theorem dX5_rules_1 : decode cX5_rules 1 = .ok (.iload_n 2, 1) := by decide +kernel
theorem dX5_rules_2 : decode cX5_rules 2 = .ok (.invokestatic 142, 3) := by decide +kernel
theorem dX5_rules_5 : decode cX5_rules 5 = .ok (.ifCond .ne 5, 3) := by decide +kernel
theorem dX5_rules_8 : decode cX5_rules 8 = .ok (.iconst (-1), 1) := by decide +kernel
theorem dX5_rules_9 : decode cX5_rules 9 = .ok (.ireturn, 1) := by decide +kernel
theorem dX5_rules_10 : decode cX5_rules 10 = .ok (.aload_n 0, 1) := by decide +kernel
theorem dX5_rules_11 : decode cX5_rules 11 = .ok (.getfield 12, 3) := by decide +kernel
theorem dX5_rules_14 : decode cX5_rules 14 = .ok (.iload_n 1, 1) := by decide +kernel
theorem dX5_rules_15 : decode cX5_rules 15 = .ok (.invokevirtual 146, 3) := by decide +kernel
theorem dX5_rules_18 : decode cX5_rules 18 = .ok (.istore_n 3, 1) := by decide +kernel
theorem dX5_rules_19 : decode cX5_rules 19 = .ok (.iload_n 3, 1) := by decide +kernel
theorem dX5_rules_20 : decode cX5_rules 20 = .ok (.iload_n 2, 1) := by decide +kernel
theorem dX5_rules_21 : decode cX5_rules 21 = .ok (.if_icmp .ne 6, 3) := by decide +kernel
theorem dX5_rules_24 : decode cX5_rules 24 = .ok (.bipush (-2), 2) := by decide +kernel
theorem dX5_rules_26 : decode cX5_rules 26 = .ok (.ireturn, 1) := by decide +kernel
theorem dX5_rules_27 : decode cX5_rules 27 = .ok (.aload_n 0, 1) := by decide +kernel
theorem dX5_rules_28 : decode cX5_rules 28 = .ok (.getfield 37, 3) := by decide +kernel
theorem dX5_rules_31 : decode cX5_rules 31 = .ok (.iconst 2, 1) := by decide +kernel
theorem dX5_rules_32 : decode cX5_rules 32 = .ok (.iload_n 1, 1) := by decide +kernel
theorem dX5_rules_33 : decode cX5_rules 33 = .ok (.iload_n 3, 1) := by decide +kernel
theorem dX5_rules_34 : decode cX5_rules 34 = .ok (.iconst 0, 1) := by decide +kernel
theorem dX5_rules_35 : decode cX5_rules 35 = .ok (.invokevirtual 135, 3) := by decide +kernel
theorem dX5_rules_38 : decode cX5_rules 38 = .ok (.aload_n 0, 1) := by decide +kernel
theorem dX5_rules_39 : decode cX5_rules 39 = .ok (.getfield 12, 3) := by decide +kernel
theorem dX5_rules_42 : decode cX5_rules 42 = .ok (.iload_n 1, 1) := by decide +kernel
theorem dX5_rules_43 : decode cX5_rules 43 = .ok (.iload_n 2, 1) := by decide +kernel
theorem dX5_rules_44 : decode cX5_rules 44 = .ok (.invokevirtual 150, 3) := by decide +kernel
theorem dX5_rules_47 : decode cX5_rules 47 = .ok (.aload_n 0, 1) := by decide +kernel
theorem dX5_rules_48 : decode cX5_rules 48 = .ok (.invokevirtual 88, 3) := by decide +kernel
theorem dX5_rules_51 : decode cX5_rules 51 = .ok (.iload_n 3, 1) := by decide +kernel
theorem dX5_rules_52 : decode cX5_rules 52 = .ok (.ireturn, 1) := by decide +kernel
theorem dX5_undo_0 : decode cX5_undo 0 = .ok (.aload_n 0, 1) := by decide +kernel
theorem dX5_undo_1 : decode cX5_undo 1 = .ok (.getfield 37, 3) := by decide +kernel
theorem dX5_undo_4 : decode cX5_undo 4 = .ok (.getfield 91, 3) := by decide +kernel
theorem dX5_undo_7 : decode cX5_undo 7 = .ok (.ifCond .gt 6, 3) := by decide +kernel
theorem dX5_undo_10 : decode cX5_undo 10 = .ok (.bipush (-2), 2) := by decide +kernel
theorem dX5_undo_12 : decode cX5_undo 12 = .ok (.ireturn, 1) := by decide +kernel
theorem dX5_undo_13 : decode cX5_undo 13 = .ok (.aload_n 0, 1) := by decide +kernel
theorem dX5_undo_14 : decode cX5_undo 14 = .ok (.getfield 37, 3) := by decide +kernel
theorem dX5_undo_17 : decode cX5_undo 17 = .ok (.aload_n 0, 1) := by decide +kernel
theorem dX5_undo_18 : decode cX5_undo 18 = .ok (.getfield 12, 3) := by decide +kernel
theorem dX5_undo_21 : decode cX5_undo 21 = .ok (.invokevirtual 154, 3) := by decide +kernel
theorem dX5_undo_24 : decode cX5_undo 24 = .ok (.aload_n 0, 1) := by decide +kernel
theorem dX5_undo_25 : decode cX5_undo 25 = .ok (.invokevirtual 88, 3) := by decide +kernel
theorem dX5_undo_28 : decode cX5_undo 28 = .ok (.aload_n 0, 1) := by decide +kernel
theorem dX5_undo_29 : decode cX5_undo 29 = .ok (.getfield 37, 3) := by decide +kernel
theorem dX5_undo_32 : decode cX5_undo 32 = .ok (.getfield 91, 3) := by decide +kernel
theorem dX5_undo_35 : decode cX5_undo 35 = .ok (.ireturn, 1) := by decide +kernel
theorem dX5_ring_0 : decode cX5_ring 0 = .ok (.iload_n 1, 1) := by decide +kernel
theorem dX5_ring_1 : decode cX5_ring 1 = .ok (.iconst 0, 1) := by decide +kernel
theorem dX5_ring_2 : decode cX5_ring 2 = .ok (.aload_n 0, 1) := by decide +kernel
theorem dX5_ring_3 : decode cX5_ring 3 = .ok (.getfield 12, 3) := by decide +kernel
theorem dX5_ring_6 : decode cX5_ring 6 = .ok (.getfield 97, 3) := by decide +kernel
theorem dX5_ring_9 : decode cX5_ring 9 = .ok (.invokestatic 66, 3) := by decide +kernel
theorem dX5_ring_12 : decode cX5_ring 12 = .ok (.ifCond .ne 6, 3) := by decide +kernel
theorem dX5_ring_15 : decode cX5_ring 15 = .ok (.ldc 157, 2) := by decide +kernel
theorem dX5_ring_17 : decode cX5_ring 17 = .ok (.ireturn, 1) := by decide +kernel
theorem dX5_ring_18 : decode cX5_ring 18 = .ok (.aload_n 0, 1) := by decide +kernel
theorem dX5_ring_19 : decode cX5_ring 19 = .ok (.getfield 12, 3) := by decide +kernel
theorem dX5_ring_22 : decode cX5_ring 22 = .ok (.getfield 158, 3) := by decide +kernel
theorem dX5_ring_25 : decode cX5_ring 25 = .ok (.iload_n 1, 1) := by decide +kernel
theorem dX5_ring_26 : decode cX5_ring 26 = .ok (.aaload, 1) := by decide +kernel
theorem dX5_ring_27 : decode cX5_ring 27 = .ok (.astore_n 3, 1) := by decide +kernel
theorem dX5_ring_28 : decode cX5_ring 28 = .ok (.iload_n 2, 1) := by decide +kernel
theorem dX5_ring_29 : decode cX5_ring 29 = .ok (.tableswitch 73 0 5 #[39, 44, 49, 54, 59, 64], 39) := by decide +kernel
theorem dX5_ring_68 : decode cX5_ring 68 = .ok (.aload_n 3, 1) := by decide +kernel
theorem dX5_ring_69 : decode cX5_ring 69 = .ok (.getfield 162, 3) := by decide +kernel
theorem dX5_ring_72 : decode cX5_ring 72 = .ok (.ireturn, 1) := by decide +kernel
theorem dX5_ring_73 : decode cX5_ring 73 = .ok (.aload_n 3, 1) := by decide +kernel
theorem dX5_ring_74 : decode cX5_ring 74 = .ok (.getfield 165, 3) := by decide +kernel
theorem dX5_ring_77 : decode cX5_ring 77 = .ok (.ireturn, 1) := by decide +kernel
theorem dX5_ring_78 : decode cX5_ring 78 = .ok (.aload_n 3, 1) := by decide +kernel
theorem dX5_ring_79 : decode cX5_ring 79 = .ok (.getfield 168, 3) := by decide +kernel
theorem dX5_ring_82 : decode cX5_ring 82 = .ok (.ireturn, 1) := by decide +kernel
theorem dX5_ring_83 : decode cX5_ring 83 = .ok (.aload_n 3, 1) := by decide +kernel
theorem dX5_ring_84 : decode cX5_ring 84 = .ok (.getfield 171, 3) := by decide +kernel
theorem dX5_ring_87 : decode cX5_ring 87 = .ok (.ireturn, 1) := by decide +kernel
theorem dX5_ring_88 : decode cX5_ring 88 = .ok (.aload_n 3, 1) := by decide +kernel
theorem dX5_ring_89 : decode cX5_ring 89 = .ok (.getfield 174, 3) := by decide +kernel
theorem dX5_ring_92 : decode cX5_ring 92 = .ok (.ireturn, 1) := by decide +kernel
theorem dX5_ring_93 : decode cX5_ring 93 = .ok (.aload_n 0, 1) := by decide +kernel
theorem dX5_ring_94 : decode cX5_ring 94 = .ok (.getfield 12, 3) := by decide +kernel
theorem dX5_ring_97 : decode cX5_ring 97 = .ok (.aload_n 3, 1) := by decide +kernel
theorem dX5_ring_98 : decode cX5_ring 98 = .ok (.invokevirtual 112, 3) := by decide +kernel
theorem dX5_ring_101 : decode cX5_ring 101 = .ok (.ireturn, 1) := by decide +kernel
theorem dX5_ring_102 : decode cX5_ring 102 = .ok (.ldc 157, 2) := by decide +kernel
theorem dX5_ring_104 : decode cX5_ring 104 = .ok (.ireturn, 1) := by decide +kernel
theorem dX5_wish_0 : decode cX5_wish 0 = .ok (.iload_n 1, 1) := by decide +kernel
theorem dX5_wish_1 : decode cX5_wish 1 = .ok (.iconst 0, 1) := by decide +kernel
theorem dX5_wish_2 : decode cX5_wish 2 = .ok (.bipush 17, 2) := by decide +kernel
theorem dX5_wish_4 : decode cX5_wish 4 = .ok (.invokestatic 66, 3) := by decide +kernel
theorem dX5_wish_7 : decode cX5_wish 7 = .ok (.ifCond .eq 12, 3) := by decide +kernel
theorem dX5_wish_10 : decode cX5_wish 10 = .ok (.iload_n 2, 1) := by decide +kernel
theorem dX5_wish_11 : decode cX5_wish 11 = .ok (.iconst 0, 1) := by decide +kernel
theorem dX5_wish_12 : decode cX5_wish 12 = .ok (.iconst 1, 1) := by decide +kernel
theorem dX5_wish_13 : decode cX5_wish 13 = .ok (.invokestatic 66, 3) := by decide +kernel
theorem dX5_wish_16 : decode cX5_wish 16 = .ok (.ifCond .ne 6, 3) := by decide +kernel
theorem dX5_wish_19 : decode cX5_wish 19 = .ok (.ldc 157, 2) := by decide +kernel
theorem dX5_wish_21 : decode cX5_wish 21 = .ok (.ireturn, 1) := by decide +kernel
theorem dX5_wish_22 : decode cX5_wish 22 = .ok (.iload_n 2, 1) := by decide +kernel
theorem dX5_wish_23 : decode cX5_wish 23 = .ok (.ifCond .ne 15, 3) := by decide +kernel
theorem dX5_wish_26 : decode cX5_wish 26 = .ok (.aload_n 0, 1) := by decide +kernel
theorem dX5_wish_27 : decode cX5_wish 27 = .ok (.getfield 12, 3) := by decide +kernel
theorem dX5_wish_30 : decode cX5_wish 30 = .ok (.getfield 129, 3) := by decide +kernel
theorem dX5_wish_33 : decode cX5_wish 33 = .ok (.iload_n 1, 1) := by decide +kernel
theorem dX5_wish_34 : decode cX5_wish 34 = .ok (.iaload, 1) := by decide +kernel
theorem dX5_wish_35 : decode cX5_wish 35 = .ok (.goto 12, 3) := by decide +kernel
theorem dX5_wish_38 : decode cX5_wish 38 = .ok (.aload_n 0, 1) := by decide +kernel
theorem dX5_wish_39 : decode cX5_wish 39 = .ok (.getfield 12, 3) := by decide +kernel
theorem dX5_wish_42 : decode cX5_wish 42 = .ok (.getfield 132, 3) := by decide +kernel
theorem dX5_wish_45 : decode cX5_wish 45 = .ok (.iload_n 1, 1) := by decide +kernel
theorem dX5_wish_46 : decode cX5_wish 46 = .ok (.iaload, 1) := by decide +kernel
theorem dX5_wish_47 : decode cX5_wish 47 = .ok (.ireturn, 1) := by decide +kernel
theorem dX5_worst_0 : decode cX5_worst 0 = .ok (.iload_n 1, 1) := by decide +kernel
theorem dX5_worst_1 : decode cX5_worst 1 = .ok (.ifCond .ge 5, 3) := by decide +kernel
theorem dX5_worst_4 : decode cX5_worst 4 = .ok (.iconst (-1), 1) := by decide +kernel
theorem dX5_worst_5 : decode cX5_worst 5 = .ok (.ireturn, 1) := by decide +kernel
theorem dX5_worst_6 : decode cX5_worst 6 = .ok (.iconst 1, 1) := by decide +kernel
theorem dX5_worst_7 : decode cX5_worst 7 = .ok (.istore_n 2, 1) := by decide +kernel
theorem dX5_worst_8 : decode cX5_worst 8 = .ok (.iload_n 2, 1) := by decide +kernel
theorem dX5_worst_9 : decode cX5_worst 9 = .ok (.aload_n 0, 1) := by decide +kernel
theorem dX5_worst_10 : decode cX5_worst 10 = .ok (.getfield 12, 3) := by decide +kernel
theorem dX5_worst_13 : decode cX5_worst 13 = .ok (.getfield 97, 3) := by decide +kernel
theorem dX5_worst_16 : decode cX5_worst 16 = .ok (.if_icmp .gt 23, 3) := by decide +kernel
theorem dX5_worst_19 : decode cX5_worst 19 = .ok (.aload_n 0, 1) := by decide +kernel
theorem dX5_worst_20 : decode cX5_worst 20 = .ok (.getfield 12, 3) := by decide +kernel
theorem dX5_worst_23 : decode cX5_worst 23 = .ok (.iload_n 2, 1) := by decide +kernel
theorem dX5_worst_24 : decode cX5_worst 24 = .ok (.invokevirtual 177, 3) := by decide +kernel
theorem dX5_worst_27 : decode cX5_worst 27 = .ok (.iload_n 1, 1) := by decide +kernel
theorem dX5_worst_28 : decode cX5_worst 28 = .ok (.if_icmp .ne 5, 3) := by decide +kernel
theorem dX5_worst_31 : decode cX5_worst 31 = .ok (.iload_n 2, 1) := by decide +kernel
theorem dX5_worst_32 : decode cX5_worst 32 = .ok (.ireturn, 1) := by decide +kernel
theorem dX5_worst_33 : decode cX5_worst 33 = .ok (.iinc 2 1, 3) := by decide +kernel
theorem dX5_worst_36 : decode cX5_worst 36 = .ok (.goto (-28), 3) := by decide +kernel
theorem dX5_worst_39 : decode cX5_worst 39 = .ok (.bipush (-9), 2) := by decide +kernel
theorem dX5_worst_41 : decode cX5_worst 41 = .ok (.ireturn, 1) := by decide +kernel
theorem dX5_plan_0 : decode cX5_plan 0 = .ok (.iload_n 1, 1) := by decide +kernel
theorem dX5_plan_1 : decode cX5_plan 1 = .ok (.iconst 1, 1) := by decide +kernel
theorem dX5_plan_2 : decode cX5_plan 2 = .ok (.iconst 5, 1) := by decide +kernel
theorem dX5_plan_3 : decode cX5_plan 3 = .ok (.invokestatic 66, 3) := by decide +kernel
theorem dX5_plan_6 : decode cX5_plan 6 = .ok (.ifCond .eq 9, 3) := by decide +kernel
theorem dX5_plan_9 : decode cX5_plan 9 = .ok (.iload_n 2, 1) := by decide +kernel
theorem dX5_plan_10 : decode cX5_plan 10 = .ok (.bipush (-2), 2) := by decide +kernel
theorem dX5_plan_12 : decode cX5_plan 12 = .ok (.if_icmp .ge 5, 3) := by decide +kernel
theorem dX5_plan_15 : decode cX5_plan 15 = .ok (.iconst (-1), 1) := by decide +kernel
theorem dX5_plan_16 : decode cX5_plan 16 = .ok (.ireturn, 1) := by decide +kernel
theorem dX5_plan_17 : decode cX5_plan 17 = .ok (.iload_n 2, 1) := by decide +kernel
theorem dX5_plan_18 : decode cX5_plan 18 = .ok (.iload_n 1, 1) := by decide +kernel
theorem dX5_plan_19 : decode cX5_plan 19 = .ok (.if_icmp .lt 6, 3) := by decide +kernel
theorem dX5_plan_22 : decode cX5_plan 22 = .ok (.bipush (-9), 2) := by decide +kernel
theorem dX5_plan_24 : decode cX5_plan 24 = .ok (.ireturn, 1) := by decide +kernel
theorem dX5_plan_25 : decode cX5_plan 25 = .ok (.aload_n 0, 1) := by decide +kernel
theorem dX5_plan_26 : decode cX5_plan 26 = .ok (.getfield 44, 3) := by decide +kernel
theorem dX5_plan_29 : decode cX5_plan 29 = .ok (.aload_n 0, 1) := by decide +kernel
theorem dX5_plan_30 : decode cX5_plan 30 = .ok (.getfield 12, 3) := by decide +kernel
theorem dX5_plan_33 : decode cX5_plan 33 = .ok (.iload_n 1, 1) := by decide +kernel
theorem dX5_plan_34 : decode cX5_plan 34 = .ok (.invokevirtual 116, 3) := by decide +kernel
theorem dX5_plan_37 : decode cX5_plan 37 = .ok (.aload_n 0, 1) := by decide +kernel
theorem dX5_plan_38 : decode cX5_plan 38 = .ok (.getfield 44, 3) := by decide +kernel
theorem dX5_plan_41 : decode cX5_plan 41 = .ok (.getfield 120, 3) := by decide +kernel
theorem dX5_plan_44 : decode cX5_plan 44 = .ok (.ifCond .ne 6, 3) := by decide +kernel
theorem dX5_plan_47 : decode cX5_plan 47 = .ok (.bipush (-9), 2) := by decide +kernel
theorem dX5_plan_49 : decode cX5_plan 49 = .ok (.ireturn, 1) := by decide +kernel
theorem dX5_plan_50 : decode cX5_plan 50 = .ok (.iload_n 2, 1) := by decide +kernel
theorem dX5_plan_51 : decode cX5_plan 51 = .ok (.iconst (-1), 1) := by decide +kernel
theorem dX5_plan_52 : decode cX5_plan 52 = .ok (.if_icmp .ne 11, 3) := by decide +kernel
theorem dX5_plan_55 : decode cX5_plan 55 = .ok (.aload_n 0, 1) := by decide +kernel
theorem dX5_plan_56 : decode cX5_plan 56 = .ok (.getfield 44, 3) := by decide +kernel
theorem dX5_plan_59 : decode cX5_plan 59 = .ok (.getfield 180, 3) := by decide +kernel
theorem dX5_plan_62 : decode cX5_plan 62 = .ok (.ireturn, 1) := by decide +kernel
theorem dX5_plan_63 : decode cX5_plan 63 = .ok (.iload_n 2, 1) := by decide +kernel
theorem dX5_plan_64 : decode cX5_plan 64 = .ok (.bipush (-2), 2) := by decide +kernel
theorem dX5_plan_66 : decode cX5_plan 66 = .ok (.if_icmp .ne 13, 3) := by decide +kernel
theorem dX5_plan_69 : decode cX5_plan 69 = .ok (.aload_n 0, 1) := by decide +kernel
theorem dX5_plan_70 : decode cX5_plan 70 = .ok (.getfield 44, 3) := by decide +kernel
theorem dX5_plan_73 : decode cX5_plan 73 = .ok (.getfield 120, 3) := by decide +kernel
theorem dX5_plan_76 : decode cX5_plan 76 = .ok (.goto 12, 3) := by decide +kernel
theorem dX5_plan_79 : decode cX5_plan 79 = .ok (.aload_n 0, 1) := by decide +kernel
theorem dX5_plan_80 : decode cX5_plan 80 = .ok (.getfield 44, 3) := by decide +kernel
theorem dX5_plan_83 : decode cX5_plan 83 = .ok (.getfield 123, 3) := by decide +kernel
theorem dX5_plan_86 : decode cX5_plan 86 = .ok (.iload_n 2, 1) := by decide +kernel
theorem dX5_plan_87 : decode cX5_plan 87 = .ok (.iaload, 1) := by decide +kernel
theorem dX5_plan_88 : decode cX5_plan 88 = .ok (.ireturn, 1) := by decide +kernel
theorem dX5_trying_0 : decode cX5_trying 0 = .ok (.iload_n 1, 1) := by decide +kernel
theorem dX5_trying_1 : decode cX5_trying 1 = .ok (.invokestatic 94, 3) := by decide +kernel
theorem dX5_trying_4 : decode cX5_trying 4 = .ok (.ifCond .ne 5, 3) := by decide +kernel
theorem dX5_trying_7 : decode cX5_trying 7 = .ok (.iconst (-1), 1) := by decide +kernel
theorem dX5_trying_8 : decode cX5_trying 8 = .ok (.ireturn, 1) := by decide +kernel
theorem dX5_trying_9 : decode cX5_trying 9 = .ok (.aload_n 0, 1) := by decide +kernel
theorem dX5_trying_10 : decode cX5_trying 10 = .ok (.getfield 12, 3) := by decide +kernel
theorem dX5_trying_13 : decode cX5_trying 13 = .ok (.aload_n 0, 1) := by decide +kernel
theorem dX5_trying_14 : decode cX5_trying 14 = .ok (.getfield 12, 3) := by decide +kernel
theorem dX5_trying_17 : decode cX5_trying 17 = .ok (.invokevirtual 100, 3) := by decide +kernel
theorem dX5_trying_20 : decode cX5_trying 20 = .ok (.iload_n 1, 1) := by decide +kernel
theorem dX5_trying_21 : decode cX5_trying 21 = .ok (.invokevirtual 104, 3) := by decide +kernel
theorem dX5_trying_24 : decode cX5_trying 24 = .ok (.ifCond .ne 6, 3) := by decide +kernel
theorem dX5_trying_27 : decode cX5_trying 27 = .ok (.bipush (-2), 2) := by decide +kernel
theorem dX5_trying_29 : decode cX5_trying 29 = .ok (.ireturn, 1) := by decide +kernel
theorem dX5_trying_30 : decode cX5_trying 30 = .ok (.aload_n 0, 1) := by decide +kernel
theorem dX5_trying_31 : decode cX5_trying 31 = .ok (.getfield 51, 3) := by decide +kernel
theorem dX5_trying_34 : decode cX5_trying 34 = .ok (.aload_n 0, 1) := by decide +kernel
theorem dX5_trying_35 : decode cX5_trying 35 = .ok (.getfield 12, 3) := by decide +kernel
theorem dX5_trying_38 : decode cX5_trying 38 = .ok (.invokevirtual 100, 3) := by decide +kernel
theorem dX5_trying_41 : decode cX5_trying 41 = .ok (.invokevirtual 183, 3) := by decide +kernel
theorem dX5_trying_44 : decode cX5_trying 44 = .ok (.aload_n 0, 1) := by decide +kernel
theorem dX5_trying_45 : decode cX5_trying 45 = .ok (.getfield 51, 3) := by decide +kernel
theorem dX5_trying_48 : decode cX5_trying 48 = .ok (.iload_n 1, 1) := by decide +kernel
theorem dX5_trying_49 : decode cX5_trying 49 = .ok (.aload_n 0, 1) := by decide +kernel
theorem dX5_trying_50 : decode cX5_trying 50 = .ok (.getfield 12, 3) := by decide +kernel
theorem dX5_trying_53 : decode cX5_trying 53 = .ok (.getfield 186, 3) := by decide +kernel
theorem dX5_trying_56 : decode cX5_trying 56 = .ok (.invokevirtual 189, 3) := by decide +kernel
theorem dX5_trying_59 : decode cX5_trying 59 = .ok (.aload_n 0, 1) := by decide +kernel
theorem dX5_trying_60 : decode cX5_trying 60 = .ok (.getfield 12, 3) := by decide +kernel
theorem dX5_trying_63 : decode cX5_trying 63 = .ok (.aload_n 0, 1) := by decide +kernel
theorem dX5_trying_64 : decode cX5_trying 64 = .ok (.getfield 51, 3) := by decide +kernel
theorem dX5_trying_67 : decode cX5_trying 67 = .ok (.invokevirtual 112, 3) := by decide +kernel
theorem dX5_trying_70 : decode cX5_trying 70 = .ok (.ireturn, 1) := by decide +kernel
theorem dX5_sees_0 : decode cX5_sees 0 = .ok (.iload_n 1, 1) := by decide +kernel
theorem dX5_sees_1 : decode cX5_sees 1 = .ok (.sipush (-9999), 3) := by decide +kernel
theorem dX5_sees_4 : decode cX5_sees 4 = .ok (.sipush 9999, 3) := by decide +kernel
theorem dX5_sees_7 : decode cX5_sees 7 = .ok (.invokestatic 66, 3) := by decide +kernel
theorem dX5_sees_10 : decode cX5_sees 10 = .ok (.ifCond .eq 16, 3) := by decide +kernel
theorem dX5_sees_13 : decode cX5_sees 13 = .ok (.iload_n 2, 1) := by decide +kernel
theorem dX5_sees_14 : decode cX5_sees 14 = .ok (.sipush (-9999), 3) := by decide +kernel
theorem dX5_sees_17 : decode cX5_sees 17 = .ok (.sipush 9999, 3) := by decide +kernel
theorem dX5_sees_20 : decode cX5_sees 20 = .ok (.invokestatic 66, 3) := by decide +kernel
theorem dX5_sees_23 : decode cX5_sees 23 = .ok (.ifCond .ne 5, 3) := by decide +kernel
theorem dX5_sees_26 : decode cX5_sees 26 = .ok (.iconst (-1), 1) := by decide +kernel
theorem dX5_sees_27 : decode cX5_sees 27 = .ok (.ireturn, 1) := by decide +kernel
theorem dX5_sees_28 : decode cX5_sees 28 = .ok (.aload_n 0, 1) := by decide +kernel
theorem dX5_sees_29 : decode cX5_sees 29 = .ok (.getfield 62, 3) := by decide +kernel
theorem dX5_sees_32 : decode cX5_sees 32 = .ok (.iconst 4, 1) := by decide +kernel
theorem dX5_sees_33 : decode cX5_sees 33 = .ok (.if_icmp .lt 6, 3) := by decide +kernel
theorem dX5_sees_36 : decode cX5_sees 36 = .ok (.bipush (-3), 2) := by decide +kernel
theorem dX5_sees_38 : decode cX5_sees 38 = .ok (.ireturn, 1) := by decide +kernel
theorem dX5_sees_39 : decode cX5_sees 39 = .ok (.aload_n 0, 1) := by decide +kernel
theorem dX5_sees_40 : decode cX5_sees 40 = .ok (.getfield 55, 3) := by decide +kernel
theorem dX5_sees_43 : decode cX5_sees 43 = .ok (.aload_n 0, 1) := by decide +kernel
theorem dX5_sees_44 : decode cX5_sees 44 = .ok (.getfield 62, 3) := by decide +kernel
theorem dX5_sees_47 : decode cX5_sees 47 = .ok (.iload_n 1, 1) := by decide +kernel
theorem dX5_sees_48 : decode cX5_sees 48 = .ok (.iastore, 1) := by decide +kernel
theorem dX5_sees_49 : decode cX5_sees 49 = .ok (.aload_n 0, 1) := by decide +kernel
theorem dX5_sees_50 : decode cX5_sees 50 = .ok (.getfield 59, 3) := by decide +kernel
theorem dX5_sees_53 : decode cX5_sees 53 = .ok (.aload_n 0, 1) := by decide +kernel
theorem dX5_sees_54 : decode cX5_sees 54 = .ok (.getfield 62, 3) := by decide +kernel
theorem dX5_sees_57 : decode cX5_sees 57 = .ok (.iload_n 2, 1) := by decide +kernel
theorem dX5_sees_58 : decode cX5_sees 58 = .ok (.iastore, 1) := by decide +kernel
theorem dX5_sees_59 : decode cX5_sees 59 = .ok (.aload_n 0, 1) := by decide +kernel
theorem dX5_sees_60 : decode cX5_sees 60 = .ok (.dup, 1) := by decide +kernel
theorem dX5_sees_61 : decode cX5_sees 61 = .ok (.getfield 62, 3) := by decide +kernel
theorem dX5_sees_64 : decode cX5_sees 64 = .ok (.iconst 1, 1) := by decide +kernel
theorem dX5_sees_65 : decode cX5_sees 65 = .ok (.iadd, 1) := by decide +kernel
theorem dX5_sees_66 : decode cX5_sees 66 = .ok (.putfield 62, 3) := by decide +kernel
theorem dX5_sees_69 : decode cX5_sees 69 = .ok (.aload_n 0, 1) := by decide +kernel
theorem dX5_sees_70 : decode cX5_sees 70 = .ok (.getfield 62, 3) := by decide +kernel
theorem dX5_sees_73 : decode cX5_sees 73 = .ok (.ireturn, 1) := by decide +kernel
theorem dX5_forget_0 : decode cX5_forget 0 = .ok (.aload_n 0, 1) := by decide +kernel
theorem dX5_forget_1 : decode cX5_forget 1 = .ok (.getfield 62, 3) := by decide +kernel
theorem dX5_forget_4 : decode cX5_forget 4 = .ok (.istore_n 1, 1) := by decide +kernel
theorem dX5_forget_5 : decode cX5_forget 5 = .ok (.aload_n 0, 1) := by decide +kernel
theorem dX5_forget_6 : decode cX5_forget 6 = .ok (.iconst 0, 1) := by decide +kernel
theorem dX5_forget_7 : decode cX5_forget 7 = .ok (.putfield 62, 3) := by decide +kernel
theorem dX5_forget_10 : decode cX5_forget 10 = .ok (.iload_n 1, 1) := by decide +kernel
theorem dX5_forget_11 : decode cX5_forget 11 = .ok (.ireturn, 1) := by decide +kernel
theorem dX5_unseen_0 : decode cX5_unseen 0 = .ok (.iload_n 1, 1) := by decide +kernel
theorem dX5_unseen_1 : decode cX5_unseen 1 = .ok (.iconst 1, 1) := by decide +kernel
theorem dX5_unseen_2 : decode cX5_unseen 2 = .ok (.aload_n 0, 1) := by decide +kernel
theorem dX5_unseen_3 : decode cX5_unseen 3 = .ok (.getfield 12, 3) := by decide +kernel
theorem dX5_unseen_6 : decode cX5_unseen 6 = .ok (.getfield 97, 3) := by decide +kernel
theorem dX5_unseen_9 : decode cX5_unseen 9 = .ok (.invokestatic 66, 3) := by decide +kernel
theorem dX5_unseen_12 : decode cX5_unseen 12 = .ok (.ifCond .ne 5, 3) := by decide +kernel
theorem dX5_unseen_15 : decode cX5_unseen 15 = .ok (.iconst (-1), 1) := by decide +kernel
theorem dX5_unseen_16 : decode cX5_unseen 16 = .ok (.ireturn, 1) := by decide +kernel
theorem dX5_unseen_17 : decode cX5_unseen 17 = .ok (.iconst 0, 1) := by decide +kernel
theorem dX5_unseen_18 : decode cX5_unseen 18 = .ok (.istore_n 2, 1) := by decide +kernel
theorem dX5_unseen_19 : decode cX5_unseen 19 = .ok (.iconst 0, 1) := by decide +kernel
theorem dX5_unseen_20 : decode cX5_unseen 20 = .ok (.istore_n 3, 1) := by decide +kernel
theorem dX5_unseen_21 : decode cX5_unseen 21 = .ok (.iload_n 3, 1) := by decide +kernel
theorem dX5_unseen_22 : decode cX5_unseen 22 = .ok (.bipush 8, 2) := by decide +kernel
theorem dX5_unseen_24 : decode cX5_unseen 24 = .ok (.if_icmp .ge 40, 3) := by decide +kernel
theorem dX5_unseen_27 : decode cX5_unseen 27 = .ok (.iload_n 3, 1) := by decide +kernel
theorem dX5_unseen_28 : decode cX5_unseen 28 = .ok (.aload_n 0, 1) := by decide +kernel
theorem dX5_unseen_29 : decode cX5_unseen 29 = .ok (.getfield 12, 3) := by decide +kernel
theorem dX5_unseen_32 : decode cX5_unseen 32 = .ok (.getfield 158, 3) := by decide +kernel
theorem dX5_unseen_35 : decode cX5_unseen 35 = .ok (.iload_n 1, 1) := by decide +kernel
theorem dX5_unseen_36 : decode cX5_unseen 36 = .ok (.aaload, 1) := by decide +kernel
theorem dX5_unseen_37 : decode cX5_unseen 37 = .ok (.getfield 162, 3) := by decide +kernel
theorem dX5_unseen_40 : decode cX5_unseen 40 = .ok (.if_icmp .eq 18, 3) := by decide +kernel
theorem dX5_unseen_43 : decode cX5_unseen 43 = .ok (.aload_n 0, 1) := by decide +kernel
theorem dX5_unseen_44 : decode cX5_unseen 44 = .ok (.iload_n 1, 1) := by decide +kernel
theorem dX5_unseen_45 : decode cX5_unseen 45 = .ok (.iload_n 3, 1) := by decide +kernel
theorem dX5_unseen_46 : decode cX5_unseen 46 = .ok (.invokevirtual 192, 3) := by decide +kernel
theorem dX5_unseen_49 : decode cX5_unseen 49 = .ok (.ifCond .eq 9, 3) := by decide +kernel
theorem dX5_unseen_52 : decode cX5_unseen 52 = .ok (.iload_n 2, 1) := by decide +kernel
theorem dX5_unseen_53 : decode cX5_unseen 53 = .ok (.iconst 1, 1) := by decide +kernel
theorem dX5_unseen_54 : decode cX5_unseen 54 = .ok (.iload_n 3, 1) := by decide +kernel
theorem dX5_unseen_55 : decode cX5_unseen 55 = .ok (.ishl, 1) := by decide +kernel
theorem dX5_unseen_56 : decode cX5_unseen 56 = .ok (.ior, 1) := by decide +kernel
theorem dX5_unseen_57 : decode cX5_unseen 57 = .ok (.istore_n 2, 1) := by decide +kernel
theorem dX5_unseen_58 : decode cX5_unseen 58 = .ok (.iinc 3 1, 3) := by decide +kernel
theorem dX5_unseen_61 : decode cX5_unseen 61 = .ok (.goto (-40), 3) := by decide +kernel
theorem dX5_unseen_64 : decode cX5_unseen 64 = .ok (.iload_n 2, 1) := by decide +kernel
theorem dX5_unseen_65 : decode cX5_unseen 65 = .ok (.ireturn, 1) := by decide +kernel
theorem dX5_odds_0 : decode cX5_odds 0 = .ok (.iload_n 1, 1) := by decide +kernel
theorem dX5_odds_1 : decode cX5_odds 1 = .ok (.iconst 0, 1) := by decide +kernel
theorem dX5_odds_2 : decode cX5_odds 2 = .ok (.bipush 10, 2) := by decide +kernel
theorem dX5_odds_4 : decode cX5_odds 4 = .ok (.invokestatic 66, 3) := by decide +kernel
theorem dX5_odds_7 : decode cX5_odds 7 = .ok (.ifCond .eq 23, 3) := by decide +kernel
theorem dX5_odds_10 : decode cX5_odds 10 = .ok (.iload_n 2, 1) := by decide +kernel
theorem dX5_odds_11 : decode cX5_odds 11 = .ok (.iconst 0, 1) := by decide +kernel
theorem dX5_odds_12 : decode cX5_odds 12 = .ok (.sipush 9999, 3) := by decide +kernel
theorem dX5_odds_15 : decode cX5_odds 15 = .ok (.invokestatic 66, 3) := by decide +kernel
theorem dX5_odds_18 : decode cX5_odds 18 = .ok (.ifCond .eq 12, 3) := by decide +kernel
theorem dX5_odds_21 : decode cX5_odds 21 = .ok (.iload_n 3, 1) := by decide +kernel
theorem dX5_odds_22 : decode cX5_odds 22 = .ok (.iconst 0, 1) := by decide +kernel
theorem dX5_odds_23 : decode cX5_odds 23 = .ok (.iconst 1, 1) := by decide +kernel
theorem dX5_odds_24 : decode cX5_odds 24 = .ok (.invokestatic 66, 3) := by decide +kernel
theorem dX5_odds_27 : decode cX5_odds 27 = .ok (.ifCond .ne 5, 3) := by decide +kernel
theorem dX5_odds_30 : decode cX5_odds 30 = .ok (.iconst (-1), 1) := by decide +kernel
theorem dX5_odds_31 : decode cX5_odds 31 = .ok (.ireturn, 1) := by decide +kernel
theorem dX5_odds_32 : decode cX5_odds 32 = .ok (.aload_n 0, 1) := by decide +kernel
theorem dX5_odds_33 : decode cX5_odds 33 = .ok (.getfield 12, 3) := by decide +kernel
theorem dX5_odds_36 : decode cX5_odds 36 = .ok (.getfield 97, 3) := by decide +kernel
theorem dX5_odds_39 : decode cX5_odds 39 = .ok (.bipush 8, 2) := by decide +kernel
theorem dX5_odds_41 : decode cX5_odds 41 = .ok (.invokestatic 195, 3) := by decide +kernel
theorem dX5_odds_44 : decode cX5_odds 44 = .ok (.istore 4, 2) := by decide +kernel
theorem dX5_odds_46 : decode cX5_odds 46 = .ok (.aload_n 0, 1) := by decide +kernel
theorem dX5_odds_47 : decode cX5_odds 47 = .ok (.iload 4, 2) := by decide +kernel
theorem dX5_odds_49 : decode cX5_odds 49 = .ok (.iload_n 1, 1) := by decide +kernel
theorem dX5_odds_50 : decode cX5_odds 50 = .ok (.iload_n 2, 1) := by decide +kernel
theorem dX5_odds_51 : decode cX5_odds 51 = .ok (.invokevirtual 201, 3) := by decide +kernel
theorem dX5_odds_54 : decode cX5_odds 54 = .ok (.istore 5, 2) := by decide +kernel
theorem dX5_odds_56 : decode cX5_odds 56 = .ok (.bipush 10, 2) := by decide +kernel
theorem dX5_odds_58 : decode cX5_odds 58 = .ok (.iload 4, 2) := by decide +kernel
theorem dX5_odds_60 : decode cX5_odds 60 = .ok (.invokestatic 205, 3) := by decide +kernel
theorem dX5_odds_63 : decode cX5_odds 63 = .ok (.istore 6, 2) := by decide +kernel
theorem dX5_odds_65 : decode cX5_odds 65 = .ok (.iload 6, 2) := by decide +kernel
theorem dX5_odds_67 : decode cX5_odds 67 = .ok (.iload 5, 2) := by decide +kernel
theorem dX5_odds_69 : decode cX5_odds 69 = .ok (.invokestatic 208, 3) := by decide +kernel
theorem dX5_odds_72 : decode cX5_odds 72 = .ok (.istore 7, 2) := by decide +kernel
theorem dX5_odds_74 : decode cX5_odds 74 = .ok (.iload_n 3, 1) := by decide +kernel
theorem dX5_odds_75 : decode cX5_odds 75 = .ok (.ifCond .ne 8, 3) := by decide +kernel
theorem dX5_odds_78 : decode cX5_odds 78 = .ok (.iload 5, 2) := by decide +kernel
theorem dX5_odds_80 : decode cX5_odds 80 = .ok (.goto 5, 3) := by decide +kernel
theorem dX5_odds_83 : decode cX5_odds 83 = .ok (.iload 6, 2) := by decide +kernel
theorem dX5_odds_85 : decode cX5_odds 85 = .ok (.istore 8, 2) := by decide +kernel
theorem dX5_odds_87 : decode cX5_odds 87 = .ok (.iload 7, 2) := by decide +kernel
theorem dX5_odds_89 : decode cX5_odds 89 = .ok (.iconst 1, 1) := by decide +kernel
theorem dX5_odds_90 : decode cX5_odds 90 = .ok (.if_icmp .le 11, 3) := by decide +kernel
theorem dX5_odds_93 : decode cX5_odds 93 = .ok (.iload 8, 2) := by decide +kernel
theorem dX5_odds_95 : decode cX5_odds 95 = .ok (.iload 7, 2) := by decide +kernel
theorem dX5_odds_97 : decode cX5_odds 97 = .ok (.idiv, 1) := by decide +kernel
theorem dX5_odds_98 : decode cX5_odds 98 = .ok (.goto 5, 3) := by decide +kernel
theorem dX5_odds_101 : decode cX5_odds 101 = .ok (.iload 8, 2) := by decide +kernel
theorem dX5_odds_103 : decode cX5_odds 103 = .ok (.ireturn, 1) := by decide +kernel
theorem dX5_keep_0 : decode cX5_keep 0 = .ok (.iload_n 1, 1) := by decide +kernel
theorem dX5_keep_1 : decode cX5_keep 1 = .ok (.iconst 0, 1) := by decide +kernel
theorem dX5_keep_2 : decode cX5_keep 2 = .ok (.iconst 1, 1) := by decide +kernel
theorem dX5_keep_3 : decode cX5_keep 3 = .ok (.invokestatic 66, 3) := by decide +kernel
theorem dX5_keep_6 : decode cX5_keep 6 = .ok (.ifCond .ne 5, 3) := by decide +kernel
theorem dX5_keep_9 : decode cX5_keep 9 = .ok (.iconst (-1), 1) := by decide +kernel
theorem dX5_keep_10 : decode cX5_keep 10 = .ok (.ireturn, 1) := by decide +kernel
theorem dX5_keep_11 : decode cX5_keep 11 = .ok (.aload_n 0, 1) := by decide +kernel
theorem dX5_keep_12 : decode cX5_keep 12 = .ok (.getfield 19, 3) := by decide +kernel
theorem dX5_keep_15 : decode cX5_keep 15 = .ok (.iload_n 1, 1) := by decide +kernel
theorem dX5_keep_16 : decode cX5_keep 16 = .ok (.aaload, 1) := by decide +kernel
theorem dX5_keep_17 : decode cX5_keep 17 = .ok (.aload_n 0, 1) := by decide +kernel
theorem dX5_keep_18 : decode cX5_keep 18 = .ok (.getfield 12, 3) := by decide +kernel
theorem dX5_keep_21 : decode cX5_keep 21 = .ok (.invokevirtual 84, 3) := by decide +kernel
theorem dX5_keep_24 : decode cX5_keep 24 = .ok (.aload_n 0, 1) := by decide +kernel
theorem dX5_keep_25 : decode cX5_keep 25 = .ok (.getfield 23, 3) := by decide +kernel
theorem dX5_keep_28 : decode cX5_keep 28 = .ok (.iload_n 1, 1) := by decide +kernel
theorem dX5_keep_29 : decode cX5_keep 29 = .ok (.iconst 1, 1) := by decide +kernel
theorem dX5_keep_30 : decode cX5_keep 30 = .ok (.bastore, 1) := by decide +kernel
theorem dX5_keep_31 : decode cX5_keep 31 = .ok (.aload_n 0, 1) := by decide +kernel
theorem dX5_keep_32 : decode cX5_keep 32 = .ok (.getfield 12, 3) := by decide +kernel
theorem dX5_keep_35 : decode cX5_keep 35 = .ok (.getfield 97, 3) := by decide +kernel
theorem dX5_keep_38 : decode cX5_keep 38 = .ok (.ireturn, 1) := by decide +kernel
theorem dX5_back_0 : decode cX5_back 0 = .ok (.iload_n 1, 1) := by decide +kernel
theorem dX5_back_1 : decode cX5_back 1 = .ok (.iconst 0, 1) := by decide +kernel
theorem dX5_back_2 : decode cX5_back 2 = .ok (.iconst 1, 1) := by decide +kernel
theorem dX5_back_3 : decode cX5_back 3 = .ok (.invokestatic 66, 3) := by decide +kernel
theorem dX5_back_6 : decode cX5_back 6 = .ok (.ifCond .ne 5, 3) := by decide +kernel
theorem dX5_back_9 : decode cX5_back 9 = .ok (.iconst (-1), 1) := by decide +kernel
theorem dX5_back_10 : decode cX5_back 10 = .ok (.ireturn, 1) := by decide +kernel
theorem dX5_back_11 : decode cX5_back 11 = .ok (.aload_n 0, 1) := by decide +kernel
theorem dX5_back_12 : decode cX5_back 12 = .ok (.getfield 23, 3) := by decide +kernel
theorem dX5_back_15 : decode cX5_back 15 = .ok (.iload_n 1, 1) := by decide +kernel
theorem dX5_back_16 : decode cX5_back 16 = .ok (.baload, 1) := by decide +kernel
theorem dX5_back_17 : decode cX5_back 17 = .ok (.ifCond .ne 6, 3) := by decide +kernel
theorem dX5_back_20 : decode cX5_back 20 = .ok (.bipush (-2), 2) := by decide +kernel
theorem dX5_back_22 : decode cX5_back 22 = .ok (.ireturn, 1) := by decide +kernel
theorem dX5_back_23 : decode cX5_back 23 = .ok (.aload_n 0, 1) := by decide +kernel
theorem dX5_back_24 : decode cX5_back 24 = .ok (.getfield 12, 3) := by decide +kernel
theorem dX5_back_27 : decode cX5_back 27 = .ok (.aload_n 0, 1) := by decide +kernel
theorem dX5_back_28 : decode cX5_back 28 = .ok (.getfield 19, 3) := by decide +kernel
theorem dX5_back_31 : decode cX5_back 31 = .ok (.iload_n 1, 1) := by decide +kernel
theorem dX5_back_32 : decode cX5_back 32 = .ok (.aaload, 1) := by decide +kernel
theorem dX5_back_33 : decode cX5_back 33 = .ok (.invokevirtual 84, 3) := by decide +kernel
theorem dX5_back_36 : decode cX5_back 36 = .ok (.aload_n 0, 1) := by decide +kernel
theorem dX5_back_37 : decode cX5_back 37 = .ok (.invokevirtual 88, 3) := by decide +kernel
theorem dX5_back_40 : decode cX5_back 40 = .ok (.aload_n 0, 1) := by decide +kernel
theorem dX5_back_41 : decode cX5_back 41 = .ok (.getfield 37, 3) := by decide +kernel
theorem dX5_back_44 : decode cX5_back 44 = .ok (.iconst 0, 1) := by decide +kernel
theorem dX5_back_45 : decode cX5_back 45 = .ok (.putfield 91, 3) := by decide +kernel
theorem dX5_back_48 : decode cX5_back 48 = .ok (.aload_n 0, 1) := by decide +kernel
theorem dX5_back_49 : decode cX5_back 49 = .ok (.getfield 12, 3) := by decide +kernel
theorem dX5_back_52 : decode cX5_back 52 = .ok (.getfield 97, 3) := by decide +kernel
theorem dX5_back_55 : decode cX5_back 55 = .ok (.ireturn, 1) := by decide +kernel
theorem dX5_count_0 : decode cX5_count 0 = .ok (.iload_n 1, 1) := by decide +kernel
theorem dX5_count_1 : decode cX5_count 1 = .ok (.tableswitch 132 0 9 #[55, 63, 71, 79, 87, 95, 103, 111, 116, 124], 55) := by decide +kernel
theorem dX5_count_56 : decode cX5_count 56 = .ok (.aload_n 0, 1) := by decide +kernel
theorem dX5_count_57 : decode cX5_count 57 = .ok (.getfield 12, 3) := by decide +kernel
theorem dX5_count_60 : decode cX5_count 60 = .ok (.getfield 97, 3) := by decide +kernel
theorem dX5_count_63 : decode cX5_count 63 = .ok (.ireturn, 1) := by decide +kernel
theorem dX5_count_64 : decode cX5_count 64 = .ok (.aload_n 0, 1) := by decide +kernel
theorem dX5_count_65 : decode cX5_count 65 = .ok (.getfield 12, 3) := by decide +kernel
theorem dX5_count_68 : decode cX5_count 68 = .ok (.getfield 186, 3) := by decide +kernel
theorem dX5_count_71 : decode cX5_count 71 = .ok (.ireturn, 1) := by decide +kernel
theorem dX5_count_72 : decode cX5_count 72 = .ok (.aload_n 0, 1) := by decide +kernel
theorem dX5_count_73 : decode cX5_count 73 = .ok (.getfield 12, 3) := by decide +kernel
theorem dX5_count_76 : decode cX5_count 76 = .ok (.getfield 211, 3) := by decide +kernel
theorem dX5_count_79 : decode cX5_count 79 = .ok (.ireturn, 1) := by decide +kernel
theorem dX5_count_80 : decode cX5_count 80 = .ok (.aload_n 0, 1) := by decide +kernel
theorem dX5_count_81 : decode cX5_count 81 = .ok (.getfield 12, 3) := by decide +kernel
theorem dX5_count_84 : decode cX5_count 84 = .ok (.getfield 214, 3) := by decide +kernel
theorem dX5_count_87 : decode cX5_count 87 = .ok (.ireturn, 1) := by decide +kernel
theorem dX5_count_88 : decode cX5_count 88 = .ok (.aload_n 0, 1) := by decide +kernel
theorem dX5_count_89 : decode cX5_count 89 = .ok (.getfield 12, 3) := by decide +kernel
theorem dX5_count_92 : decode cX5_count 92 = .ok (.getfield 217, 3) := by decide +kernel
theorem dX5_count_95 : decode cX5_count 95 = .ok (.ireturn, 1) := by decide +kernel
theorem dX5_count_96 : decode cX5_count 96 = .ok (.aload_n 0, 1) := by decide +kernel
theorem dX5_count_97 : decode cX5_count 97 = .ok (.getfield 12, 3) := by decide +kernel
theorem dX5_count_100 : decode cX5_count 100 = .ok (.invokevirtual 220, 3) := by decide +kernel
theorem dX5_count_103 : decode cX5_count 103 = .ok (.ireturn, 1) := by decide +kernel
theorem dX5_count_104 : decode cX5_count 104 = .ok (.aload_n 0, 1) := by decide +kernel
theorem dX5_count_105 : decode cX5_count 105 = .ok (.getfield 12, 3) := by decide +kernel
theorem dX5_count_108 : decode cX5_count 108 = .ok (.invokevirtual 224, 3) := by decide +kernel
theorem dX5_count_111 : decode cX5_count 111 = .ok (.ireturn, 1) := by decide +kernel
theorem dX5_count_112 : decode cX5_count 112 = .ok (.aload_n 0, 1) := by decide +kernel
theorem dX5_count_113 : decode cX5_count 113 = .ok (.getfield 62, 3) := by decide +kernel
theorem dX5_count_116 : decode cX5_count 116 = .ok (.ireturn, 1) := by decide +kernel
theorem dX5_count_117 : decode cX5_count 117 = .ok (.aload_n 0, 1) := by decide +kernel
theorem dX5_count_118 : decode cX5_count 118 = .ok (.getfield 30, 3) := by decide +kernel
theorem dX5_count_121 : decode cX5_count 121 = .ok (.getfield 74, 3) := by decide +kernel
theorem dX5_count_124 : decode cX5_count 124 = .ok (.ireturn, 1) := by decide +kernel
theorem dX5_count_125 : decode cX5_count 125 = .ok (.aload_n 0, 1) := by decide +kernel
theorem dX5_count_126 : decode cX5_count 126 = .ok (.getfield 37, 3) := by decide +kernel
theorem dX5_count_129 : decode cX5_count 129 = .ok (.getfield 91, 3) := by decide +kernel
theorem dX5_count_132 : decode cX5_count 132 = .ok (.ireturn, 1) := by decide +kernel
theorem dX5_count_133 : decode cX5_count 133 = .ok (.iconst (-1), 1) := by decide +kernel
theorem dX5_count_134 : decode cX5_count 134 = .ok (.ireturn, 1) := by decide +kernel
theorem dX5_lineChanged_0 : decode cX5_lineChanged 0 = .ok (.aload_n 0, 1) := by decide +kernel
theorem dX5_lineChanged_1 : decode cX5_lineChanged 1 = .ok (.getfield 44, 3) := by decide +kernel
theorem dX5_lineChanged_4 : decode cX5_lineChanged 4 = .ok (.iconst 0, 1) := by decide +kernel
theorem dX5_lineChanged_5 : decode cX5_lineChanged 5 = .ok (.putfield 227, 3) := by decide +kernel
theorem dX5_lineChanged_8 : decode cX5_lineChanged 8 = .ok (.return_, 1) := by decide +kernel
theorem dX5_buildKnown_0 : decode cX5_buildKnown 0 = .ok (.aload_n 0, 1) := by decide +kernel
theorem dX5_buildKnown_1 : decode cX5_buildKnown 1 = .ok (.getfield 37, 3) := by decide +kernel
theorem dX5_buildKnown_4 : decode cX5_buildKnown 4 = .ok (.iconst 0, 1) := by decide +kernel
theorem dX5_buildKnown_5 : decode cX5_buildKnown 5 = .ok (.iconst 0, 1) := by decide +kernel
theorem dX5_buildKnown_6 : decode cX5_buildKnown 6 = .ok (.iconst 0, 1) := by decide +kernel
theorem dX5_buildKnown_7 : decode cX5_buildKnown 7 = .ok (.iconst 0, 1) := by decide +kernel
theorem dX5_buildKnown_8 : decode cX5_buildKnown 8 = .ok (.invokevirtual 135, 3) := by decide +kernel
theorem dX5_buildKnown_11 : decode cX5_buildKnown 11 = .ok (.aload_n 0, 1) := by decide +kernel
theorem dX5_buildKnown_12 : decode cX5_buildKnown 12 = .ok (.getfield 12, 3) := by decide +kernel
theorem dX5_buildKnown_15 : decode cX5_buildKnown 15 = .ok (.iload_n 1, 1) := by decide +kernel
theorem dX5_buildKnown_16 : decode cX5_buildKnown 16 = .ok (.invokevirtual 230, 3) := by decide +kernel
theorem dX5_buildKnown_19 : decode cX5_buildKnown 19 = .ok (.aload_n 0, 1) := by decide +kernel
theorem dX5_buildKnown_20 : decode cX5_buildKnown 20 = .ok (.invokevirtual 88, 3) := by decide +kernel
theorem dX5_buildKnown_23 : decode cX5_buildKnown 23 = .ok (.return_, 1) := by decide +kernel
theorem dX5_explainsAllSeen_0 : decode cX5_explainsAllSeen 0 = .ok (.aload_n 0, 1) := by decide +kernel
theorem dX5_explainsAllSeen_1 : decode cX5_explainsAllSeen 1 = .ok (.getfield 12, 3) := by decide +kernel
theorem dX5_explainsAllSeen_4 : decode cX5_explainsAllSeen 4 = .ok (.invokevirtual 100, 3) := by decide +kernel
theorem dX5_explainsAllSeen_7 : decode cX5_explainsAllSeen 7 = .ok (.astore_n 3, 1) := by decide +kernel
theorem dX5_explainsAllSeen_8 : decode cX5_explainsAllSeen 8 = .ok (.aload_n 0, 1) := by decide +kernel
theorem dX5_explainsAllSeen_9 : decode cX5_explainsAllSeen 9 = .ok (.getfield 12, 3) := by decide +kernel
theorem dX5_explainsAllSeen_12 : decode cX5_explainsAllSeen 12 = .ok (.getfield 158, 3) := by decide +kernel
theorem dX5_explainsAllSeen_15 : decode cX5_explainsAllSeen 15 = .ok (.iload_n 1, 1) := by decide +kernel
theorem dX5_explainsAllSeen_16 : decode cX5_explainsAllSeen 16 = .ok (.aaload, 1) := by decide +kernel
theorem dX5_explainsAllSeen_17 : decode cX5_explainsAllSeen 17 = .ok (.getfield 162, 3) := by decide +kernel
theorem dX5_explainsAllSeen_20 : decode cX5_explainsAllSeen 20 = .ok (.istore 4, 2) := by decide +kernel
theorem dX5_explainsAllSeen_22 : decode cX5_explainsAllSeen 22 = .ok (.aload_n 0, 1) := by decide +kernel
theorem dX5_explainsAllSeen_23 : decode cX5_explainsAllSeen 23 = .ok (.getfield 12, 3) := by decide +kernel
theorem dX5_explainsAllSeen_26 : decode cX5_explainsAllSeen 26 = .ok (.getfield 186, 3) := by decide +kernel
theorem dX5_explainsAllSeen_29 : decode cX5_explainsAllSeen 29 = .ok (.aload_n 0, 1) := by decide +kernel
theorem dX5_explainsAllSeen_30 : decode cX5_explainsAllSeen 30 = .ok (.getfield 12, 3) := by decide +kernel
theorem dX5_explainsAllSeen_33 : decode cX5_explainsAllSeen 33 = .ok (.getfield 97, 3) := by decide +kernel
theorem dX5_explainsAllSeen_36 : decode cX5_explainsAllSeen 36 = .ok (.iload_n 1, 1) := by decide +kernel
theorem dX5_explainsAllSeen_37 : decode cX5_explainsAllSeen 37 = .ok (.isub, 1) := by decide +kernel
theorem dX5_explainsAllSeen_38 : decode cX5_explainsAllSeen 38 = .ok (.iconst 1, 1) := by decide +kernel
theorem dX5_explainsAllSeen_39 : decode cX5_explainsAllSeen 39 = .ok (.iadd, 1) := by decide +kernel
theorem dX5_explainsAllSeen_40 : decode cX5_explainsAllSeen 40 = .ok (.imul, 1) := by decide +kernel
theorem dX5_explainsAllSeen_41 : decode cX5_explainsAllSeen 41 = .ok (.istore 5, 2) := by decide +kernel
theorem dX5_explainsAllSeen_43 : decode cX5_explainsAllSeen 43 = .ok (.aload_n 3, 1) := by decide +kernel
theorem dX5_explainsAllSeen_44 : decode cX5_explainsAllSeen 44 = .ok (.getfield 171, 3) := by decide +kernel
theorem dX5_explainsAllSeen_47 : decode cX5_explainsAllSeen 47 = .ok (.iload 5, 2) := by decide +kernel
theorem dX5_explainsAllSeen_49 : decode cX5_explainsAllSeen 49 = .ok (.iload_n 2, 1) := by decide +kernel
theorem dX5_explainsAllSeen_50 : decode cX5_explainsAllSeen 50 = .ok (.invokestatic 233, 3) := by decide +kernel
theorem dX5_explainsAllSeen_53 : decode cX5_explainsAllSeen 53 = .ok (.iload 4, 2) := by decide +kernel
theorem dX5_explainsAllSeen_55 : decode cX5_explainsAllSeen 55 = .ok (.invokestatic 233, 3) := by decide +kernel
theorem dX5_explainsAllSeen_58 : decode cX5_explainsAllSeen 58 = .ok (.isub, 1) := by decide +kernel
theorem dX5_explainsAllSeen_59 : decode cX5_explainsAllSeen 59 = .ok (.imul, 1) := by decide +kernel
theorem dX5_explainsAllSeen_60 : decode cX5_explainsAllSeen 60 = .ok (.iadd, 1) := by decide +kernel
theorem dX5_explainsAllSeen_61 : decode cX5_explainsAllSeen 61 = .ok (.istore 6, 2) := by decide +kernel
theorem dX5_explainsAllSeen_63 : decode cX5_explainsAllSeen 63 = .ok (.aload_n 3, 1) := by decide +kernel
theorem dX5_explainsAllSeen_64 : decode cX5_explainsAllSeen 64 = .ok (.getfield 174, 3) := by decide +kernel
theorem dX5_explainsAllSeen_67 : decode cX5_explainsAllSeen 67 = .ok (.iload 5, 2) := by decide +kernel
theorem dX5_explainsAllSeen_69 : decode cX5_explainsAllSeen 69 = .ok (.iload_n 2, 1) := by decide +kernel
theorem dX5_explainsAllSeen_70 : decode cX5_explainsAllSeen 70 = .ok (.invokestatic 236, 3) := by decide +kernel
theorem dX5_explainsAllSeen_73 : decode cX5_explainsAllSeen 73 = .ok (.iload 4, 2) := by decide +kernel
theorem dX5_explainsAllSeen_75 : decode cX5_explainsAllSeen 75 = .ok (.invokestatic 236, 3) := by decide +kernel
theorem dX5_explainsAllSeen_78 : decode cX5_explainsAllSeen 78 = .ok (.isub, 1) := by decide +kernel
theorem dX5_explainsAllSeen_79 : decode cX5_explainsAllSeen 79 = .ok (.imul, 1) := by decide +kernel
theorem dX5_explainsAllSeen_80 : decode cX5_explainsAllSeen 80 = .ok (.iadd, 1) := by decide +kernel
theorem dX5_explainsAllSeen_81 : decode cX5_explainsAllSeen 81 = .ok (.istore 7, 2) := by decide +kernel
theorem dX5_explainsAllSeen_83 : decode cX5_explainsAllSeen 83 = .ok (.iconst 0, 1) := by decide +kernel
theorem dX5_explainsAllSeen_84 : decode cX5_explainsAllSeen 84 = .ok (.istore 8, 2) := by decide +kernel
theorem dX5_explainsAllSeen_86 : decode cX5_explainsAllSeen 86 = .ok (.iload 8, 2) := by decide +kernel
theorem dX5_explainsAllSeen_88 : decode cX5_explainsAllSeen 88 = .ok (.aload_n 0, 1) := by decide +kernel
theorem dX5_explainsAllSeen_89 : decode cX5_explainsAllSeen 89 = .ok (.getfield 62, 3) := by decide +kernel
theorem dX5_explainsAllSeen_92 : decode cX5_explainsAllSeen 92 = .ok (.if_icmp .ge 41, 3) := by decide +kernel
theorem dX5_explainsAllSeen_95 : decode cX5_explainsAllSeen 95 = .ok (.iload 8, 2) := by decide +kernel
theorem dX5_explainsAllSeen_97 : decode cX5_explainsAllSeen 97 = .ok (.iconst 4, 1) := by decide +kernel
theorem dX5_explainsAllSeen_98 : decode cX5_explainsAllSeen 98 = .ok (.if_icmp .ge 35, 3) := by decide +kernel
theorem dX5_explainsAllSeen_101 : decode cX5_explainsAllSeen 101 = .ok (.aload_n 0, 1) := by decide +kernel
theorem dX5_explainsAllSeen_102 : decode cX5_explainsAllSeen 102 = .ok (.getfield 55, 3) := by decide +kernel
theorem dX5_explainsAllSeen_105 : decode cX5_explainsAllSeen 105 = .ok (.iload 8, 2) := by decide +kernel
theorem dX5_explainsAllSeen_107 : decode cX5_explainsAllSeen 107 = .ok (.iaload, 1) := by decide +kernel
theorem dX5_explainsAllSeen_108 : decode cX5_explainsAllSeen 108 = .ok (.iload 6, 2) := by decide +kernel
theorem dX5_explainsAllSeen_110 : decode cX5_explainsAllSeen 110 = .ok (.if_icmp .ne 15, 3) := by decide +kernel
theorem dX5_explainsAllSeen_113 : decode cX5_explainsAllSeen 113 = .ok (.aload_n 0, 1) := by decide +kernel
theorem dX5_explainsAllSeen_114 : decode cX5_explainsAllSeen 114 = .ok (.getfield 59, 3) := by decide +kernel
theorem dX5_explainsAllSeen_117 : decode cX5_explainsAllSeen 117 = .ok (.iload 8, 2) := by decide +kernel
theorem dX5_explainsAllSeen_119 : decode cX5_explainsAllSeen 119 = .ok (.iaload, 1) := by decide +kernel
theorem dX5_explainsAllSeen_120 : decode cX5_explainsAllSeen 120 = .ok (.iload 7, 2) := by decide +kernel
theorem dX5_explainsAllSeen_122 : decode cX5_explainsAllSeen 122 = .ok (.if_icmp .eq 5, 3) := by decide +kernel
theorem dX5_explainsAllSeen_125 : decode cX5_explainsAllSeen 125 = .ok (.iconst 0, 1) := by decide +kernel
theorem dX5_explainsAllSeen_126 : decode cX5_explainsAllSeen 126 = .ok (.ireturn, 1) := by decide +kernel
theorem dX5_explainsAllSeen_127 : decode cX5_explainsAllSeen 127 = .ok (.iinc 8 1, 3) := by decide +kernel
theorem dX5_explainsAllSeen_130 : decode cX5_explainsAllSeen 130 = .ok (.goto (-44), 3) := by decide +kernel
theorem dX5_explainsAllSeen_133 : decode cX5_explainsAllSeen 133 = .ok (.iconst 1, 1) := by decide +kernel
theorem dX5_explainsAllSeen_134 : decode cX5_explainsAllSeen 134 = .ok (.ireturn, 1) := by decide +kernel
theorem dX5_nearParts_0 : decode cX5_nearParts 0 = .ok (.iconst 0, 1) := by decide +kernel
theorem dX5_nearParts_1 : decode cX5_nearParts 1 = .ok (.istore 4, 2) := by decide +kernel
theorem dX5_nearParts_3 : decode cX5_nearParts 3 = .ok (.iconst 0, 1) := by decide +kernel
theorem dX5_nearParts_4 : decode cX5_nearParts 4 = .ok (.istore 5, 2) := by decide +kernel
theorem dX5_nearParts_6 : decode cX5_nearParts 6 = .ok (.iload 5, 2) := by decide +kernel
theorem dX5_nearParts_8 : decode cX5_nearParts 8 = .ok (.iconst 1, 1) := by decide +kernel
theorem dX5_nearParts_9 : decode cX5_nearParts 9 = .ok (.iload_n 1, 1) := by decide +kernel
theorem dX5_nearParts_10 : decode cX5_nearParts 10 = .ok (.ishl, 1) := by decide +kernel
theorem dX5_nearParts_11 : decode cX5_nearParts 11 = .ok (.if_icmp .ge 61, 3) := by decide +kernel
theorem dX5_nearParts_14 : decode cX5_nearParts 14 = .ok (.aload_n 0, 1) := by decide +kernel
theorem dX5_nearParts_15 : decode cX5_nearParts 15 = .ok (.iload 5, 2) := by decide +kernel
theorem dX5_nearParts_17 : decode cX5_nearParts 17 = .ok (.iload_n 1, 1) := by decide +kernel
theorem dX5_nearParts_18 : decode cX5_nearParts 18 = .ok (.invokevirtual 239, 3) := by decide +kernel
theorem dX5_nearParts_21 : decode cX5_nearParts 21 = .ok (.aload_n 0, 1) := by decide +kernel
theorem dX5_nearParts_22 : decode cX5_nearParts 22 = .ok (.getfield 12, 3) := by decide +kernel
theorem dX5_nearParts_25 : decode cX5_nearParts 25 = .ok (.aload_n 0, 1) := by decide +kernel
theorem dX5_nearParts_26 : decode cX5_nearParts 26 = .ok (.getfield 51, 3) := by decide +kernel
theorem dX5_nearParts_29 : decode cX5_nearParts 29 = .ok (.invokevirtual 112, 3) := by decide +kernel
theorem dX5_nearParts_32 : decode cX5_nearParts 32 = .ok (.iload_n 3, 1) := by decide +kernel
theorem dX5_nearParts_33 : decode cX5_nearParts 33 = .ok (.if_icmp .gt 33, 3) := by decide +kernel
theorem dX5_nearParts_36 : decode cX5_nearParts 36 = .ok (.iload 5, 2) := by decide +kernel
theorem dX5_nearParts_38 : decode cX5_nearParts 38 = .ok (.invokestatic 242, 3) := by decide +kernel
theorem dX5_nearParts_41 : decode cX5_nearParts 41 = .ok (.istore 6, 2) := by decide +kernel
theorem dX5_nearParts_43 : decode cX5_nearParts 43 = .ok (.iload 4, 2) := by decide +kernel
theorem dX5_nearParts_45 : decode cX5_nearParts 45 = .ok (.iload_n 2, 1) := by decide +kernel
theorem dX5_nearParts_46 : decode cX5_nearParts 46 = .ok (.iload 6, 2) := by decide +kernel
theorem dX5_nearParts_48 : decode cX5_nearParts 48 = .ok (.invokestatic 205, 3) := by decide +kernel
theorem dX5_nearParts_51 : decode cX5_nearParts 51 = .ok (.bipush 10, 2) := by decide +kernel
theorem dX5_nearParts_53 : decode cX5_nearParts 53 = .ok (.iload_n 2, 1) := by decide +kernel
theorem dX5_nearParts_54 : decode cX5_nearParts 54 = .ok (.isub, 1) := by decide +kernel
theorem dX5_nearParts_55 : decode cX5_nearParts 55 = .ok (.iload_n 1, 1) := by decide +kernel
theorem dX5_nearParts_56 : decode cX5_nearParts 56 = .ok (.iload 6, 2) := by decide +kernel
theorem dX5_nearParts_58 : decode cX5_nearParts 58 = .ok (.isub, 1) := by decide +kernel
theorem dX5_nearParts_59 : decode cX5_nearParts 59 = .ok (.invokestatic 205, 3) := by decide +kernel
theorem dX5_nearParts_62 : decode cX5_nearParts 62 = .ok (.imul, 1) := by decide +kernel
theorem dX5_nearParts_63 : decode cX5_nearParts 63 = .ok (.iadd, 1) := by decide +kernel
theorem dX5_nearParts_64 : decode cX5_nearParts 64 = .ok (.istore 4, 2) := by decide +kernel
theorem dX5_nearParts_66 : decode cX5_nearParts 66 = .ok (.iinc 5 1, 3) := by decide +kernel
theorem dX5_nearParts_69 : decode cX5_nearParts 69 = .ok (.goto (-63), 3) := by decide +kernel
theorem dX5_nearParts_72 : decode cX5_nearParts 72 = .ok (.iload 4, 2) := by decide +kernel
theorem dX5_nearParts_74 : decode cX5_nearParts 74 = .ok (.ireturn, 1) := by decide +kernel
theorem dX5_slip_0 : decode cX5_slip 0 = .ok (.aload_n 0, 1) := by decide +kernel
theorem dX5_slip_1 : decode cX5_slip 1 = .ok (.getfield 12, 3) := by decide +kernel
theorem dX5_slip_4 : decode cX5_slip 4 = .ok (.getfield 97, 3) := by decide +kernel
theorem dX5_slip_7 : decode cX5_slip 7 = .ok (.iload_n 2, 1) := by decide +kernel
theorem dX5_slip_8 : decode cX5_slip 8 = .ok (.isub, 1) := by decide +kernel
theorem dX5_slip_9 : decode cX5_slip 9 = .ok (.istore_n 3, 1) := by decide +kernel
theorem dX5_slip_10 : decode cX5_slip 10 = .ok (.iload_n 3, 1) := by decide +kernel
theorem dX5_slip_11 : decode cX5_slip 11 = .ok (.ifCond .ge 4, 3) := by decide +kernel
theorem dX5_slip_14 : decode cX5_slip 14 = .ok (.return_, 1) := by decide +kernel
theorem dX5_slip_15 : decode cX5_slip 15 = .ok (.aload_n 0, 1) := by decide +kernel
theorem dX5_slip_16 : decode cX5_slip 16 = .ok (.getfield 51, 3) := by decide +kernel
theorem dX5_slip_19 : decode cX5_slip 19 = .ok (.aload_n 0, 1) := by decide +kernel
theorem dX5_slip_20 : decode cX5_slip 20 = .ok (.getfield 12, 3) := by decide +kernel
theorem dX5_slip_23 : decode cX5_slip 23 = .ok (.getfield 158, 3) := by decide +kernel
theorem dX5_slip_26 : decode cX5_slip 26 = .ok (.iload_n 3, 1) := by decide +kernel
theorem dX5_slip_27 : decode cX5_slip 27 = .ok (.aaload, 1) := by decide +kernel
theorem dX5_slip_28 : decode cX5_slip 28 = .ok (.invokevirtual 183, 3) := by decide +kernel
theorem dX5_slip_31 : decode cX5_slip 31 = .ok (.iload_n 3, 1) := by decide +kernel
theorem dX5_slip_32 : decode cX5_slip 32 = .ok (.iconst 1, 1) := by decide +kernel
theorem dX5_slip_33 : decode cX5_slip 33 = .ok (.iadd, 1) := by decide +kernel
theorem dX5_slip_34 : decode cX5_slip 34 = .ok (.istore 4, 2) := by decide +kernel
theorem dX5_slip_36 : decode cX5_slip 36 = .ok (.iload 4, 2) := by decide +kernel
theorem dX5_slip_38 : decode cX5_slip 38 = .ok (.aload_n 0, 1) := by decide +kernel
theorem dX5_slip_39 : decode cX5_slip 39 = .ok (.getfield 12, 3) := by decide +kernel
theorem dX5_slip_42 : decode cX5_slip 42 = .ok (.getfield 97, 3) := by decide +kernel
theorem dX5_slip_45 : decode cX5_slip 45 = .ok (.if_icmp .gt 54, 3) := by decide +kernel
theorem dX5_slip_48 : decode cX5_slip 48 = .ok (.iload_n 1, 1) := by decide +kernel
theorem dX5_slip_49 : decode cX5_slip 49 = .ok (.iload 4, 2) := by decide +kernel
theorem dX5_slip_51 : decode cX5_slip 51 = .ok (.iload_n 3, 1) := by decide +kernel
theorem dX5_slip_52 : decode cX5_slip 52 = .ok (.isub, 1) := by decide +kernel
theorem dX5_slip_53 : decode cX5_slip 53 = .ok (.iconst 1, 1) := by decide +kernel
theorem dX5_slip_54 : decode cX5_slip 54 = .ok (.isub, 1) := by decide +kernel
theorem dX5_slip_55 : decode cX5_slip 55 = .ok (.ishr, 1) := by decide +kernel
theorem dX5_slip_56 : decode cX5_slip 56 = .ok (.iconst 1, 1) := by decide +kernel
theorem dX5_slip_57 : decode cX5_slip 57 = .ok (.iand, 1) := by decide +kernel
theorem dX5_slip_58 : decode cX5_slip 58 = .ok (.istore 5, 2) := by decide +kernel
theorem dX5_slip_60 : decode cX5_slip 60 = .ok (.aload_n 0, 1) := by decide +kernel
theorem dX5_slip_61 : decode cX5_slip 61 = .ok (.getfield 51, 3) := by decide +kernel
theorem dX5_slip_64 : decode cX5_slip 64 = .ok (.aload_n 0, 1) := by decide +kernel
theorem dX5_slip_65 : decode cX5_slip 65 = .ok (.getfield 12, 3) := by decide +kernel
theorem dX5_slip_68 : decode cX5_slip 68 = .ok (.getfield 158, 3) := by decide +kernel
theorem dX5_slip_71 : decode cX5_slip 71 = .ok (.iload 4, 2) := by decide +kernel
theorem dX5_slip_73 : decode cX5_slip 73 = .ok (.aaload, 1) := by decide +kernel
theorem dX5_slip_74 : decode cX5_slip 74 = .ok (.getfield 162, 3) := by decide +kernel
theorem dX5_slip_77 : decode cX5_slip 77 = .ok (.iload 5, 2) := by decide +kernel
theorem dX5_slip_79 : decode cX5_slip 79 = .ok (.iadd, 1) := by decide +kernel
theorem dX5_slip_80 : decode cX5_slip 80 = .ok (.bipush 8, 2) := by decide +kernel
theorem dX5_slip_82 : decode cX5_slip 82 = .ok (.irem, 1) := by decide +kernel
theorem dX5_slip_83 : decode cX5_slip 83 = .ok (.aload_n 0, 1) := by decide +kernel
theorem dX5_slip_84 : decode cX5_slip 84 = .ok (.getfield 12, 3) := by decide +kernel
theorem dX5_slip_87 : decode cX5_slip 87 = .ok (.getfield 186, 3) := by decide +kernel
theorem dX5_slip_90 : decode cX5_slip 90 = .ok (.invokevirtual 189, 3) := by decide +kernel
theorem dX5_slip_93 : decode cX5_slip 93 = .ok (.iinc 4 1, 3) := by decide +kernel
theorem dX5_slip_96 : decode cX5_slip 96 = .ok (.goto (-60), 3) := by decide +kernel
theorem dX5_slip_99 : decode cX5_slip 99 = .ok (.return_, 1) := by decide +kernel
theorem dX5_power_0 : decode cX5_power 0 = .ok (.iconst 1, 1) := by decide +kernel
theorem dX5_power_1 : decode cX5_power 1 = .ok (.istore_n 2, 1) := by decide +kernel
theorem dX5_power_2 : decode cX5_power 2 = .ok (.iconst 0, 1) := by decide +kernel
theorem dX5_power_3 : decode cX5_power 3 = .ok (.istore_n 3, 1) := by decide +kernel
theorem dX5_power_4 : decode cX5_power 4 = .ok (.iload_n 3, 1) := by decide +kernel
theorem dX5_power_5 : decode cX5_power 5 = .ok (.iload_n 1, 1) := by decide +kernel
theorem dX5_power_6 : decode cX5_power 6 = .ok (.if_icmp .ge 13, 3) := by decide +kernel
theorem dX5_power_9 : decode cX5_power 9 = .ok (.iload_n 2, 1) := by decide +kernel
theorem dX5_power_10 : decode cX5_power 10 = .ok (.iload_n 0, 1) := by decide +kernel
theorem dX5_power_11 : decode cX5_power 11 = .ok (.imul, 1) := by decide +kernel
theorem dX5_power_12 : decode cX5_power 12 = .ok (.istore_n 2, 1) := by decide +kernel
theorem dX5_power_13 : decode cX5_power 13 = .ok (.iinc 3 1, 3) := by decide +kernel
theorem dX5_power_16 : decode cX5_power 16 = .ok (.goto (-12), 3) := by decide +kernel
theorem dX5_power_19 : decode cX5_power 19 = .ok (.iload_n 2, 1) := by decide +kernel
theorem dX5_power_20 : decode cX5_power 20 = .ok (.ireturn, 1) := by decide +kernel
theorem dX5_commonDivisor_0 : decode cX5_commonDivisor 0 = .ok (.iload_n 0, 1) := by decide +kernel
theorem dX5_commonDivisor_1 : decode cX5_commonDivisor 1 = .ok (.istore_n 2, 1) := by decide +kernel
theorem dX5_commonDivisor_2 : decode cX5_commonDivisor 2 = .ok (.iload_n 1, 1) := by decide +kernel
theorem dX5_commonDivisor_3 : decode cX5_commonDivisor 3 = .ok (.istore_n 3, 1) := by decide +kernel
theorem dX5_commonDivisor_4 : decode cX5_commonDivisor 4 = .ok (.iconst 0, 1) := by decide +kernel
theorem dX5_commonDivisor_5 : decode cX5_commonDivisor 5 = .ok (.istore 4, 2) := by decide +kernel
theorem dX5_commonDivisor_7 : decode cX5_commonDivisor 7 = .ok (.iload 4, 2) := by decide +kernel
theorem dX5_commonDivisor_9 : decode cX5_commonDivisor 9 = .ok (.bipush 64, 2) := by decide +kernel
theorem dX5_commonDivisor_11 : decode cX5_commonDivisor 11 = .ok (.if_icmp .ge 23, 3) := by decide +kernel
theorem dX5_commonDivisor_14 : decode cX5_commonDivisor 14 = .ok (.iload_n 3, 1) := by decide +kernel
theorem dX5_commonDivisor_15 : decode cX5_commonDivisor 15 = .ok (.ifCond .eq 19, 3) := by decide +kernel
theorem dX5_commonDivisor_18 : decode cX5_commonDivisor 18 = .ok (.iload_n 2, 1) := by decide +kernel
theorem dX5_commonDivisor_19 : decode cX5_commonDivisor 19 = .ok (.iload_n 3, 1) := by decide +kernel
theorem dX5_commonDivisor_20 : decode cX5_commonDivisor 20 = .ok (.irem, 1) := by decide +kernel
theorem dX5_commonDivisor_21 : decode cX5_commonDivisor 21 = .ok (.istore 5, 2) := by decide +kernel
theorem dX5_commonDivisor_23 : decode cX5_commonDivisor 23 = .ok (.iload_n 3, 1) := by decide +kernel
theorem dX5_commonDivisor_24 : decode cX5_commonDivisor 24 = .ok (.istore_n 2, 1) := by decide +kernel
theorem dX5_commonDivisor_25 : decode cX5_commonDivisor 25 = .ok (.iload 5, 2) := by decide +kernel
theorem dX5_commonDivisor_27 : decode cX5_commonDivisor 27 = .ok (.istore_n 3, 1) := by decide +kernel
theorem dX5_commonDivisor_28 : decode cX5_commonDivisor 28 = .ok (.iinc 4 1, 3) := by decide +kernel
theorem dX5_commonDivisor_31 : decode cX5_commonDivisor 31 = .ok (.goto (-24), 3) := by decide +kernel
theorem dX5_commonDivisor_34 : decode cX5_commonDivisor 34 = .ok (.iload_n 2, 1) := by decide +kernel
theorem dX5_commonDivisor_35 : decode cX5_commonDivisor 35 = .ok (.ireturn, 1) := by decide +kernel
theorem dX5_isWithin_0 : decode cX5_isWithin 0 = .ok (.iload_n 0, 1) := by decide +kernel
theorem dX5_isWithin_1 : decode cX5_isWithin 1 = .ok (.iload_n 1, 1) := by decide +kernel
theorem dX5_isWithin_2 : decode cX5_isWithin 2 = .ok (.if_icmp .lt 12, 3) := by decide +kernel
theorem dX5_isWithin_5 : decode cX5_isWithin 5 = .ok (.iload_n 0, 1) := by decide +kernel
theorem dX5_isWithin_6 : decode cX5_isWithin 6 = .ok (.iload_n 2, 1) := by decide +kernel
theorem dX5_isWithin_7 : decode cX5_isWithin 7 = .ok (.if_icmp .gt 7, 3) := by decide +kernel
theorem dX5_isWithin_10 : decode cX5_isWithin 10 = .ok (.iconst 1, 1) := by decide +kernel
theorem dX5_isWithin_11 : decode cX5_isWithin 11 = .ok (.goto 4, 3) := by decide +kernel
theorem dX5_isWithin_14 : decode cX5_isWithin 14 = .ok (.iconst 0, 1) := by decide +kernel
theorem dX5_isWithin_15 : decode cX5_isWithin 15 = .ok (.ireturn, 1) := by decide +kernel
theorem dX5_isKey_0 : decode cX5_isKey 0 = .ok (.iload_n 0, 1) := by decide +kernel
theorem dX5_isKey_1 : decode cX5_isKey 1 = .ok (.iconst 0, 1) := by decide +kernel
theorem dX5_isKey_2 : decode cX5_isKey 2 = .ok (.bipush 7, 2) := by decide +kernel
theorem dX5_isKey_4 : decode cX5_isKey 4 = .ok (.invokestatic 66, 3) := by decide +kernel
theorem dX5_isKey_7 : decode cX5_isKey 7 = .ok (.ireturn, 1) := by decide +kernel
theorem dX5_isWish_0 : decode cX5_isWish 0 = .ok (.iload_n 0, 1) := by decide +kernel
theorem dX5_isWish_1 : decode cX5_isWish 1 = .ok (.bipush (-99), 2) := by decide +kernel
theorem dX5_isWish_3 : decode cX5_isWish 3 = .ok (.bipush 99, 2) := by decide +kernel
theorem dX5_isWish_5 : decode cX5_isWish 5 = .ok (.invokestatic 66, 3) := by decide +kernel
theorem dX5_isWish_8 : decode cX5_isWish 8 = .ok (.ireturn, 1) := by decide +kernel
theorem dX5_isRule_0 : decode cX5_isRule 0 = .ok (.iload_n 0, 1) := by decide +kernel
theorem dX5_isRule_1 : decode cX5_isRule 1 = .ok (.tableswitch 49 0 2 #[27, 34, 41], 27) := by decide +kernel
theorem dX5_isRule_28 : decode cX5_isRule 28 = .ok (.iload_n 1, 1) := by decide +kernel
theorem dX5_isRule_29 : decode cX5_isRule 29 = .ok (.iconst 0, 1) := by decide +kernel
theorem dX5_isRule_30 : decode cX5_isRule 30 = .ok (.iconst 3, 1) := by decide +kernel
theorem dX5_isRule_31 : decode cX5_isRule 31 = .ok (.invokestatic 66, 3) := by decide +kernel
theorem dX5_isRule_34 : decode cX5_isRule 34 = .ok (.ireturn, 1) := by decide +kernel
theorem dX5_isRule_35 : decode cX5_isRule 35 = .ok (.iload_n 1, 1) := by decide +kernel
theorem dX5_isRule_36 : decode cX5_isRule 36 = .ok (.iconst 0, 1) := by decide +kernel
theorem dX5_isRule_37 : decode cX5_isRule 37 = .ok (.iconst 2, 1) := by decide +kernel
theorem dX5_isRule_38 : decode cX5_isRule 38 = .ok (.invokestatic 66, 3) := by decide +kernel
theorem dX5_isRule_41 : decode cX5_isRule 41 = .ok (.ireturn, 1) := by decide +kernel
theorem dX5_isRule_42 : decode cX5_isRule 42 = .ok (.iload_n 1, 1) := by decide +kernel
theorem dX5_isRule_43 : decode cX5_isRule 43 = .ok (.iconst 0, 1) := by decide +kernel
theorem dX5_isRule_44 : decode cX5_isRule 44 = .ok (.bipush 20, 2) := by decide +kernel
theorem dX5_isRule_46 : decode cX5_isRule 46 = .ok (.invokestatic 66, 3) := by decide +kernel
theorem dX5_isRule_49 : decode cX5_isRule 49 = .ok (.ireturn, 1) := by decide +kernel
theorem dX5_isRule_50 : decode cX5_isRule 50 = .ok (.iconst 0, 1) := by decide +kernel
theorem dX5_isRule_51 : decode cX5_isRule 51 = .ok (.ireturn, 1) := by decide +kernel
theorem dX5_leanX_0 : decode cX5_leanX 0 = .ok (.iload_n 0, 1) := by decide +kernel
theorem dX5_leanX_1 : decode cX5_leanX 1 = .ok (.ifCond .lt 17, 3) := by decide +kernel
theorem dX5_leanX_4 : decode cX5_leanX 4 = .ok (.iload_n 0, 1) := by decide +kernel
theorem dX5_leanX_5 : decode cX5_leanX 5 = .ok (.bipush 8, 2) := by decide +kernel
theorem dX5_leanX_7 : decode cX5_leanX 7 = .ok (.if_icmp .ge 11, 3) := by decide +kernel
theorem dX5_leanX_10 : decode cX5_leanX 10 = .ok (.getstatic 247, 3) := by decide +kernel
theorem dX5_leanX_13 : decode cX5_leanX 13 = .ok (.iload_n 0, 1) := by decide +kernel
theorem dX5_leanX_14 : decode cX5_leanX 14 = .ok (.iaload, 1) := by decide +kernel
theorem dX5_leanX_15 : decode cX5_leanX 15 = .ok (.goto 4, 3) := by decide +kernel
theorem dX5_leanX_18 : decode cX5_leanX 18 = .ok (.iconst 0, 1) := by decide +kernel
theorem dX5_leanX_19 : decode cX5_leanX 19 = .ok (.ireturn, 1) := by decide +kernel
theorem dX5_leanY_0 : decode cX5_leanY 0 = .ok (.iload_n 0, 1) := by decide +kernel
theorem dX5_leanY_1 : decode cX5_leanY 1 = .ok (.ifCond .lt 17, 3) := by decide +kernel
theorem dX5_leanY_4 : decode cX5_leanY 4 = .ok (.iload_n 0, 1) := by decide +kernel
theorem dX5_leanY_5 : decode cX5_leanY 5 = .ok (.bipush 8, 2) := by decide +kernel
theorem dX5_leanY_7 : decode cX5_leanY 7 = .ok (.if_icmp .ge 11, 3) := by decide +kernel
theorem dX5_leanY_10 : decode cX5_leanY 10 = .ok (.getstatic 250, 3) := by decide +kernel
theorem dX5_leanY_13 : decode cX5_leanY 13 = .ok (.iload_n 0, 1) := by decide +kernel
theorem dX5_leanY_14 : decode cX5_leanY 14 = .ok (.iaload, 1) := by decide +kernel
theorem dX5_leanY_15 : decode cX5_leanY 15 = .ok (.goto 4, 3) := by decide +kernel
theorem dX5_leanY_18 : decode cX5_leanY 18 = .ok (.iconst 0, 1) := by decide +kernel
theorem dX5_leanY_19 : decode cX5_leanY 19 = .ok (.ireturn, 1) := by decide +kernel
theorem dJ6_bitCount_0f7a4_0 : decode cJ6_bitCount_0f7a4 0 = .ok (.iload_n 0, 1) := by decide +kernel
theorem dJ6_bitCount_0f7a4_1 : decode cJ6_bitCount_0f7a4 1 = .ok (.iload_n 0, 1) := by decide +kernel
theorem dJ6_bitCount_0f7a4_2 : decode cJ6_bitCount_0f7a4 2 = .ok (.iconst 1, 1) := by decide +kernel
theorem dJ6_bitCount_0f7a4_3 : decode cJ6_bitCount_0f7a4 3 = .ok (.iushr, 1) := by decide +kernel
theorem dJ6_bitCount_0f7a4_4 : decode cJ6_bitCount_0f7a4 4 = .ok (.ldc_w 265, 3) := by decide +kernel
theorem dJ6_bitCount_0f7a4_7 : decode cJ6_bitCount_0f7a4 7 = .ok (.iand, 1) := by decide +kernel
theorem dJ6_bitCount_0f7a4_8 : decode cJ6_bitCount_0f7a4 8 = .ok (.isub, 1) := by decide +kernel
theorem dJ6_bitCount_0f7a4_9 : decode cJ6_bitCount_0f7a4 9 = .ok (.istore_n 0, 1) := by decide +kernel
theorem dJ6_bitCount_0f7a4_10 : decode cJ6_bitCount_0f7a4 10 = .ok (.iload_n 0, 1) := by decide +kernel
theorem dJ6_bitCount_0f7a4_11 : decode cJ6_bitCount_0f7a4 11 = .ok (.ldc_w 266, 3) := by decide +kernel
theorem dJ6_bitCount_0f7a4_14 : decode cJ6_bitCount_0f7a4 14 = .ok (.iand, 1) := by decide +kernel
theorem dJ6_bitCount_0f7a4_15 : decode cJ6_bitCount_0f7a4 15 = .ok (.iload_n 0, 1) := by decide +kernel
theorem dJ6_bitCount_0f7a4_16 : decode cJ6_bitCount_0f7a4 16 = .ok (.iconst 2, 1) := by decide +kernel
theorem dJ6_bitCount_0f7a4_17 : decode cJ6_bitCount_0f7a4 17 = .ok (.iushr, 1) := by decide +kernel
theorem dJ6_bitCount_0f7a4_18 : decode cJ6_bitCount_0f7a4 18 = .ok (.ldc_w 266, 3) := by decide +kernel
theorem dJ6_bitCount_0f7a4_21 : decode cJ6_bitCount_0f7a4 21 = .ok (.iand, 1) := by decide +kernel
theorem dJ6_bitCount_0f7a4_22 : decode cJ6_bitCount_0f7a4 22 = .ok (.iadd, 1) := by decide +kernel
theorem dJ6_bitCount_0f7a4_23 : decode cJ6_bitCount_0f7a4 23 = .ok (.istore_n 0, 1) := by decide +kernel
theorem dJ6_bitCount_0f7a4_24 : decode cJ6_bitCount_0f7a4 24 = .ok (.iload_n 0, 1) := by decide +kernel
theorem dJ6_bitCount_0f7a4_25 : decode cJ6_bitCount_0f7a4 25 = .ok (.iload_n 0, 1) := by decide +kernel
theorem dJ6_bitCount_0f7a4_26 : decode cJ6_bitCount_0f7a4 26 = .ok (.iconst 4, 1) := by decide +kernel
theorem dJ6_bitCount_0f7a4_27 : decode cJ6_bitCount_0f7a4 27 = .ok (.iushr, 1) := by decide +kernel
theorem dJ6_bitCount_0f7a4_28 : decode cJ6_bitCount_0f7a4 28 = .ok (.iadd, 1) := by decide +kernel
theorem dJ6_bitCount_0f7a4_29 : decode cJ6_bitCount_0f7a4 29 = .ok (.ldc_w 267, 3) := by decide +kernel
theorem dJ6_bitCount_0f7a4_32 : decode cJ6_bitCount_0f7a4 32 = .ok (.iand, 1) := by decide +kernel
theorem dJ6_bitCount_0f7a4_33 : decode cJ6_bitCount_0f7a4 33 = .ok (.istore_n 0, 1) := by decide +kernel
theorem dJ6_bitCount_0f7a4_34 : decode cJ6_bitCount_0f7a4 34 = .ok (.iload_n 0, 1) := by decide +kernel
theorem dJ6_bitCount_0f7a4_35 : decode cJ6_bitCount_0f7a4 35 = .ok (.iload_n 0, 1) := by decide +kernel
theorem dJ6_bitCount_0f7a4_36 : decode cJ6_bitCount_0f7a4 36 = .ok (.bipush 8, 2) := by decide +kernel
theorem dJ6_bitCount_0f7a4_38 : decode cJ6_bitCount_0f7a4 38 = .ok (.iushr, 1) := by decide +kernel
theorem dJ6_bitCount_0f7a4_39 : decode cJ6_bitCount_0f7a4 39 = .ok (.iadd, 1) := by decide +kernel
theorem dJ6_bitCount_0f7a4_40 : decode cJ6_bitCount_0f7a4 40 = .ok (.istore_n 0, 1) := by decide +kernel
theorem dJ6_bitCount_0f7a4_41 : decode cJ6_bitCount_0f7a4 41 = .ok (.iload_n 0, 1) := by decide +kernel
theorem dJ6_bitCount_0f7a4_42 : decode cJ6_bitCount_0f7a4 42 = .ok (.iload_n 0, 1) := by decide +kernel
theorem dJ6_bitCount_0f7a4_43 : decode cJ6_bitCount_0f7a4 43 = .ok (.bipush 16, 2) := by decide +kernel
theorem dJ6_bitCount_0f7a4_45 : decode cJ6_bitCount_0f7a4 45 = .ok (.iushr, 1) := by decide +kernel
theorem dJ6_bitCount_0f7a4_46 : decode cJ6_bitCount_0f7a4 46 = .ok (.iadd, 1) := by decide +kernel
theorem dJ6_bitCount_0f7a4_47 : decode cJ6_bitCount_0f7a4 47 = .ok (.istore_n 0, 1) := by decide +kernel
theorem dJ6_bitCount_0f7a4_48 : decode cJ6_bitCount_0f7a4 48 = .ok (.iload_n 0, 1) := by decide +kernel
theorem dJ6_bitCount_0f7a4_49 : decode cJ6_bitCount_0f7a4 49 = .ok (.bipush 63, 2) := by decide +kernel
theorem dJ6_bitCount_0f7a4_51 : decode cJ6_bitCount_0f7a4 51 = .ok (.iand, 1) := by decide +kernel
theorem dJ6_bitCount_0f7a4_52 : decode cJ6_bitCount_0f7a4 52 = .ok (.ireturn, 1) := by decide +kernel
theorem dJ9_floorMod_7cf53_0 : decode cJ9_floorMod_7cf53 0 = .ok (.iload_n 0, 1) := by decide +kernel
theorem dJ9_floorMod_7cf53_1 : decode cJ9_floorMod_7cf53 1 = .ok (.iload_n 1, 1) := by decide +kernel
theorem dJ9_floorMod_7cf53_2 : decode cJ9_floorMod_7cf53 2 = .ok (.irem, 1) := by decide +kernel
theorem dJ9_floorMod_7cf53_3 : decode cJ9_floorMod_7cf53 3 = .ok (.istore_n 2, 1) := by decide +kernel
theorem dJ9_floorMod_7cf53_4 : decode cJ9_floorMod_7cf53 4 = .ok (.iload_n 0, 1) := by decide +kernel
theorem dJ9_floorMod_7cf53_5 : decode cJ9_floorMod_7cf53 5 = .ok (.iload_n 1, 1) := by decide +kernel
theorem dJ9_floorMod_7cf53_6 : decode cJ9_floorMod_7cf53 6 = .ok (.ixor, 1) := by decide +kernel
theorem dJ9_floorMod_7cf53_7 : decode cJ9_floorMod_7cf53 7 = .ok (.ifCond .ge 11, 3) := by decide +kernel
theorem dJ9_floorMod_7cf53_10 : decode cJ9_floorMod_7cf53 10 = .ok (.iload_n 2, 1) := by decide +kernel
theorem dJ9_floorMod_7cf53_11 : decode cJ9_floorMod_7cf53 11 = .ok (.ifCond .eq 7, 3) := by decide +kernel
theorem dJ9_floorMod_7cf53_14 : decode cJ9_floorMod_7cf53 14 = .ok (.iload_n 2, 1) := by decide +kernel
theorem dJ9_floorMod_7cf53_15 : decode cJ9_floorMod_7cf53 15 = .ok (.iload_n 1, 1) := by decide +kernel
theorem dJ9_floorMod_7cf53_16 : decode cJ9_floorMod_7cf53 16 = .ok (.iadd, 1) := by decide +kernel
theorem dJ9_floorMod_7cf53_17 : decode cJ9_floorMod_7cf53 17 = .ok (.ireturn, 1) := by decide +kernel
theorem dJ9_floorMod_7cf53_18 : decode cJ9_floorMod_7cf53 18 = .ok (.iload_n 2, 1) := by decide +kernel
theorem dJ9_floorMod_7cf53_19 : decode cJ9_floorMod_7cf53 19 = .ok (.ireturn, 1) := by decide +kernel
theorem dJ9_abs_0f7a4_0 : decode cJ9_abs_0f7a4 0 = .ok (.iload_n 0, 1) := by decide +kernel
theorem dJ9_abs_0f7a4_1 : decode cJ9_abs_0f7a4 1 = .ok (.ifCond .ge 8, 3) := by decide +kernel
theorem dJ9_abs_0f7a4_4 : decode cJ9_abs_0f7a4 4 = .ok (.iload_n 0, 1) := by decide +kernel
theorem dJ9_abs_0f7a4_5 : decode cJ9_abs_0f7a4 5 = .ok (.ineg, 1) := by decide +kernel
theorem dJ9_abs_0f7a4_6 : decode cJ9_abs_0f7a4 6 = .ok (.goto 4, 3) := by decide +kernel
theorem dJ9_abs_0f7a4_9 : decode cJ9_abs_0f7a4 9 = .ok (.iload_n 0, 1) := by decide +kernel
theorem dJ9_abs_0f7a4_10 : decode cJ9_abs_0f7a4 10 = .ok (.ireturn, 1) := by decide +kernel
theorem dJ9_max_7cf53_0 : decode cJ9_max_7cf53 0 = .ok (.iload_n 0, 1) := by decide +kernel
theorem dJ9_max_7cf53_1 : decode cJ9_max_7cf53 1 = .ok (.iload_n 1, 1) := by decide +kernel
theorem dJ9_max_7cf53_2 : decode cJ9_max_7cf53 2 = .ok (.if_icmp .lt 7, 3) := by decide +kernel
theorem dJ9_max_7cf53_5 : decode cJ9_max_7cf53 5 = .ok (.iload_n 0, 1) := by decide +kernel
theorem dJ9_max_7cf53_6 : decode cJ9_max_7cf53 6 = .ok (.goto 4, 3) := by decide +kernel
theorem dJ9_max_7cf53_9 : decode cJ9_max_7cf53 9 = .ok (.iload_n 1, 1) := by decide +kernel
theorem dJ9_max_7cf53_10 : decode cJ9_max_7cf53 10 = .ok (.ireturn, 1) := by decide +kernel
theorem dJ9_min_7cf53_0 : decode cJ9_min_7cf53 0 = .ok (.iload_n 0, 1) := by decide +kernel
theorem dJ9_min_7cf53_1 : decode cJ9_min_7cf53 1 = .ok (.iload_n 1, 1) := by decide +kernel
theorem dJ9_min_7cf53_2 : decode cJ9_min_7cf53 2 = .ok (.if_icmp .gt 7, 3) := by decide +kernel
theorem dJ9_min_7cf53_5 : decode cJ9_min_7cf53 5 = .ok (.iload_n 0, 1) := by decide +kernel
theorem dJ9_min_7cf53_6 : decode cJ9_min_7cf53 6 = .ok (.goto 4, 3) := by decide +kernel
theorem dJ9_min_7cf53_9 : decode cJ9_min_7cf53 9 = .ok (.iload_n 1, 1) := by decide +kernel
theorem dJ9_min_7cf53_10 : decode cJ9_min_7cf53 10 = .ok (.ireturn, 1) := by decide +kernel
