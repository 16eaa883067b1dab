theorem dX0_emptiest_0 : decode cX0_emptiest 0 = .ok (.iload_n 1, 1) := by decide +kernel
theorem dX0_emptiest_1 : decode cX0_emptiest 1 = .ok (.ifCond .ne 7, 3) := by decide +kernel
theorem dX0_emptiest_4 : decode cX0_emptiest 4 = .ok (.iconst 1, 1) := by decide +kernel
theorem dX0_emptiest_5 : decode cX0_emptiest 5 = .ok (.goto 4, 3) := by decide +kernel
theorem dX0_emptiest_8 : decode cX0_emptiest 8 = .ok (.iconst 0, 1) := by decide +kernel
theorem dX0_emptiest_9 : decode cX0_emptiest 9 = .ok (.istore_n 3, 1) := by decide +kernel
theorem dX0_emptiest_10 : decode cX0_emptiest 10 = .ok (.iconst 0, 1) := by decide +kernel
theorem dX0_emptiest_11 : decode cX0_emptiest 11 = .ok (.istore 4, 2) := by decide +kernel
theorem dX0_emptiest_13 : decode cX0_emptiest 13 = .ok (.iload 4, 2) := by decide +kernel
theorem dX0_emptiest_15 : decode cX0_emptiest 15 = .ok (.iload_n 2, 1) := by decide +kernel
theorem dX0_emptiest_16 : decode cX0_emptiest 16 = .ok (.if_icmp .ge 41, 3) := by decide +kernel
theorem dX0_emptiest_19 : decode cX0_emptiest 19 = .ok (.iload 4, 2) := by decide +kernel
theorem dX0_emptiest_21 : decode cX0_emptiest 21 = .ok (.bipush 8, 2) := by decide +kernel
theorem dX0_emptiest_23 : decode cX0_emptiest 23 = .ok (.if_icmp .ge 34, 3) := by decide +kernel
theorem dX0_emptiest_26 : decode cX0_emptiest 26 = .ok (.iload 4, 2) := by decide +kernel
theorem dX0_emptiest_28 : decode cX0_emptiest 28 = .ok (.iload_n 1, 1) := by decide +kernel
theorem dX0_emptiest_29 : decode cX0_emptiest 29 = .ok (.if_icmp .eq 22, 3) := by decide +kernel
theorem dX0_emptiest_32 : decode cX0_emptiest 32 = .ok (.aload_n 0, 1) := by decide +kernel
theorem dX0_emptiest_33 : decode cX0_emptiest 33 = .ok (.getfield 15, 3) := by decide +kernel
theorem dX0_emptiest_36 : decode cX0_emptiest 36 = .ok (.iload 4, 2) := by decide +kernel
theorem dX0_emptiest_38 : decode cX0_emptiest 38 = .ok (.iaload, 1) := by decide +kernel
theorem dX0_emptiest_39 : decode cX0_emptiest 39 = .ok (.aload_n 0, 1) := by decide +kernel
theorem dX0_emptiest_40 : decode cX0_emptiest 40 = .ok (.getfield 15, 3) := by decide +kernel
theorem dX0_emptiest_43 : decode cX0_emptiest 43 = .ok (.iload_n 3, 1) := by decide +kernel
theorem dX0_emptiest_44 : decode cX0_emptiest 44 = .ok (.iaload, 1) := by decide +kernel
theorem dX0_emptiest_45 : decode cX0_emptiest 45 = .ok (.if_icmp .ge 6, 3) := by decide +kernel
theorem dX0_emptiest_48 : decode cX0_emptiest 48 = .ok (.iload 4, 2) := by decide +kernel
theorem dX0_emptiest_50 : decode cX0_emptiest 50 = .ok (.istore_n 3, 1) := by decide +kernel
theorem dX0_emptiest_51 : decode cX0_emptiest 51 = .ok (.iinc 4 1, 3) := by decide +kernel
theorem dX0_emptiest_54 : decode cX0_emptiest 54 = .ok (.goto (-41), 3) := by decide +kernel
theorem dX0_emptiest_57 : decode cX0_emptiest 57 = .ok (.iload_n 3, 1) := by decide +kernel
theorem dX0_emptiest_58 : decode cX0_emptiest 58 = .ok (.ireturn, 1) := by decide +kernel
theorem dX0_init_0 : decode cX0_init 0 = .ok (.aload_n 0, 1) := by decide +kernel
theorem dX0_init_1 : decode cX0_init 1 = .ok (.invokespecial 3, 3) := by decide +kernel
theorem dX0_init_4 : decode cX0_init 4 = .ok (.aload_n 0, 1) := by decide +kernel
theorem dX0_init_5 : decode cX0_init 5 = .ok (.bipush 8, 2) := by decide +kernel
theorem dX0_init_7 : decode cX0_init 7 = .ok (.newarray .int, 2) := by decide +kernel
theorem dX0_init_9 : decode cX0_init 9 = .ok (.putfield 9, 3) := by decide +kernel
theorem dX0_init_12 : decode cX0_init 12 = .ok (.aload_n 0, 1) := by decide +kernel
theorem dX0_init_13 : decode cX0_init 13 = .ok (.bipush 8, 2) := by decide +kernel
theorem dX0_init_15 : decode cX0_init 15 = .ok (.newarray .int, 2) := by decide +kernel
theorem dX0_init_17 : decode cX0_init 17 = .ok (.putfield 15, 3) := by decide +kernel
theorem dX0_init_20 : decode cX0_init 20 = .ok (.return_, 1) := by decide +kernel
theorem dX0_settle_0 : decode cX0_settle 0 = .ok (.aload_n 0, 1) := by decide +kernel
theorem dX0_settle_1 : decode cX0_settle 1 = .ok (.getfield 15, 3) := by decide +kernel
theorem dX0_settle_4 : decode cX0_settle 4 = .ok (.iconst 0, 1) := by decide +kernel
theorem dX0_settle_5 : decode cX0_settle 5 = .ok (.invokestatic 18, 3) := by decide +kernel
theorem dX0_settle_8 : decode cX0_settle 8 = .ok (.iconst 0, 1) := by decide +kernel
theorem dX0_settle_9 : decode cX0_settle 9 = .ok (.istore_n 2, 1) := by decide +kernel
theorem dX0_settle_10 : decode cX0_settle 10 = .ok (.iload_n 2, 1) := by decide +kernel
theorem dX0_settle_11 : decode cX0_settle 11 = .ok (.iload_n 1, 1) := by decide +kernel
theorem dX0_settle_12 : decode cX0_settle 12 = .ok (.if_icmp .ge 64, 3) := by decide +kernel
theorem dX0_settle_15 : decode cX0_settle 15 = .ok (.iload_n 2, 1) := by decide +kernel
theorem dX0_settle_16 : decode cX0_settle 16 = .ok (.bipush 8, 2) := by decide +kernel
theorem dX0_settle_18 : decode cX0_settle 18 = .ok (.if_icmp .ge 58, 3) := by decide +kernel
theorem dX0_settle_21 : decode cX0_settle 21 = .ok (.aload_n 0, 1) := by decide +kernel
theorem dX0_settle_22 : decode cX0_settle 22 = .ok (.getfield 9, 3) := by decide +kernel
theorem dX0_settle_25 : decode cX0_settle 25 = .ok (.iload_n 2, 1) := by decide +kernel
theorem dX0_settle_26 : decode cX0_settle 26 = .ok (.iload_n 2, 1) := by decide +kernel
theorem dX0_settle_27 : decode cX0_settle 27 = .ok (.iconst 1, 1) := by decide +kernel
theorem dX0_settle_28 : decode cX0_settle 28 = .ok (.iadd, 1) := by decide +kernel
theorem dX0_settle_29 : decode cX0_settle 29 = .ok (.iload_n 1, 1) := by decide +kernel
theorem dX0_settle_30 : decode cX0_settle 30 = .ok (.if_icmp .ge 17, 3) := by decide +kernel
theorem dX0_settle_33 : decode cX0_settle 33 = .ok (.iload_n 2, 1) := by decide +kernel
theorem dX0_settle_34 : decode cX0_settle 34 = .ok (.iconst 1, 1) := by decide +kernel
theorem dX0_settle_35 : decode cX0_settle 35 = .ok (.iadd, 1) := by decide +kernel
theorem dX0_settle_36 : decode cX0_settle 36 = .ok (.bipush 8, 2) := by decide +kernel
theorem dX0_settle_38 : decode cX0_settle 38 = .ok (.if_icmp .ge 9, 3) := by decide +kernel
theorem dX0_settle_41 : decode cX0_settle 41 = .ok (.iload_n 2, 1) := by decide +kernel
theorem dX0_settle_42 : decode cX0_settle 42 = .ok (.iconst 1, 1) := by decide +kernel
theorem dX0_settle_43 : decode cX0_settle 43 = .ok (.iadd, 1) := by decide +kernel
theorem dX0_settle_44 : decode cX0_settle 44 = .ok (.goto 10, 3) := by decide +kernel
theorem dX0_settle_47 : decode cX0_settle 47 = .ok (.iconst 0, 1) := by decide +kernel
theorem dX0_settle_48 : decode cX0_settle 48 = .ok (.iload_n 2, 1) := by decide +kernel
theorem dX0_settle_49 : decode cX0_settle 49 = .ok (.iconst 1, 1) := by decide +kernel
theorem dX0_settle_50 : decode cX0_settle 50 = .ok (.isub, 1) := by decide +kernel
theorem dX0_settle_51 : decode cX0_settle 51 = .ok (.invokestatic 24, 3) := by decide +kernel
theorem dX0_settle_54 : decode cX0_settle 54 = .ok (.iastore, 1) := by decide +kernel
theorem dX0_settle_55 : decode cX0_settle 55 = .ok (.aload_n 0, 1) := by decide +kernel
theorem dX0_settle_56 : decode cX0_settle 56 = .ok (.getfield 15, 3) := by decide +kernel
theorem dX0_settle_59 : decode cX0_settle 59 = .ok (.aload_n 0, 1) := by decide +kernel
theorem dX0_settle_60 : decode cX0_settle 60 = .ok (.getfield 9, 3) := by decide +kernel
theorem dX0_settle_63 : decode cX0_settle 63 = .ok (.iload_n 2, 1) := by decide +kernel
theorem dX0_settle_64 : decode cX0_settle 64 = .ok (.iaload, 1) := by decide +kernel
theorem dX0_settle_65 : decode cX0_settle 65 = .ok (.dup2, 1) := by decide +kernel
theorem dX0_settle_66 : decode cX0_settle 66 = .ok (.iaload, 1) := by decide +kernel
theorem dX0_settle_67 : decode cX0_settle 67 = .ok (.iconst 1, 1) := by decide +kernel
theorem dX0_settle_68 : decode cX0_settle 68 = .ok (.iadd, 1) := by decide +kernel
theorem dX0_settle_69 : decode cX0_settle 69 = .ok (.iastore, 1) := by decide +kernel
theorem dX0_settle_70 : decode cX0_settle 70 = .ok (.iinc 2 1, 3) := by decide +kernel
theorem dX0_settle_73 : decode cX0_settle 73 = .ok (.goto (-63), 3) := by decide +kernel
theorem dX0_settle_76 : decode cX0_settle 76 = .ok (.iconst 1, 1) := by decide +kernel
theorem dX0_settle_77 : decode cX0_settle 77 = .ok (.istore_n 2, 1) := by decide +kernel
theorem dX0_settle_78 : decode cX0_settle 78 = .ok (.iload_n 2, 1) := by decide +kernel
theorem dX0_settle_79 : decode cX0_settle 79 = .ok (.bipush 50, 2) := by decide +kernel
theorem dX0_settle_81 : decode cX0_settle 81 = .ok (.if_icmp .gt 19, 3) := by decide +kernel
theorem dX0_settle_84 : decode cX0_settle 84 = .ok (.aload_n 0, 1) := by decide +kernel
theorem dX0_settle_85 : decode cX0_settle 85 = .ok (.iload_n 1, 1) := by decide +kernel
theorem dX0_settle_86 : decode cX0_settle 86 = .ok (.invokevirtual 30, 3) := by decide +kernel
theorem dX0_settle_89 : decode cX0_settle 89 = .ok (.ifCond .ne 5, 3) := by decide +kernel
theorem dX0_settle_92 : decode cX0_settle 92 = .ok (.iload_n 2, 1) := by decide +kernel
theorem dX0_settle_93 : decode cX0_settle 93 = .ok (.ireturn, 1) := by decide +kernel
theorem dX0_settle_94 : decode cX0_settle 94 = .ok (.iinc 2 1, 3) := by decide +kernel
theorem dX0_settle_97 : decode cX0_settle 97 = .ok (.goto (-19), 3) := by decide +kernel
theorem dX0_settle_100 : decode cX0_settle 100 = .ok (.bipush (-6), 2) := by decide +kernel
theorem dX0_settle_102 : decode cX0_settle 102 = .ok (.ireturn, 1) := by decide +kernel
theorem dX0_somebodyGoes_0 : decode cX0_somebodyGoes 0 = .ok (.iconst 0, 1) := by decide +kernel
theorem dX0_somebodyGoes_1 : decode cX0_somebodyGoes 1 = .ok (.istore_n 2, 1) := by decide +kernel
theorem dX0_somebodyGoes_2 : decode cX0_somebodyGoes 2 = .ok (.iconst 0, 1) := by decide +kernel
theorem dX0_somebodyGoes_3 : decode cX0_somebodyGoes 3 = .ok (.istore_n 3, 1) := by decide +kernel
theorem dX0_somebodyGoes_4 : decode cX0_somebodyGoes 4 = .ok (.iload_n 3, 1) := by decide +kernel
theorem dX0_somebodyGoes_5 : decode cX0_somebodyGoes 5 = .ok (.iload_n 1, 1) := by decide +kernel
theorem dX0_somebodyGoes_6 : decode cX0_somebodyGoes 6 = .ok (.if_icmp .ge 112, 3) := by decide +kernel
theorem dX0_somebodyGoes_9 : decode cX0_somebodyGoes 9 = .ok (.iload_n 3, 1) := by decide +kernel
theorem dX0_somebodyGoes_10 : decode cX0_somebodyGoes 10 = .ok (.bipush 8, 2) := by decide +kernel
theorem dX0_somebodyGoes_12 : decode cX0_somebodyGoes 12 = .ok (.if_icmp .ge 106, 3) := by decide +kernel
theorem dX0_somebodyGoes_15 : decode cX0_somebodyGoes 15 = .ok (.aload_n 0, 1) := by decide +kernel
theorem dX0_somebodyGoes_16 : decode cX0_somebodyGoes 16 = .ok (.getfield 9, 3) := by decide +kernel
theorem dX0_somebodyGoes_19 : decode cX0_somebodyGoes 19 = .ok (.iload_n 3, 1) := by decide +kernel
theorem dX0_somebodyGoes_20 : decode cX0_somebodyGoes 20 = .ok (.iaload, 1) := by decide +kernel
theorem dX0_somebodyGoes_21 : decode cX0_somebodyGoes 21 = .ok (.istore 4, 2) := by decide +kernel
theorem dX0_somebodyGoes_23 : decode cX0_somebodyGoes 23 = .ok (.iload 4, 2) := by decide +kernel
theorem dX0_somebodyGoes_25 : decode cX0_somebodyGoes 25 = .ok (.iconst 0, 1) := by decide +kernel
theorem dX0_somebodyGoes_26 : decode cX0_somebodyGoes 26 = .ok (.bipush 7, 2) := by decide +kernel
theorem dX0_somebodyGoes_28 : decode cX0_somebodyGoes 28 = .ok (.invokestatic 34, 3) := by decide +kernel
theorem dX0_somebodyGoes_31 : decode cX0_somebodyGoes 31 = .ok (.ifCond .eq 5, 3) := by decide +kernel
theorem dX0_somebodyGoes_34 : decode cX0_somebodyGoes 34 = .ok (.iconst 0, 1) := by decide +kernel
theorem dX0_somebodyGoes_35 : decode cX0_somebodyGoes 35 = .ok (.ireturn, 1) := by decide +kernel
theorem dX0_somebodyGoes_36 : decode cX0_somebodyGoes 36 = .ok (.aload_n 0, 1) := by decide +kernel
theorem dX0_somebodyGoes_37 : decode cX0_somebodyGoes 37 = .ok (.getfield 15, 3) := by decide +kernel
theorem dX0_somebodyGoes_40 : decode cX0_somebodyGoes 40 = .ok (.iload 4, 2) := by decide +kernel
theorem dX0_somebodyGoes_42 : decode cX0_somebodyGoes 42 = .ok (.dup2, 1) := by decide +kernel
theorem dX0_somebodyGoes_43 : decode cX0_somebodyGoes 43 = .ok (.iaload, 1) := by decide +kernel
theorem dX0_somebodyGoes_44 : decode cX0_somebodyGoes 44 = .ok (.iconst 1, 1) := by decide +kernel
theorem dX0_somebodyGoes_45 : decode cX0_somebodyGoes 45 = .ok (.isub, 1) := by decide +kernel
theorem dX0_somebodyGoes_46 : decode cX0_somebodyGoes 46 = .ok (.iastore, 1) := by decide +kernel
theorem dX0_somebodyGoes_47 : decode cX0_somebodyGoes 47 = .ok (.aload_n 0, 1) := by decide +kernel
theorem dX0_somebodyGoes_48 : decode cX0_somebodyGoes 48 = .ok (.iload_n 3, 1) := by decide +kernel
theorem dX0_somebodyGoes_49 : decode cX0_somebodyGoes 49 = .ok (.iload_n 1, 1) := by decide +kernel
theorem dX0_somebodyGoes_50 : decode cX0_somebodyGoes 50 = .ok (.invokevirtual 38, 3) := by decide +kernel
theorem dX0_somebodyGoes_53 : decode cX0_somebodyGoes 53 = .ok (.istore 5, 2) := by decide +kernel
theorem dX0_somebodyGoes_55 : decode cX0_somebodyGoes 55 = .ok (.aload_n 0, 1) := by decide +kernel
theorem dX0_somebodyGoes_56 : decode cX0_somebodyGoes 56 = .ok (.getfield 15, 3) := by decide +kernel
theorem dX0_somebodyGoes_59 : decode cX0_somebodyGoes 59 = .ok (.iload 5, 2) := by decide +kernel
theorem dX0_somebodyGoes_61 : decode cX0_somebodyGoes 61 = .ok (.iaload, 1) := by decide +kernel
theorem dX0_somebodyGoes_62 : decode cX0_somebodyGoes 62 = .ok (.aload_n 0, 1) := by decide +kernel
theorem dX0_somebodyGoes_63 : decode cX0_somebodyGoes 63 = .ok (.getfield 15, 3) := by decide +kernel
theorem dX0_somebodyGoes_66 : decode cX0_somebodyGoes 66 = .ok (.iload 4, 2) := by decide +kernel
theorem dX0_somebodyGoes_68 : decode cX0_somebodyGoes 68 = .ok (.iaload, 1) := by decide +kernel
theorem dX0_somebodyGoes_69 : decode cX0_somebodyGoes 69 = .ok (.if_icmp .lt 7, 3) := by decide +kernel
theorem dX0_somebodyGoes_72 : decode cX0_somebodyGoes 72 = .ok (.iload 4, 2) := by decide +kernel
theorem dX0_somebodyGoes_74 : decode cX0_somebodyGoes 74 = .ok (.istore 5, 2) := by decide +kernel
theorem dX0_somebodyGoes_76 : decode cX0_somebodyGoes 76 = .ok (.aload_n 0, 1) := by decide +kernel
theorem dX0_somebodyGoes_77 : decode cX0_somebodyGoes 77 = .ok (.getfield 15, 3) := by decide +kernel
theorem dX0_somebodyGoes_80 : decode cX0_somebodyGoes 80 = .ok (.iload 5, 2) := by decide +kernel
theorem dX0_somebodyGoes_82 : decode cX0_somebodyGoes 82 = .ok (.dup2, 1) := by decide +kernel
theorem dX0_somebodyGoes_83 : decode cX0_somebodyGoes 83 = .ok (.iaload, 1) := by decide +kernel
theorem dX0_somebodyGoes_84 : decode cX0_somebodyGoes 84 = .ok (.iconst 1, 1) := by decide +kernel
theorem dX0_somebodyGoes_85 : decode cX0_somebodyGoes 85 = .ok (.iadd, 1) := by decide +kernel
theorem dX0_somebodyGoes_86 : decode cX0_somebodyGoes 86 = .ok (.iastore, 1) := by decide +kernel
theorem dX0_somebodyGoes_87 : decode cX0_somebodyGoes 87 = .ok (.aload_n 0, 1) := by decide +kernel
theorem dX0_somebodyGoes_88 : decode cX0_somebodyGoes 88 = .ok (.getfield 9, 3) := by decide +kernel
theorem dX0_somebodyGoes_91 : decode cX0_somebodyGoes 91 = .ok (.iload_n 3, 1) := by decide +kernel
theorem dX0_somebodyGoes_92 : decode cX0_somebodyGoes 92 = .ok (.iload 5, 2) := by decide +kernel
theorem dX0_somebodyGoes_94 : decode cX0_somebodyGoes 94 = .ok (.iastore, 1) := by decide +kernel
theorem dX0_somebodyGoes_95 : decode cX0_somebodyGoes 95 = .ok (.iload_n 2, 1) := by decide +kernel
theorem dX0_somebodyGoes_96 : decode cX0_somebodyGoes 96 = .ok (.ifCond .ne 10, 3) := by decide +kernel
theorem dX0_somebodyGoes_99 : decode cX0_somebodyGoes 99 = .ok (.iload 5, 2) := by decide +kernel
theorem dX0_somebodyGoes_101 : decode cX0_somebodyGoes 101 = .ok (.iload 4, 2) := by decide +kernel
theorem dX0_somebodyGoes_103 : decode cX0_somebodyGoes 103 = .ok (.if_icmp .eq 7, 3) := by decide +kernel
theorem dX0_somebodyGoes_106 : decode cX0_somebodyGoes 106 = .ok (.iconst 1, 1) := by decide +kernel
theorem dX0_somebodyGoes_107 : decode cX0_somebodyGoes 107 = .ok (.goto 4, 3) := by decide +kernel
theorem dX0_somebodyGoes_110 : decode cX0_somebodyGoes 110 = .ok (.iconst 0, 1) := by decide +kernel
theorem dX0_somebodyGoes_111 : decode cX0_somebodyGoes 111 = .ok (.istore_n 2, 1) := by decide +kernel
theorem dX0_somebodyGoes_112 : decode cX0_somebodyGoes 112 = .ok (.iinc 3 1, 3) := by decide +kernel
theorem dX0_somebodyGoes_115 : decode cX0_somebodyGoes 115 = .ok (.goto (-111), 3) := by decide +kernel
theorem dX0_somebodyGoes_118 : decode cX0_somebodyGoes 118 = .ok (.iload_n 2, 1) := by decide +kernel
theorem dX0_somebodyGoes_119 : decode cX0_somebodyGoes 119 = .ok (.ireturn, 1) := by decide +kernel
theorem dX1_find_0 : decode cX1_find 0 = .ok (.aload_n 1, 1) := by decide +kernel
theorem dX1_find_1 : decode cX1_find 1 = .ok (.ifnull 15, 3) := by decide +kernel
theorem dX1_find_4 : decode cX1_find 4 = .ok (.aload_n 2, 1) := by decide +kernel
theorem dX1_find_5 : decode cX1_find 5 = .ok (.ifnull 11, 3) := by decide +kernel
theorem dX1_find_8 : decode cX1_find 8 = .ok (.aload_n 2, 1) := by decide +kernel
theorem dX1_find_9 : decode cX1_find 9 = .ok (.getfield 22, 3) := by decide +kernel
theorem dX1_find_12 : decode cX1_find 12 = .ok (.iconst 4, 1) := by decide +kernel
theorem dX1_find_13 : decode cX1_find 13 = .ok (.if_icmp .le 4, 3) := by decide +kernel
theorem dX1_find_16 : decode cX1_find 16 = .ok (.return_, 1) := by decide +kernel
theorem dX1_find_17 : decode cX1_find 17 = .ok (.aload_n 0, 1) := by decide +kernel
theorem dX1_find_18 : decode cX1_find 18 = .ok (.aload_n 2, 1) := by decide +kernel
theorem dX1_find_19 : decode cX1_find 19 = .ok (.getfield 22, 3) := by decide +kernel
theorem dX1_find_22 : decode cX1_find 22 = .ok (.iconst 1, 1) := by decide +kernel
theorem dX1_find_23 : decode cX1_find 23 = .ok (.iadd, 1) := by decide +kernel
theorem dX1_find_24 : decode cX1_find 24 = .ok (.putfield 18, 3) := by decide +kernel
theorem dX1_find_27 : decode cX1_find 27 = .ok (.aload_n 0, 1) := by decide +kernel
theorem dX1_find_28 : decode cX1_find 28 = .ok (.aload_n 1, 1) := by decide +kernel
theorem dX1_find_29 : decode cX1_find 29 = .ok (.aload_n 2, 1) := by decide +kernel
theorem dX1_find_30 : decode cX1_find 30 = .ok (.iconst 0, 1) := by decide +kernel
theorem dX1_find_31 : decode cX1_find 31 = .ok (.iconst 0, 1) := by decide +kernel
theorem dX1_find_32 : decode cX1_find 32 = .ok (.invokestatic 27, 3) := by decide +kernel
theorem dX1_find_35 : decode cX1_find 35 = .ok (.return_, 1) := by decide +kernel
theorem dX1_init_0 : decode cX1_init 0 = .ok (.aload_n 0, 1) := by decide +kernel
theorem dX1_init_1 : decode cX1_init 1 = .ok (.invokespecial 3, 3) := by decide +kernel
theorem dX1_init_4 : decode cX1_init 4 = .ok (.aload_n 0, 1) := by decide +kernel
theorem dX1_init_5 : decode cX1_init 5 = .ok (.iconst 4, 1) := by decide +kernel
theorem dX1_init_6 : decode cX1_init 6 = .ok (.newarray .int, 2) := by decide +kernel
theorem dX1_init_8 : decode cX1_init 8 = .ok (.putfield 9, 3) := by decide +kernel
theorem dX1_init_11 : decode cX1_init 11 = .ok (.aload_n 0, 1) := by decide +kernel
theorem dX1_init_12 : decode cX1_init 12 = .ok (.iconst 4, 1) := by decide +kernel
theorem dX1_init_13 : decode cX1_init 13 = .ok (.newarray .int, 2) := by decide +kernel
theorem dX1_init_15 : decode cX1_init 15 = .ok (.putfield 15, 3) := by decide +kernel
theorem dX1_init_18 : decode cX1_init 18 = .ok (.aload_n 0, 1) := by decide +kernel
theorem dX1_init_19 : decode cX1_init 19 = .ok (.iconst 0, 1) := by decide +kernel
theorem dX1_init_20 : decode cX1_init 20 = .ok (.putfield 18, 3) := by decide +kernel
theorem dX1_init_23 : decode cX1_init 23 = .ok (.return_, 1) := by decide +kernel
theorem dX1_keep_0 : decode cX1_keep 0 = .ok (.aload_n 0, 1) := by decide +kernel
theorem dX1_keep_1 : decode cX1_keep 1 = .ok (.iload_n 1, 1) := by decide +kernel
theorem dX1_keep_2 : decode cX1_keep 2 = .ok (.putfield 18, 3) := by decide +kernel
theorem dX1_keep_5 : decode cX1_keep 5 = .ok (.aload_n 0, 1) := by decide +kernel
theorem dX1_keep_6 : decode cX1_keep 6 = .ok (.getfield 9, 3) := by decide +kernel
theorem dX1_keep_9 : decode cX1_keep 9 = .ok (.iconst 0, 1) := by decide +kernel
theorem dX1_keep_10 : decode cX1_keep 10 = .ok (.aload_n 0, 1) := by decide +kernel
theorem dX1_keep_11 : decode cX1_keep 11 = .ok (.getfield 15, 3) := by decide +kernel
theorem dX1_keep_14 : decode cX1_keep 14 = .ok (.iconst 0, 1) := by decide +kernel
theorem dX1_keep_15 : decode cX1_keep 15 = .ok (.iconst 4, 1) := by decide +kernel
theorem dX1_keep_16 : decode cX1_keep 16 = .ok (.invokestatic 56, 3) := by decide +kernel
theorem dX1_keep_19 : decode cX1_keep 19 = .ok (.return_, 1) := by decide +kernel
theorem dX1_placeFrom_0 : decode cX1_placeFrom 0 = .ok (.iload 4, 2) := by decide +kernel
theorem dX1_placeFrom_2 : decode cX1_placeFrom 2 = .ok (.aload_n 0, 1) := by decide +kernel
theorem dX1_placeFrom_3 : decode cX1_placeFrom 3 = .ok (.getfield 18, 3) := by decide +kernel
theorem dX1_placeFrom_6 : decode cX1_placeFrom 6 = .ok (.if_icmp .lt 4, 3) := by decide +kernel
theorem dX1_placeFrom_9 : decode cX1_placeFrom 9 = .ok (.return_, 1) := by decide +kernel
theorem dX1_placeFrom_10 : decode cX1_placeFrom 10 = .ok (.iload_n 3, 1) := by decide +kernel
theorem dX1_placeFrom_11 : decode cX1_placeFrom 11 = .ok (.ifCond .lt 16, 3) := by decide +kernel
theorem dX1_placeFrom_14 : decode cX1_placeFrom 14 = .ok (.iload_n 3, 1) := by decide +kernel
theorem dX1_placeFrom_15 : decode cX1_placeFrom 15 = .ok (.aload_n 2, 1) := by decide +kernel
theorem dX1_placeFrom_16 : decode cX1_placeFrom 16 = .ok (.getfield 22, 3) := by decide +kernel
theorem dX1_placeFrom_19 : decode cX1_placeFrom 19 = .ok (.if_icmp .ge 8, 3) := by decide +kernel
theorem dX1_placeFrom_22 : decode cX1_placeFrom 22 = .ok (.iload_n 3, 1) := by decide +kernel
theorem dX1_placeFrom_23 : decode cX1_placeFrom 23 = .ok (.iconst 4, 1) := by decide +kernel
theorem dX1_placeFrom_24 : decode cX1_placeFrom 24 = .ok (.if_icmp .lt 10, 3) := by decide +kernel
theorem dX1_placeFrom_27 : decode cX1_placeFrom 27 = .ok (.aload_n 0, 1) := by decide +kernel
theorem dX1_placeFrom_28 : decode cX1_placeFrom 28 = .ok (.iload 4, 2) := by decide +kernel
theorem dX1_placeFrom_30 : decode cX1_placeFrom 30 = .ok (.invokevirtual 31, 3) := by decide +kernel
theorem dX1_placeFrom_33 : decode cX1_placeFrom 33 = .ok (.return_, 1) := by decide +kernel
theorem dX1_placeFrom_34 : decode cX1_placeFrom 34 = .ok (.iconst 0, 1) := by decide +kernel
theorem dX1_placeFrom_35 : decode cX1_placeFrom 35 = .ok (.istore 5, 2) := by decide +kernel
theorem dX1_placeFrom_37 : decode cX1_placeFrom 37 = .ok (.iload 5, 2) := by decide +kernel
theorem dX1_placeFrom_39 : decode cX1_placeFrom 39 = .ok (.aload_n 1, 1) := by decide +kernel
theorem dX1_placeFrom_40 : decode cX1_placeFrom 40 = .ok (.getfield 35, 3) := by decide +kernel
theorem dX1_placeFrom_43 : decode cX1_placeFrom 43 = .ok (.if_icmp .ge 92, 3) := by decide +kernel
theorem dX1_placeFrom_46 : decode cX1_placeFrom 46 = .ok (.iload 5, 2) := by decide +kernel
theorem dX1_placeFrom_48 : decode cX1_placeFrom 48 = .ok (.bipush 8, 2) := by decide +kernel
theorem dX1_placeFrom_50 : decode cX1_placeFrom 50 = .ok (.if_icmp .ge 85, 3) := by decide +kernel
theorem dX1_placeFrom_53 : decode cX1_placeFrom 53 = .ok (.aload_n 1, 1) := by decide +kernel
theorem dX1_placeFrom_54 : decode cX1_placeFrom 54 = .ok (.getfield 40, 3) := by decide +kernel
theorem dX1_placeFrom_57 : decode cX1_placeFrom 57 = .ok (.iload 5, 2) := by decide +kernel
theorem dX1_placeFrom_59 : decode cX1_placeFrom 59 = .ok (.iaload, 1) := by decide +kernel
theorem dX1_placeFrom_60 : decode cX1_placeFrom 60 = .ok (.istore 6, 2) := by decide +kernel
theorem dX1_placeFrom_62 : decode cX1_placeFrom 62 = .ok (.aload_n 1, 1) := by decide +kernel
theorem dX1_placeFrom_63 : decode cX1_placeFrom 63 = .ok (.getfield 43, 3) := by decide +kernel
theorem dX1_placeFrom_66 : decode cX1_placeFrom 66 = .ok (.iload 5, 2) := by decide +kernel
theorem dX1_placeFrom_68 : decode cX1_placeFrom 68 = .ok (.iaload, 1) := by decide +kernel
theorem dX1_placeFrom_69 : decode cX1_placeFrom 69 = .ok (.istore 7, 2) := by decide +kernel
theorem dX1_placeFrom_71 : decode cX1_placeFrom 71 = .ok (.aload_n 1, 1) := by decide +kernel
theorem dX1_placeFrom_72 : decode cX1_placeFrom 72 = .ok (.aload_n 2, 1) := by decide +kernel
theorem dX1_placeFrom_73 : decode cX1_placeFrom 73 = .ok (.getfield 46, 3) := by decide +kernel
theorem dX1_placeFrom_76 : decode cX1_placeFrom 76 = .ok (.iload_n 3, 1) := by decide +kernel
theorem dX1_placeFrom_77 : decode cX1_placeFrom 77 = .ok (.iaload, 1) := by decide +kernel
theorem dX1_placeFrom_78 : decode cX1_placeFrom 78 = .ok (.iload 5, 2) := by decide +kernel
theorem dX1_placeFrom_80 : decode cX1_placeFrom 80 = .ok (.aload_n 2, 1) := by decide +kernel
theorem dX1_placeFrom_81 : decode cX1_placeFrom 81 = .ok (.getfield 49, 3) := by decide +kernel
theorem dX1_placeFrom_84 : decode cX1_placeFrom 84 = .ok (.iload_n 3, 1) := by decide +kernel
theorem dX1_placeFrom_85 : decode cX1_placeFrom 85 = .ok (.iaload, 1) := by decide +kernel
theorem dX1_placeFrom_86 : decode cX1_placeFrom 86 = .ok (.invokevirtual 52, 3) := by decide +kernel
theorem dX1_placeFrom_89 : decode cX1_placeFrom 89 = .ok (.ifCond .eq 22, 3) := by decide +kernel
theorem dX1_placeFrom_92 : decode cX1_placeFrom 92 = .ok (.aload_n 0, 1) := by decide +kernel
theorem dX1_placeFrom_93 : decode cX1_placeFrom 93 = .ok (.getfield 9, 3) := by decide +kernel
theorem dX1_placeFrom_96 : decode cX1_placeFrom 96 = .ok (.iload_n 3, 1) := by decide +kernel
theorem dX1_placeFrom_97 : decode cX1_placeFrom 97 = .ok (.iload 5, 2) := by decide +kernel
theorem dX1_placeFrom_99 : decode cX1_placeFrom 99 = .ok (.iastore, 1) := by decide +kernel
theorem dX1_placeFrom_100 : decode cX1_placeFrom 100 = .ok (.aload_n 0, 1) := by decide +kernel
theorem dX1_placeFrom_101 : decode cX1_placeFrom 101 = .ok (.aload_n 1, 1) := by decide +kernel
theorem dX1_placeFrom_102 : decode cX1_placeFrom 102 = .ok (.aload_n 2, 1) := by decide +kernel
theorem dX1_placeFrom_103 : decode cX1_placeFrom 103 = .ok (.iload_n 3, 1) := by decide +kernel
theorem dX1_placeFrom_104 : decode cX1_placeFrom 104 = .ok (.iconst 1, 1) := by decide +kernel
theorem dX1_placeFrom_105 : decode cX1_placeFrom 105 = .ok (.iadd, 1) := by decide +kernel
theorem dX1_placeFrom_106 : decode cX1_placeFrom 106 = .ok (.iload 4, 2) := by decide +kernel
theorem dX1_placeFrom_108 : decode cX1_placeFrom 108 = .ok (.invokestatic 27, 3) := by decide +kernel
theorem dX1_placeFrom_111 : decode cX1_placeFrom 111 = .ok (.aload_n 1, 1) := by decide +kernel
theorem dX1_placeFrom_112 : decode cX1_placeFrom 112 = .ok (.getfield 40, 3) := by decide +kernel
theorem dX1_placeFrom_115 : decode cX1_placeFrom 115 = .ok (.iload 5, 2) := by decide +kernel
theorem dX1_placeFrom_117 : decode cX1_placeFrom 117 = .ok (.iload 6, 2) := by decide +kernel
theorem dX1_placeFrom_119 : decode cX1_placeFrom 119 = .ok (.iastore, 1) := by decide +kernel
theorem dX1_placeFrom_120 : decode cX1_placeFrom 120 = .ok (.aload_n 1, 1) := by decide +kernel
theorem dX1_placeFrom_121 : decode cX1_placeFrom 121 = .ok (.getfield 43, 3) := by decide +kernel
theorem dX1_placeFrom_124 : decode cX1_placeFrom 124 = .ok (.iload 5, 2) := by decide +kernel
theorem dX1_placeFrom_126 : decode cX1_placeFrom 126 = .ok (.iload 7, 2) := by decide +kernel
theorem dX1_placeFrom_128 : decode cX1_placeFrom 128 = .ok (.iastore, 1) := by decide +kernel
theorem dX1_placeFrom_129 : decode cX1_placeFrom 129 = .ok (.iinc 5 1, 3) := by decide +kernel
theorem dX1_placeFrom_132 : decode cX1_placeFrom 132 = .ok (.goto (-95), 3) := by decide +kernel
theorem dX1_placeFrom_135 : decode cX1_placeFrom 135 = .ok (.aload_n 0, 1) := by decide +kernel
theorem dX1_placeFrom_136 : decode cX1_placeFrom 136 = .ok (.getfield 9, 3) := by decide +kernel
theorem dX1_placeFrom_139 : decode cX1_placeFrom 139 = .ok (.iload_n 3, 1) := by decide +kernel
theorem dX1_placeFrom_140 : decode cX1_placeFrom 140 = .ok (.bipush (-6), 2) := by decide +kernel
theorem dX1_placeFrom_142 : decode cX1_placeFrom 142 = .ok (.iastore, 1) := by decide +kernel
theorem dX1_placeFrom_143 : decode cX1_placeFrom 143 = .ok (.aload_n 0, 1) := by decide +kernel
theorem dX1_placeFrom_144 : decode cX1_placeFrom 144 = .ok (.aload_n 1, 1) := by decide +kernel
theorem dX1_placeFrom_145 : decode cX1_placeFrom 145 = .ok (.aload_n 2, 1) := by decide +kernel
theorem dX1_placeFrom_146 : decode cX1_placeFrom 146 = .ok (.iload_n 3, 1) := by decide +kernel
theorem dX1_placeFrom_147 : decode cX1_placeFrom 147 = .ok (.iconst 1, 1) := by decide +kernel
theorem dX1_placeFrom_148 : decode cX1_placeFrom 148 = .ok (.iadd, 1) := by decide +kernel
theorem dX1_placeFrom_149 : decode cX1_placeFrom 149 = .ok (.iload 4, 2) := by decide +kernel
theorem dX1_placeFrom_151 : decode cX1_placeFrom 151 = .ok (.iconst 1, 1) := by decide +kernel
theorem dX1_placeFrom_152 : decode cX1_placeFrom 152 = .ok (.iadd, 1) := by decide +kernel
theorem dX1_placeFrom_153 : decode cX1_placeFrom 153 = .ok (.invokestatic 27, 3) := by decide +kernel
theorem dX1_placeFrom_156 : decode cX1_placeFrom 156 = .ok (.return_, 1) := by decide +kernel
theorem dX2_gardenToMeasure_0 : decode cX2_gardenToMeasure 0 = .ok (.bipush (-6), 2) := by decide +kernel
theorem dX2_gardenToMeasure_2 : decode cX2_gardenToMeasure 2 = .ok (.istore_n 2, 1) := by decide +kernel
theorem dX2_gardenToMeasure_3 : decode cX2_gardenToMeasure 3 = .ok (.aload_n 0, 1) := by decide +kernel
theorem dX2_gardenToMeasure_4 : decode cX2_gardenToMeasure 4 = .ok (.getfield 28, 3) := by decide +kernel
theorem dX2_gardenToMeasure_7 : decode cX2_gardenToMeasure 7 = .ok (.ifCond .eq 7, 3) := by decide +kernel
theorem dX2_gardenToMeasure_10 : decode cX2_gardenToMeasure 10 = .ok (.aload_n 1, 1) := by decide +kernel
theorem dX2_gardenToMeasure_11 : decode cX2_gardenToMeasure 11 = .ok (.ifnonnull 5, 3) := by decide +kernel
theorem dX2_gardenToMeasure_14 : decode cX2_gardenToMeasure 14 = .ok (.iload_n 2, 1) := by decide +kernel
theorem dX2_gardenToMeasure_15 : decode cX2_gardenToMeasure 15 = .ok (.ireturn, 1) := by decide +kernel
theorem dX2_gardenToMeasure_16 : decode cX2_gardenToMeasure 16 = .ok (.iconst 0, 1) := by decide +kernel
theorem dX2_gardenToMeasure_17 : decode cX2_gardenToMeasure 17 = .ok (.istore_n 3, 1) := by decide +kernel
theorem dX2_gardenToMeasure_18 : decode cX2_gardenToMeasure 18 = .ok (.iload_n 3, 1) := by decide +kernel
theorem dX2_gardenToMeasure_19 : decode cX2_gardenToMeasure 19 = .ok (.aload_n 1, 1) := by decide +kernel
theorem dX2_gardenToMeasure_20 : decode cX2_gardenToMeasure 20 = .ok (.getfield 41, 3) := by decide +kernel
theorem dX2_gardenToMeasure_23 : decode cX2_gardenToMeasure 23 = .ok (.if_icmp .ge 44, 3) := by decide +kernel
theorem dX2_gardenToMeasure_26 : decode cX2_gardenToMeasure 26 = .ok (.iload_n 3, 1) := by decide +kernel
theorem dX2_gardenToMeasure_27 : decode cX2_gardenToMeasure 27 = .ok (.bipush 8, 2) := by decide +kernel
theorem dX2_gardenToMeasure_29 : decode cX2_gardenToMeasure 29 = .ok (.if_icmp .ge 38, 3) := by decide +kernel
theorem dX2_gardenToMeasure_32 : decode cX2_gardenToMeasure 32 = .ok (.aload_n 1, 1) := by decide +kernel
theorem dX2_gardenToMeasure_33 : decode cX2_gardenToMeasure 33 = .ok (.iload_n 3, 1) := by decide +kernel
theorem dX2_gardenToMeasure_34 : decode cX2_gardenToMeasure 34 = .ok (.invokevirtual 89, 3) := by decide +kernel
theorem dX2_gardenToMeasure_37 : decode cX2_gardenToMeasure 37 = .ok (.ifCond .ne 24, 3) := by decide +kernel
theorem dX2_gardenToMeasure_40 : decode cX2_gardenToMeasure 40 = .ok (.iload_n 2, 1) := by decide +kernel
theorem dX2_gardenToMeasure_41 : decode cX2_gardenToMeasure 41 = .ok (.bipush (-6), 2) := by decide +kernel
theorem dX2_gardenToMeasure_43 : decode cX2_gardenToMeasure 43 = .ok (.if_icmp .eq 16, 3) := by decide +kernel
theorem dX2_gardenToMeasure_46 : decode cX2_gardenToMeasure 46 = .ok (.aload_n 0, 1) := by decide +kernel
theorem dX2_gardenToMeasure_47 : decode cX2_gardenToMeasure 47 = .ok (.iload_n 3, 1) := by decide +kernel
theorem dX2_gardenToMeasure_48 : decode cX2_gardenToMeasure 48 = .ok (.invokevirtual 93, 3) := by decide +kernel
theorem dX2_gardenToMeasure_51 : decode cX2_gardenToMeasure 51 = .ok (.aload_n 0, 1) := by decide +kernel
theorem dX2_gardenToMeasure_52 : decode cX2_gardenToMeasure 52 = .ok (.iload_n 2, 1) := by decide +kernel
theorem dX2_gardenToMeasure_53 : decode cX2_gardenToMeasure 53 = .ok (.invokevirtual 93, 3) := by decide +kernel
theorem dX2_gardenToMeasure_56 : decode cX2_gardenToMeasure 56 = .ok (.if_icmp .ge 5, 3) := by decide +kernel
theorem dX2_gardenToMeasure_59 : decode cX2_gardenToMeasure 59 = .ok (.iload_n 3, 1) := by decide +kernel
theorem dX2_gardenToMeasure_60 : decode cX2_gardenToMeasure 60 = .ok (.istore_n 2, 1) := by decide +kernel
theorem dX2_gardenToMeasure_61 : decode cX2_gardenToMeasure 61 = .ok (.iinc 3 1, 3) := by decide +kernel
theorem dX2_gardenToMeasure_64 : decode cX2_gardenToMeasure 64 = .ok (.goto (-46), 3) := by decide +kernel
theorem dX2_gardenToMeasure_67 : decode cX2_gardenToMeasure 67 = .ok (.iload_n 2, 1) := by decide +kernel
theorem dX2_gardenToMeasure_68 : decode cX2_gardenToMeasure 68 = .ok (.ireturn, 1) := by decide +kernel
theorem dX2_gather_0 : decode cX2_gather 0 = .ok (.aload_n 1, 1) := by decide +kernel
theorem dX2_gather_1 : decode cX2_gather 1 = .ok (.ifnull 12, 3) := by decide +kernel
theorem dX2_gather_4 : decode cX2_gather 4 = .ok (.iload_n 2, 1) := by decide +kernel
theorem dX2_gather_5 : decode cX2_gather 5 = .ok (.iconst 0, 1) := by decide +kernel
theorem dX2_gather_6 : decode cX2_gather 6 = .ok (.iconst 3, 1) := by decide +kernel
theorem dX2_gather_7 : decode cX2_gather 7 = .ok (.invokestatic 37, 3) := by decide +kernel
theorem dX2_gather_10 : decode cX2_gather 10 = .ok (.ifCond .eq 4, 3) := by decide +kernel
theorem dX2_gather_13 : decode cX2_gather 13 = .ok (.return_, 1) := by decide +kernel
theorem dX2_gather_14 : decode cX2_gather 14 = .ok (.aload_n 0, 1) := by decide +kernel
theorem dX2_gather_15 : decode cX2_gather 15 = .ok (.iload_n 2, 1) := by decide +kernel
theorem dX2_gather_16 : decode cX2_gather 16 = .ok (.putfield 24, 3) := by decide +kernel
theorem dX2_gather_19 : decode cX2_gather 19 = .ok (.aload_n 0, 1) := by decide +kernel
theorem dX2_gather_20 : decode cX2_gather 20 = .ok (.iconst 0, 1) := by decide +kernel
theorem dX2_gather_21 : decode cX2_gather 21 = .ok (.putfield 28, 3) := by decide +kernel
theorem dX2_gather_24 : decode cX2_gather 24 = .ok (.aload_n 0, 1) := by decide +kernel
theorem dX2_gather_25 : decode cX2_gather 25 = .ok (.iconst 0, 1) := by decide +kernel
theorem dX2_gather_26 : decode cX2_gather 26 = .ok (.putfield 31, 3) := by decide +kernel
theorem dX2_gather_29 : decode cX2_gather 29 = .ok (.aload_n 0, 1) := by decide +kernel
theorem dX2_gather_30 : decode cX2_gather 30 = .ok (.iconst 1, 1) := by decide +kernel
theorem dX2_gather_31 : decode cX2_gather 31 = .ok (.aload_n 1, 1) := by decide +kernel
theorem dX2_gather_32 : decode cX2_gather 32 = .ok (.getfield 41, 3) := by decide +kernel
theorem dX2_gather_35 : decode cX2_gather 35 = .ok (.ishl, 1) := by decide +kernel
theorem dX2_gather_36 : decode cX2_gather 36 = .ok (.iconst 1, 1) := by decide +kernel
theorem dX2_gather_37 : decode cX2_gather 37 = .ok (.isub, 1) := by decide +kernel
theorem dX2_gather_38 : decode cX2_gather 38 = .ok (.putfield 34, 3) := by decide +kernel
theorem dX2_gather_41 : decode cX2_gather 41 = .ok (.aload_n 0, 1) := by decide +kernel
theorem dX2_gather_42 : decode cX2_gather 42 = .ok (.getfield 21, 3) := by decide +kernel
theorem dX2_gather_45 : decode cX2_gather 45 = .ok (.iconst 0, 1) := by decide +kernel
theorem dX2_gather_46 : decode cX2_gather 46 = .ok (.invokestatic 46, 3) := by decide +kernel
theorem dX2_gather_49 : decode cX2_gather 49 = .ok (.aload_n 1, 1) := by decide +kernel
theorem dX2_gather_50 : decode cX2_gather 50 = .ok (.getfield 52, 3) := by decide +kernel
theorem dX2_gather_53 : decode cX2_gather 53 = .ok (.iconst 0, 1) := by decide +kernel
theorem dX2_gather_54 : decode cX2_gather 54 = .ok (.aload_n 0, 1) := by decide +kernel
theorem dX2_gather_55 : decode cX2_gather 55 = .ok (.getfield 15, 3) := by decide +kernel
theorem dX2_gather_58 : decode cX2_gather 58 = .ok (.iconst 0, 1) := by decide +kernel
theorem dX2_gather_59 : decode cX2_gather 59 = .ok (.bipush 8, 2) := by decide +kernel
theorem dX2_gather_61 : decode cX2_gather 61 = .ok (.invokestatic 55, 3) := by decide +kernel
theorem dX2_gather_64 : decode cX2_gather 64 = .ok (.aload_n 0, 1) := by decide +kernel
theorem dX2_gather_65 : decode cX2_gather 65 = .ok (.aload_n 1, 1) := by decide +kernel
theorem dX2_gather_66 : decode cX2_gather 66 = .ok (.iload_n 2, 1) := by decide +kernel
theorem dX2_gather_67 : decode cX2_gather 67 = .ok (.iconst 0, 1) := by decide +kernel
theorem dX2_gather_68 : decode cX2_gather 68 = .ok (.invokestatic 61, 3) := by decide +kernel
theorem dX2_gather_71 : decode cX2_gather 71 = .ok (.aload_n 0, 1) := by decide +kernel
theorem dX2_gather_72 : decode cX2_gather 72 = .ok (.getfield 28, 3) := by decide +kernel
theorem dX2_gather_75 : decode cX2_gather 75 = .ok (.ifCond .ne 8, 3) := by decide +kernel
theorem dX2_gather_78 : decode cX2_gather 78 = .ok (.aload_n 0, 1) := by decide +kernel
theorem dX2_gather_79 : decode cX2_gather 79 = .ok (.iconst 0, 1) := by decide +kernel
theorem dX2_gather_80 : decode cX2_gather 80 = .ok (.putfield 34, 3) := by decide +kernel
theorem dX2_gather_83 : decode cX2_gather 83 = .ok (.return_, 1) := by decide +kernel
theorem dX2_init_0 : decode cX2_init 0 = .ok (.aload_n 0, 1) := by decide +kernel
theorem dX2_init_1 : decode cX2_init 1 = .ok (.invokespecial 3, 3) := by decide +kernel
theorem dX2_init_4 : decode cX2_init 4 = .ok (.aload_n 0, 1) := by decide +kernel
theorem dX2_init_5 : decode cX2_init 5 = .ok (.iconst 3, 1) := by decide +kernel
theorem dX2_init_6 : decode cX2_init 6 = .ok (.newarray .int, 2) := by decide +kernel
theorem dX2_init_8 : decode cX2_init 8 = .ok (.putfield 9, 3) := by decide +kernel
theorem dX2_init_11 : decode cX2_init 11 = .ok (.aload_n 0, 1) := by decide +kernel
theorem dX2_init_12 : decode cX2_init 12 = .ok (.bipush 8, 2) := by decide +kernel
theorem dX2_init_14 : decode cX2_init 14 = .ok (.newarray .int, 2) := by decide +kernel
theorem dX2_init_16 : decode cX2_init 16 = .ok (.putfield 15, 3) := by decide +kernel
theorem dX2_init_19 : decode cX2_init 19 = .ok (.aload_n 0, 1) := by decide +kernel
theorem dX2_init_20 : decode cX2_init 20 = .ok (.bipush 8, 2) := by decide +kernel
theorem dX2_init_22 : decode cX2_init 22 = .ok (.newarray .int, 2) := by decide +kernel
theorem dX2_init_24 : decode cX2_init 24 = .ok (.putfield 18, 3) := by decide +kernel
theorem dX2_init_27 : decode cX2_init 27 = .ok (.aload_n 0, 1) := by decide +kernel
theorem dX2_init_28 : decode cX2_init 28 = .ok (.sipush 256, 3) := by decide +kernel
theorem dX2_init_31 : decode cX2_init 31 = .ok (.newarray .int, 2) := by decide +kernel
theorem dX2_init_33 : decode cX2_init 33 = .ok (.putfield 21, 3) := by decide +kernel
theorem dX2_init_36 : decode cX2_init 36 = .ok (.aload_n 0, 1) := by decide +kernel
theorem dX2_init_37 : decode cX2_init 37 = .ok (.iconst 0, 1) := by decide +kernel
theorem dX2_init_38 : decode cX2_init 38 = .ok (.putfield 24, 3) := by decide +kernel
theorem dX2_init_41 : decode cX2_init 41 = .ok (.aload_n 0, 1) := by decide +kernel
theorem dX2_init_42 : decode cX2_init 42 = .ok (.iconst 0, 1) := by decide +kernel
theorem dX2_init_43 : decode cX2_init 43 = .ok (.putfield 28, 3) := by decide +kernel
theorem dX2_init_46 : decode cX2_init 46 = .ok (.aload_n 0, 1) := by decide +kernel
theorem dX2_init_47 : decode cX2_init 47 = .ok (.iconst 0, 1) := by decide +kernel
theorem dX2_init_48 : decode cX2_init 48 = .ok (.putfield 31, 3) := by decide +kernel
theorem dX2_init_51 : decode cX2_init 51 = .ok (.aload_n 0, 1) := by decide +kernel
theorem dX2_init_52 : decode cX2_init 52 = .ok (.iconst 0, 1) := by decide +kernel
theorem dX2_init_53 : decode cX2_init 53 = .ok (.putfield 34, 3) := by decide +kernel
theorem dX2_init_56 : decode cX2_init 56 = .ok (.return_, 1) := by decide +kernel
theorem dX2_mostLeft_0 : decode cX2_mostLeft 0 = .ok (.iconst 0, 1) := by decide +kernel
theorem dX2_mostLeft_1 : decode cX2_mostLeft 1 = .ok (.istore_n 2, 1) := by decide +kernel
theorem dX2_mostLeft_2 : decode cX2_mostLeft 2 = .ok (.iload_n 1, 1) := by decide +kernel
theorem dX2_mostLeft_3 : decode cX2_mostLeft 3 = .ok (.iconst 0, 1) := by decide +kernel
theorem dX2_mostLeft_4 : decode cX2_mostLeft 4 = .ok (.bipush 7, 2) := by decide +kernel
theorem dX2_mostLeft_6 : decode cX2_mostLeft 6 = .ok (.invokestatic 37, 3) := by decide +kernel
theorem dX2_mostLeft_9 : decode cX2_mostLeft 9 = .ok (.ifCond .eq 5, 3) := by decide +kernel
theorem dX2_mostLeft_12 : decode cX2_mostLeft 12 = .ok (.iload_n 2, 1) := by decide +kernel
theorem dX2_mostLeft_13 : decode cX2_mostLeft 13 = .ok (.ireturn, 1) := by decide +kernel
theorem dX2_mostLeft_14 : decode cX2_mostLeft 14 = .ok (.iconst 0, 1) := by decide +kernel
theorem dX2_mostLeft_15 : decode cX2_mostLeft 15 = .ok (.istore_n 3, 1) := by decide +kernel
theorem dX2_mostLeft_16 : decode cX2_mostLeft 16 = .ok (.iload_n 3, 1) := by decide +kernel
theorem dX2_mostLeft_17 : decode cX2_mostLeft 17 = .ok (.bipush 32, 2) := by decide +kernel
theorem dX2_mostLeft_19 : decode cX2_mostLeft 19 = .ok (.if_icmp .ge 25, 3) := by decide +kernel
theorem dX2_mostLeft_22 : decode cX2_mostLeft 22 = .ok (.iload_n 2, 1) := by decide +kernel
theorem dX2_mostLeft_23 : decode cX2_mostLeft 23 = .ok (.aload_n 0, 1) := by decide +kernel
theorem dX2_mostLeft_24 : decode cX2_mostLeft 24 = .ok (.getfield 21, 3) := by decide +kernel
theorem dX2_mostLeft_27 : decode cX2_mostLeft 27 = .ok (.iload_n 1, 1) := by decide +kernel
theorem dX2_mostLeft_28 : decode cX2_mostLeft 28 = .ok (.bipush 32, 2) := by decide +kernel
theorem dX2_mostLeft_30 : decode cX2_mostLeft 30 = .ok (.imul, 1) := by decide +kernel
theorem dX2_mostLeft_31 : decode cX2_mostLeft 31 = .ok (.iload_n 3, 1) := by decide +kernel
theorem dX2_mostLeft_32 : decode cX2_mostLeft 32 = .ok (.iadd, 1) := by decide +kernel
theorem dX2_mostLeft_33 : decode cX2_mostLeft 33 = .ok (.iaload, 1) := by decide +kernel
theorem dX2_mostLeft_34 : decode cX2_mostLeft 34 = .ok (.invokestatic 69, 3) := by decide +kernel
theorem dX2_mostLeft_37 : decode cX2_mostLeft 37 = .ok (.istore_n 2, 1) := by decide +kernel
theorem dX2_mostLeft_38 : decode cX2_mostLeft 38 = .ok (.iinc 3 1, 3) := by decide +kernel
theorem dX2_mostLeft_41 : decode cX2_mostLeft 41 = .ok (.goto (-25), 3) := by decide +kernel
theorem dX2_mostLeft_44 : decode cX2_mostLeft 44 = .ok (.iload_n 2, 1) := by decide +kernel
theorem dX2_mostLeft_45 : decode cX2_mostLeft 45 = .ok (.ireturn, 1) := by decide +kernel
theorem dX2_orders_0 : decode cX2_orders 0 = .ok (.iconst 1, 1) := by decide +kernel
theorem dX2_orders_1 : decode cX2_orders 1 = .ok (.istore_n 1, 1) := by decide +kernel
theorem dX2_orders_2 : decode cX2_orders 2 = .ok (.iconst 1, 1) := by decide +kernel
theorem dX2_orders_3 : decode cX2_orders 3 = .ok (.istore_n 2, 1) := by decide +kernel
theorem dX2_orders_4 : decode cX2_orders 4 = .ok (.iconst 1, 1) := by decide +kernel
theorem dX2_orders_5 : decode cX2_orders 5 = .ok (.istore_n 3, 1) := by decide +kernel
theorem dX2_orders_6 : decode cX2_orders 6 = .ok (.iload_n 3, 1) := by decide +kernel
theorem dX2_orders_7 : decode cX2_orders 7 = .ok (.aload_n 0, 1) := by decide +kernel
theorem dX2_orders_8 : decode cX2_orders 8 = .ok (.getfield 24, 3) := by decide +kernel
theorem dX2_orders_11 : decode cX2_orders 11 = .ok (.if_icmp .ge 47, 3) := by decide +kernel
theorem dX2_orders_14 : decode cX2_orders 14 = .ok (.iload_n 3, 1) := by decide +kernel
theorem dX2_orders_15 : decode cX2_orders 15 = .ok (.iconst 3, 1) := by decide +kernel
theorem dX2_orders_16 : decode cX2_orders 16 = .ok (.if_icmp .ge 42, 3) := by decide +kernel
theorem dX2_orders_19 : decode cX2_orders 19 = .ok (.aload_n 0, 1) := by decide +kernel
theorem dX2_orders_20 : decode cX2_orders 20 = .ok (.getfield 9, 3) := by decide +kernel
theorem dX2_orders_23 : decode cX2_orders 23 = .ok (.iload_n 3, 1) := by decide +kernel
theorem dX2_orders_24 : decode cX2_orders 24 = .ok (.iaload, 1) := by decide +kernel
theorem dX2_orders_25 : decode cX2_orders 25 = .ok (.aload_n 0, 1) := by decide +kernel
theorem dX2_orders_26 : decode cX2_orders 26 = .ok (.getfield 9, 3) := by decide +kernel
theorem dX2_orders_29 : decode cX2_orders 29 = .ok (.iload_n 3, 1) := by decide +kernel
theorem dX2_orders_30 : decode cX2_orders 30 = .ok (.iconst 1, 1) := by decide +kernel
theorem dX2_orders_31 : decode cX2_orders 31 = .ok (.isub, 1) := by decide +kernel
theorem dX2_orders_32 : decode cX2_orders 32 = .ok (.iaload, 1) := by decide +kernel
theorem dX2_orders_33 : decode cX2_orders 33 = .ok (.if_icmp .ne 9, 3) := by decide +kernel
theorem dX2_orders_36 : decode cX2_orders 36 = .ok (.iload_n 2, 1) := by decide +kernel
theorem dX2_orders_37 : decode cX2_orders 37 = .ok (.iconst 1, 1) := by decide +kernel
theorem dX2_orders_38 : decode cX2_orders 38 = .ok (.iadd, 1) := by decide +kernel
theorem dX2_orders_39 : decode cX2_orders 39 = .ok (.goto 4, 3) := by decide +kernel
theorem dX2_orders_42 : decode cX2_orders 42 = .ok (.iconst 1, 1) := by decide +kernel
theorem dX2_orders_43 : decode cX2_orders 43 = .ok (.istore_n 2, 1) := by decide +kernel
theorem dX2_orders_44 : decode cX2_orders 44 = .ok (.iload_n 1, 1) := by decide +kernel
theorem dX2_orders_45 : decode cX2_orders 45 = .ok (.iload_n 3, 1) := by decide +kernel
theorem dX2_orders_46 : decode cX2_orders 46 = .ok (.iconst 1, 1) := by decide +kernel
theorem dX2_orders_47 : decode cX2_orders 47 = .ok (.iadd, 1) := by decide +kernel
theorem dX2_orders_48 : decode cX2_orders 48 = .ok (.imul, 1) := by decide +kernel
theorem dX2_orders_49 : decode cX2_orders 49 = .ok (.iload_n 2, 1) := by decide +kernel
theorem dX2_orders_50 : decode cX2_orders 50 = .ok (.idiv, 1) := by decide +kernel
theorem dX2_orders_51 : decode cX2_orders 51 = .ok (.istore_n 1, 1) := by decide +kernel
theorem dX2_orders_52 : decode cX2_orders 52 = .ok (.iinc 3 1, 3) := by decide +kernel
theorem dX2_orders_55 : decode cX2_orders 55 = .ok (.goto (-49), 3) := by decide +kernel
theorem dX2_orders_58 : decode cX2_orders 58 = .ok (.iload_n 1, 1) := by decide +kernel
theorem dX2_orders_59 : decode cX2_orders 59 = .ok (.ireturn, 1) := by decide +kernel
theorem dX2_pickFrom_0 : decode cX2_pickFrom 0 = .ok (.iload_n 2, 1) := by decide +kernel
theorem dX2_pickFrom_1 : decode cX2_pickFrom 1 = .ok (.iconst 1, 1) := by decide +kernel
theorem dX2_pickFrom_2 : decode cX2_pickFrom 2 = .ok (.if_icmp .lt 8, 3) := by decide +kernel
theorem dX2_pickFrom_5 : decode cX2_pickFrom 5 = .ok (.iload_n 2, 1) := by decide +kernel
theorem dX2_pickFrom_6 : decode cX2_pickFrom 6 = .ok (.iconst 3, 1) := by decide +kernel
theorem dX2_pickFrom_7 : decode cX2_pickFrom 7 = .ok (.if_icmp .le 9, 3) := by decide +kernel
theorem dX2_pickFrom_10 : decode cX2_pickFrom 10 = .ok (.aload_n 0, 1) := by decide +kernel
theorem dX2_pickFrom_11 : decode cX2_pickFrom 11 = .ok (.aload_n 1, 1) := by decide +kernel
theorem dX2_pickFrom_12 : decode cX2_pickFrom 12 = .ok (.invokevirtual 65, 3) := by decide +kernel
theorem dX2_pickFrom_15 : decode cX2_pickFrom 15 = .ok (.return_, 1) := by decide +kernel
theorem dX2_pickFrom_16 : decode cX2_pickFrom 16 = .ok (.iconst 0, 1) := by decide +kernel
theorem dX2_pickFrom_17 : decode cX2_pickFrom 17 = .ok (.iload_n 3, 1) := by decide +kernel
theorem dX2_pickFrom_18 : decode cX2_pickFrom 18 = .ok (.invokestatic 69, 3) := by decide +kernel
theorem dX2_pickFrom_21 : decode cX2_pickFrom 21 = .ok (.istore 4, 2) := by decide +kernel
theorem dX2_pickFrom_23 : decode cX2_pickFrom 23 = .ok (.iload 4, 2) := by decide +kernel
theorem dX2_pickFrom_25 : decode cX2_pickFrom 25 = .ok (.iconst 2, 1) := by decide +kernel
theorem dX2_pickFrom_26 : decode cX2_pickFrom 26 = .ok (.aload_n 1, 1) := by decide +kernel
theorem dX2_pickFrom_27 : decode cX2_pickFrom 27 = .ok (.getfield 41, 3) := by decide +kernel
theorem dX2_pickFrom_30 : decode cX2_pickFrom 30 = .ok (.imul, 1) := by decide +kernel
theorem dX2_pickFrom_31 : decode cX2_pickFrom 31 = .ok (.if_icmp .ge 83, 3) := by decide +kernel
theorem dX2_pickFrom_34 : decode cX2_pickFrom 34 = .ok (.iload 4, 2) := by decide +kernel
theorem dX2_pickFrom_36 : decode cX2_pickFrom 36 = .ok (.bipush 16, 2) := by decide +kernel
theorem dX2_pickFrom_38 : decode cX2_pickFrom 38 = .ok (.if_icmp .ge 76, 3) := by decide +kernel
theorem dX2_pickFrom_41 : decode cX2_pickFrom 41 = .ok (.aload_n 1, 1) := by decide +kernel
theorem dX2_pickFrom_42 : decode cX2_pickFrom 42 = .ok (.getfield 75, 3) := by decide +kernel
theorem dX2_pickFrom_45 : decode cX2_pickFrom 45 = .ok (.iload 4, 2) := by decide +kernel
theorem dX2_pickFrom_47 : decode cX2_pickFrom 47 = .ok (.iconst 1, 1) := by decide +kernel
theorem dX2_pickFrom_48 : decode cX2_pickFrom 48 = .ok (.iand, 1) := by decide +kernel
theorem dX2_pickFrom_49 : decode cX2_pickFrom 49 = .ok (.ifCond .ne 7, 3) := by decide +kernel
theorem dX2_pickFrom_52 : decode cX2_pickFrom 52 = .ok (.iconst 0, 1) := by decide +kernel
theorem dX2_pickFrom_53 : decode cX2_pickFrom 53 = .ok (.goto 4, 3) := by decide +kernel
theorem dX2_pickFrom_56 : decode cX2_pickFrom 56 = .ok (.iconst 1, 1) := by decide +kernel
theorem dX2_pickFrom_57 : decode cX2_pickFrom 57 = .ok (.iaload, 1) := by decide +kernel
theorem dX2_pickFrom_58 : decode cX2_pickFrom 58 = .ok (.istore 5, 2) := by decide +kernel
theorem dX2_pickFrom_60 : decode cX2_pickFrom 60 = .ok (.aload_n 0, 1) := by decide +kernel
theorem dX2_pickFrom_61 : decode cX2_pickFrom 61 = .ok (.getfield 9, 3) := by decide +kernel
theorem dX2_pickFrom_64 : decode cX2_pickFrom 64 = .ok (.iload_n 2, 1) := by decide +kernel
theorem dX2_pickFrom_65 : decode cX2_pickFrom 65 = .ok (.iconst 1, 1) := by decide +kernel
theorem dX2_pickFrom_66 : decode cX2_pickFrom 66 = .ok (.isub, 1) := by decide +kernel
theorem dX2_pickFrom_67 : decode cX2_pickFrom 67 = .ok (.iload 4, 2) := by decide +kernel
theorem dX2_pickFrom_69 : decode cX2_pickFrom 69 = .ok (.iastore, 1) := by decide +kernel
theorem dX2_pickFrom_70 : decode cX2_pickFrom 70 = .ok (.aload_n 0, 1) := by decide +kernel
theorem dX2_pickFrom_71 : decode cX2_pickFrom 71 = .ok (.getfield 15, 3) := by decide +kernel
theorem dX2_pickFrom_74 : decode cX2_pickFrom 74 = .ok (.iload 4, 2) := by decide +kernel
theorem dX2_pickFrom_76 : decode cX2_pickFrom 76 = .ok (.iconst 1, 1) := by decide +kernel
theorem dX2_pickFrom_77 : decode cX2_pickFrom 77 = .ok (.ishr, 1) := by decide +kernel
theorem dX2_pickFrom_78 : decode cX2_pickFrom 78 = .ok (.dup2, 1) := by decide +kernel
theorem dX2_pickFrom_79 : decode cX2_pickFrom 79 = .ok (.iaload, 1) := by decide +kernel
theorem dX2_pickFrom_80 : decode cX2_pickFrom 80 = .ok (.iload 5, 2) := by decide +kernel
theorem dX2_pickFrom_82 : decode cX2_pickFrom 82 = .ok (.iadd, 1) := by decide +kernel
theorem dX2_pickFrom_83 : decode cX2_pickFrom 83 = .ok (.iastore, 1) := by decide +kernel
theorem dX2_pickFrom_84 : decode cX2_pickFrom 84 = .ok (.aload_n 0, 1) := by decide +kernel
theorem dX2_pickFrom_85 : decode cX2_pickFrom 85 = .ok (.aload_n 1, 1) := by decide +kernel
theorem dX2_pickFrom_86 : decode cX2_pickFrom 86 = .ok (.iload_n 2, 1) := by decide +kernel
theorem dX2_pickFrom_87 : decode cX2_pickFrom 87 = .ok (.iconst 1, 1) := by decide +kernel
theorem dX2_pickFrom_88 : decode cX2_pickFrom 88 = .ok (.isub, 1) := by decide +kernel
theorem dX2_pickFrom_89 : decode cX2_pickFrom 89 = .ok (.iload 4, 2) := by decide +kernel
theorem dX2_pickFrom_91 : decode cX2_pickFrom 91 = .ok (.invokestatic 61, 3) := by decide +kernel
theorem dX2_pickFrom_94 : decode cX2_pickFrom 94 = .ok (.aload_n 0, 1) := by decide +kernel
theorem dX2_pickFrom_95 : decode cX2_pickFrom 95 = .ok (.getfield 15, 3) := by decide +kernel
theorem dX2_pickFrom_98 : decode cX2_pickFrom 98 = .ok (.iload 4, 2) := by decide +kernel
theorem dX2_pickFrom_100 : decode cX2_pickFrom 100 = .ok (.iconst 1, 1) := by decide +kernel
theorem dX2_pickFrom_101 : decode cX2_pickFrom 101 = .ok (.ishr, 1) := by decide +kernel
theorem dX2_pickFrom_102 : decode cX2_pickFrom 102 = .ok (.dup2, 1) := by decide +kernel
theorem dX2_pickFrom_103 : decode cX2_pickFrom 103 = .ok (.iaload, 1) := by decide +kernel
theorem dX2_pickFrom_104 : decode cX2_pickFrom 104 = .ok (.iload 5, 2) := by decide +kernel
theorem dX2_pickFrom_106 : decode cX2_pickFrom 106 = .ok (.isub, 1) := by decide +kernel
theorem dX2_pickFrom_107 : decode cX2_pickFrom 107 = .ok (.iastore, 1) := by decide +kernel
theorem dX2_pickFrom_108 : decode cX2_pickFrom 108 = .ok (.iinc 4 1, 3) := by decide +kernel
theorem dX2_pickFrom_111 : decode cX2_pickFrom 111 = .ok (.goto (-88), 3) := by decide +kernel
theorem dX2_pickFrom_114 : decode cX2_pickFrom 114 = .ok (.return_, 1) := by decide +kernel
theorem dX2_weigh_0 : decode cX2_weigh 0 = .ok (.aload_n 0, 1) := by decide +kernel
theorem dX2_weigh_1 : decode cX2_weigh 1 = .ok (.getfield 15, 3) := by decide +kernel
theorem dX2_weigh_4 : decode cX2_weigh 4 = .ok (.iconst 0, 1) := by decide +kernel
theorem dX2_weigh_5 : decode cX2_weigh 5 = .ok (.aload_n 0, 1) := by decide +kernel
theorem dX2_weigh_6 : decode cX2_weigh 6 = .ok (.getfield 18, 3) := by decide +kernel
theorem dX2_weigh_9 : decode cX2_weigh 9 = .ok (.iconst 0, 1) := by decide +kernel
theorem dX2_weigh_10 : decode cX2_weigh 10 = .ok (.bipush 8, 2) := by decide +kernel
theorem dX2_weigh_12 : decode cX2_weigh 12 = .ok (.invokestatic 55, 3) := by decide +kernel
theorem dX2_weigh_15 : decode cX2_weigh 15 = .ok (.aload_n 0, 1) := by decide +kernel
theorem dX2_weigh_16 : decode cX2_weigh 16 = .ok (.getfield 18, 3) := by decide +kernel
theorem dX2_weigh_19 : decode cX2_weigh 19 = .ok (.aload_n 1, 1) := by decide +kernel
theorem dX2_weigh_20 : decode cX2_weigh 20 = .ok (.getfield 41, 3) := by decide +kernel
theorem dX2_weigh_23 : decode cX2_weigh 23 = .ok (.invokestatic 78, 3) := by decide +kernel
theorem dX2_weigh_26 : decode cX2_weigh 26 = .ok (.aload_n 1, 1) := by decide +kernel
theorem dX2_weigh_27 : decode cX2_weigh 27 = .ok (.aload_n 0, 1) := by decide +kernel
theorem dX2_weigh_28 : decode cX2_weigh 28 = .ok (.getfield 18, 3) := by decide +kernel
theorem dX2_weigh_31 : decode cX2_weigh 31 = .ok (.invokevirtual 81, 3) := by decide +kernel
theorem dX2_weigh_34 : decode cX2_weigh 34 = .ok (.ifCond .ne 4, 3) := by decide +kernel
theorem dX2_weigh_37 : decode cX2_weigh 37 = .ok (.return_, 1) := by decide +kernel
theorem dX2_weigh_38 : decode cX2_weigh 38 = .ok (.aload_n 0, 1) := by decide +kernel
theorem dX2_weigh_39 : decode cX2_weigh 39 = .ok (.invokevirtual 85, 3) := by decide +kernel
theorem dX2_weigh_42 : decode cX2_weigh 42 = .ok (.istore_n 2, 1) := by decide +kernel
theorem dX2_weigh_43 : decode cX2_weigh 43 = .ok (.iconst 0, 1) := by decide +kernel
theorem dX2_weigh_44 : decode cX2_weigh 44 = .ok (.istore_n 3, 1) := by decide +kernel
theorem dX2_weigh_45 : decode cX2_weigh 45 = .ok (.iconst 0, 1) := by decide +kernel
theorem dX2_weigh_46 : decode cX2_weigh 46 = .ok (.istore 4, 2) := by decide +kernel
theorem dX2_weigh_48 : decode cX2_weigh 48 = .ok (.iload 4, 2) := by decide +kernel
theorem dX2_weigh_50 : decode cX2_weigh 50 = .ok (.aload_n 0, 1) := by decide +kernel
theorem dX2_weigh_51 : decode cX2_weigh 51 = .ok (.getfield 24, 3) := by decide +kernel
theorem dX2_weigh_54 : decode cX2_weigh 54 = .ok (.if_icmp .ge 29, 3) := by decide +kernel
theorem dX2_weigh_57 : decode cX2_weigh 57 = .ok (.iload 4, 2) := by decide +kernel
theorem dX2_weigh_59 : decode cX2_weigh 59 = .ok (.iconst 3, 1) := by decide +kernel
theorem dX2_weigh_60 : decode cX2_weigh 60 = .ok (.if_icmp .ge 23, 3) := by decide +kernel
theorem dX2_weigh_63 : decode cX2_weigh 63 = .ok (.iload_n 3, 1) := by decide +kernel
theorem dX2_weigh_64 : decode cX2_weigh 64 = .ok (.iconst 1, 1) := by decide +kernel
theorem dX2_weigh_65 : decode cX2_weigh 65 = .ok (.aload_n 0, 1) := by decide +kernel
theorem dX2_weigh_66 : decode cX2_weigh 66 = .ok (.getfield 9, 3) := by decide +kernel
theorem dX2_weigh_69 : decode cX2_weigh 69 = .ok (.iload 4, 2) := by decide +kernel
theorem dX2_weigh_71 : decode cX2_weigh 71 = .ok (.iaload, 1) := by decide +kernel
theorem dX2_weigh_72 : decode cX2_weigh 72 = .ok (.iconst 1, 1) := by decide +kernel
theorem dX2_weigh_73 : decode cX2_weigh 73 = .ok (.ishr, 1) := by decide +kernel
theorem dX2_weigh_74 : decode cX2_weigh 74 = .ok (.ishl, 1) := by decide +kernel
theorem dX2_weigh_75 : decode cX2_weigh 75 = .ok (.ior, 1) := by decide +kernel
theorem dX2_weigh_76 : decode cX2_weigh 76 = .ok (.istore_n 3, 1) := by decide +kernel
theorem dX2_weigh_77 : decode cX2_weigh 77 = .ok (.iinc 4 1, 3) := by decide +kernel
theorem dX2_weigh_80 : decode cX2_weigh 80 = .ok (.goto (-32), 3) := by decide +kernel
theorem dX2_weigh_83 : decode cX2_weigh 83 = .ok (.aload_n 0, 1) := by decide +kernel
theorem dX2_weigh_84 : decode cX2_weigh 84 = .ok (.dup, 1) := by decide +kernel
theorem dX2_weigh_85 : decode cX2_weigh 85 = .ok (.getfield 28, 3) := by decide +kernel
theorem dX2_weigh_88 : decode cX2_weigh 88 = .ok (.iload_n 2, 1) := by decide +kernel
theorem dX2_weigh_89 : decode cX2_weigh 89 = .ok (.iadd, 1) := by decide +kernel
theorem dX2_weigh_90 : decode cX2_weigh 90 = .ok (.putfield 28, 3) := by decide +kernel
theorem dX2_weigh_93 : decode cX2_weigh 93 = .ok (.aload_n 0, 1) := by decide +kernel
theorem dX2_weigh_94 : decode cX2_weigh 94 = .ok (.dup, 1) := by decide +kernel
theorem dX2_weigh_95 : decode cX2_weigh 95 = .ok (.getfield 31, 3) := by decide +kernel
theorem dX2_weigh_98 : decode cX2_weigh 98 = .ok (.iload_n 3, 1) := by decide +kernel
theorem dX2_weigh_99 : decode cX2_weigh 99 = .ok (.ior, 1) := by decide +kernel
theorem dX2_weigh_100 : decode cX2_weigh 100 = .ok (.putfield 31, 3) := by decide +kernel
theorem dX2_weigh_103 : decode cX2_weigh 103 = .ok (.aload_n 0, 1) := by decide +kernel
theorem dX2_weigh_104 : decode cX2_weigh 104 = .ok (.dup, 1) := by decide +kernel
theorem dX2_weigh_105 : decode cX2_weigh 105 = .ok (.getfield 34, 3) := by decide +kernel
theorem dX2_weigh_108 : decode cX2_weigh 108 = .ok (.iload_n 3, 1) := by decide +kernel
theorem dX2_weigh_109 : decode cX2_weigh 109 = .ok (.iand, 1) := by decide +kernel
theorem dX2_weigh_110 : decode cX2_weigh 110 = .ok (.putfield 34, 3) := by decide +kernel
theorem dX2_weigh_113 : decode cX2_weigh 113 = .ok (.iconst 0, 1) := by decide +kernel
theorem dX2_weigh_114 : decode cX2_weigh 114 = .ok (.istore 4, 2) := by decide +kernel
theorem dX2_weigh_116 : decode cX2_weigh 116 = .ok (.iload 4, 2) := by decide +kernel
theorem dX2_weigh_118 : decode cX2_weigh 118 = .ok (.aload_n 1, 1) := by decide +kernel
theorem dX2_weigh_119 : decode cX2_weigh 119 = .ok (.getfield 41, 3) := by decide +kernel
theorem dX2_weigh_122 : decode cX2_weigh 122 = .ok (.if_icmp .ge 64, 3) := by decide +kernel
theorem dX2_weigh_125 : decode cX2_weigh 125 = .ok (.iload 4, 2) := by decide +kernel
theorem dX2_weigh_127 : decode cX2_weigh 127 = .ok (.bipush 8, 2) := by decide +kernel
theorem dX2_weigh_129 : decode cX2_weigh 129 = .ok (.if_icmp .ge 57, 3) := by decide +kernel
theorem dX2_weigh_132 : decode cX2_weigh 132 = .ok (.aload_n 0, 1) := by decide +kernel
theorem dX2_weigh_133 : decode cX2_weigh 133 = .ok (.getfield 18, 3) := by decide +kernel
theorem dX2_weigh_136 : decode cX2_weigh 136 = .ok (.iload 4, 2) := by decide +kernel
theorem dX2_weigh_138 : decode cX2_weigh 138 = .ok (.iaload, 1) := by decide +kernel
theorem dX2_weigh_139 : decode cX2_weigh 139 = .ok (.aload_n 1, 1) := by decide +kernel
theorem dX2_weigh_140 : decode cX2_weigh 140 = .ok (.getfield 52, 3) := by decide +kernel
theorem dX2_weigh_143 : decode cX2_weigh 143 = .ok (.iload 4, 2) := by decide +kernel
theorem dX2_weigh_145 : decode cX2_weigh 145 = .ok (.iaload, 1) := by decide +kernel
theorem dX2_weigh_146 : decode cX2_weigh 146 = .ok (.isub, 1) := by decide +kernel
theorem dX2_weigh_147 : decode cX2_weigh 147 = .ok (.iconst 1, 1) := by decide +kernel
theorem dX2_weigh_148 : decode cX2_weigh 148 = .ok (.iadd, 1) := by decide +kernel
theorem dX2_weigh_149 : decode cX2_weigh 149 = .ok (.istore 5, 2) := by decide +kernel
theorem dX2_weigh_151 : decode cX2_weigh 151 = .ok (.iload 5, 2) := by decide +kernel
theorem dX2_weigh_153 : decode cX2_weigh 153 = .ok (.ifCond .lt 27, 3) := by decide +kernel
theorem dX2_weigh_156 : decode cX2_weigh 156 = .ok (.iload 5, 2) := by decide +kernel
theorem dX2_weigh_158 : decode cX2_weigh 158 = .ok (.bipush 32, 2) := by decide +kernel
theorem dX2_weigh_160 : decode cX2_weigh 160 = .ok (.if_icmp .ge 20, 3) := by decide +kernel
theorem dX2_weigh_163 : decode cX2_weigh 163 = .ok (.aload_n 0, 1) := by decide +kernel
theorem dX2_weigh_164 : decode cX2_weigh 164 = .ok (.getfield 21, 3) := by decide +kernel
theorem dX2_weigh_167 : decode cX2_weigh 167 = .ok (.iload 4, 2) := by decide +kernel
theorem dX2_weigh_169 : decode cX2_weigh 169 = .ok (.bipush 32, 2) := by decide +kernel
theorem dX2_weigh_171 : decode cX2_weigh 171 = .ok (.imul, 1) := by decide +kernel
theorem dX2_weigh_172 : decode cX2_weigh 172 = .ok (.iload 5, 2) := by decide +kernel
theorem dX2_weigh_174 : decode cX2_weigh 174 = .ok (.iadd, 1) := by decide +kernel
theorem dX2_weigh_175 : decode cX2_weigh 175 = .ok (.dup2, 1) := by decide +kernel
theorem dX2_weigh_176 : decode cX2_weigh 176 = .ok (.iaload, 1) := by decide +kernel
theorem dX2_weigh_177 : decode cX2_weigh 177 = .ok (.iload_n 2, 1) := by decide +kernel
theorem dX2_weigh_178 : decode cX2_weigh 178 = .ok (.iadd, 1) := by decide +kernel
theorem dX2_weigh_179 : decode cX2_weigh 179 = .ok (.iastore, 1) := by decide +kernel
theorem dX2_weigh_180 : decode cX2_weigh 180 = .ok (.iinc 4 1, 3) := by decide +kernel
theorem dX2_weigh_183 : decode cX2_weigh 183 = .ok (.goto (-67), 3) := by decide +kernel
theorem dX2_weigh_186 : decode cX2_weigh 186 = .ok (.return_, 1) := by decide +kernel
theorem dX3_fewestFor_0 : decode cX3_fewestFor 0 = .ok (.aload_n 1, 1) := by decide +kernel
theorem dX3_fewestFor_1 : decode cX3_fewestFor 1 = .ok (.ifnonnull 6, 3) := by decide +kernel
theorem dX3_fewestFor_4 : decode cX3_fewestFor 4 = .ok (.bipush (-6), 2) := by decide +kernel
theorem dX3_fewestFor_6 : decode cX3_fewestFor 6 = .ok (.ireturn, 1) := by decide +kernel
theorem dX3_fewestFor_7 : decode cX3_fewestFor 7 = .ok (.aload_n 0, 1) := by decide +kernel
theorem dX3_fewestFor_8 : decode cX3_fewestFor 8 = .ok (.aload_n 1, 1) := by decide +kernel
theorem dX3_fewestFor_9 : decode cX3_fewestFor 9 = .ok (.getfield 25, 3) := by decide +kernel
theorem dX3_fewestFor_12 : decode cX3_fewestFor 12 = .ok (.putfield 18, 3) := by decide +kernel
theorem dX3_fewestFor_15 : decode cX3_fewestFor 15 = .ok (.iconst 0, 1) := by decide +kernel
theorem dX3_fewestFor_16 : decode cX3_fewestFor 16 = .ok (.istore_n 3, 1) := by decide +kernel
theorem dX3_fewestFor_17 : decode cX3_fewestFor 17 = .ok (.iload_n 3, 1) := by decide +kernel
theorem dX3_fewestFor_18 : decode cX3_fewestFor 18 = .ok (.aload_n 0, 1) := by decide +kernel
theorem dX3_fewestFor_19 : decode cX3_fewestFor 19 = .ok (.getfield 18, 3) := by decide +kernel
theorem dX3_fewestFor_22 : decode cX3_fewestFor 22 = .ok (.if_icmp .ge 36, 3) := by decide +kernel
theorem dX3_fewestFor_25 : decode cX3_fewestFor 25 = .ok (.iload_n 3, 1) := by decide +kernel
theorem dX3_fewestFor_26 : decode cX3_fewestFor 26 = .ok (.bipush 8, 2) := by decide +kernel
theorem dX3_fewestFor_28 : decode cX3_fewestFor 28 = .ok (.if_icmp .ge 30, 3) := by decide +kernel
theorem dX3_fewestFor_31 : decode cX3_fewestFor 31 = .ok (.aload_n 0, 1) := by decide +kernel
theorem dX3_fewestFor_32 : decode cX3_fewestFor 32 = .ok (.getfield 9, 3) := by decide +kernel
theorem dX3_fewestFor_35 : decode cX3_fewestFor 35 = .ok (.iload_n 3, 1) := by decide +kernel
theorem dX3_fewestFor_36 : decode cX3_fewestFor 36 = .ok (.aload_n 1, 1) := by decide +kernel
theorem dX3_fewestFor_37 : decode cX3_fewestFor 37 = .ok (.getfield 28, 3) := by decide +kernel
theorem dX3_fewestFor_40 : decode cX3_fewestFor 40 = .ok (.iload_n 3, 1) := by decide +kernel
theorem dX3_fewestFor_41 : decode cX3_fewestFor 41 = .ok (.iaload, 1) := by decide +kernel
theorem dX3_fewestFor_42 : decode cX3_fewestFor 42 = .ok (.iload_n 2, 1) := by decide +kernel
theorem dX3_fewestFor_43 : decode cX3_fewestFor 43 = .ok (.isub, 1) := by decide +kernel
theorem dX3_fewestFor_44 : decode cX3_fewestFor 44 = .ok (.iastore, 1) := by decide +kernel
theorem dX3_fewestFor_45 : decode cX3_fewestFor 45 = .ok (.aload_n 0, 1) := by decide +kernel
theorem dX3_fewestFor_46 : decode cX3_fewestFor 46 = .ok (.getfield 15, 3) := by decide +kernel
theorem dX3_fewestFor_49 : decode cX3_fewestFor 49 = .ok (.iload_n 3, 1) := by decide +kernel
theorem dX3_fewestFor_50 : decode cX3_fewestFor 50 = .ok (.iconst 0, 1) := by decide +kernel
theorem dX3_fewestFor_51 : decode cX3_fewestFor 51 = .ok (.iastore, 1) := by decide +kernel
theorem dX3_fewestFor_52 : decode cX3_fewestFor 52 = .ok (.iinc 3 1, 3) := by decide +kernel
theorem dX3_fewestFor_55 : decode cX3_fewestFor 55 = .ok (.goto (-38), 3) := by decide +kernel
theorem dX3_fewestFor_58 : decode cX3_fewestFor 58 = .ok (.aload_n 0, 1) := by decide +kernel
theorem dX3_fewestFor_59 : decode cX3_fewestFor 59 = .ok (.bipush 6, 2) := by decide +kernel
theorem dX3_fewestFor_61 : decode cX3_fewestFor 61 = .ok (.putfield 22, 3) := by decide +kernel
theorem dX3_fewestFor_64 : decode cX3_fewestFor 64 = .ok (.aload_n 0, 1) := by decide +kernel
theorem dX3_fewestFor_65 : decode cX3_fewestFor 65 = .ok (.iconst 0, 1) := by decide +kernel
theorem dX3_fewestFor_66 : decode cX3_fewestFor 66 = .ok (.iconst 0, 1) := by decide +kernel
theorem dX3_fewestFor_67 : decode cX3_fewestFor 67 = .ok (.invokestatic 31, 3) := by decide +kernel
theorem dX3_fewestFor_70 : decode cX3_fewestFor 70 = .ok (.aload_n 0, 1) := by decide +kernel
theorem dX3_fewestFor_71 : decode cX3_fewestFor 71 = .ok (.getfield 22, 3) := by decide +kernel
theorem dX3_fewestFor_74 : decode cX3_fewestFor 74 = .ok (.iconst 5, 1) := by decide +kernel
theorem dX3_fewestFor_75 : decode cX3_fewestFor 75 = .ok (.if_icmp .gt 10, 3) := by decide +kernel
theorem dX3_fewestFor_78 : decode cX3_fewestFor 78 = .ok (.aload_n 0, 1) := by decide +kernel
theorem dX3_fewestFor_79 : decode cX3_fewestFor 79 = .ok (.getfield 22, 3) := by decide +kernel
theorem dX3_fewestFor_82 : decode cX3_fewestFor 82 = .ok (.goto 5, 3) := by decide +kernel
theorem dX3_fewestFor_85 : decode cX3_fewestFor 85 = .ok (.bipush (-6), 2) := by decide +kernel
theorem dX3_fewestFor_87 : decode cX3_fewestFor 87 = .ok (.ireturn, 1) := by decide +kernel
theorem dX3_init_0 : decode cX3_init 0 = .ok (.aload_n 0, 1) := by decide +kernel
theorem dX3_init_1 : decode cX3_init 1 = .ok (.invokespecial 3, 3) := by decide +kernel
theorem dX3_init_4 : decode cX3_init 4 = .ok (.aload_n 0, 1) := by decide +kernel
theorem dX3_init_5 : decode cX3_init 5 = .ok (.bipush 8, 2) := by decide +kernel
theorem dX3_init_7 : decode cX3_init 7 = .ok (.newarray .int, 2) := by decide +kernel
theorem dX3_init_9 : decode cX3_init 9 = .ok (.putfield 9, 3) := by decide +kernel
theorem dX3_init_12 : decode cX3_init 12 = .ok (.aload_n 0, 1) := by decide +kernel
theorem dX3_init_13 : decode cX3_init 13 = .ok (.bipush 8, 2) := by decide +kernel
theorem dX3_init_15 : decode cX3_init 15 = .ok (.newarray .int, 2) := by decide +kernel
theorem dX3_init_17 : decode cX3_init 17 = .ok (.putfield 15, 3) := by decide +kernel
theorem dX3_init_20 : decode cX3_init 20 = .ok (.aload_n 0, 1) := by decide +kernel
theorem dX3_init_21 : decode cX3_init 21 = .ok (.iconst 0, 1) := by decide +kernel
theorem dX3_init_22 : decode cX3_init 22 = .ok (.putfield 18, 3) := by decide +kernel
theorem dX3_init_25 : decode cX3_init 25 = .ok (.aload_n 0, 1) := by decide +kernel
theorem dX3_init_26 : decode cX3_init 26 = .ok (.iconst 0, 1) := by decide +kernel
theorem dX3_init_27 : decode cX3_init 27 = .ok (.putfield 22, 3) := by decide +kernel
theorem dX3_init_30 : decode cX3_init 30 = .ok (.return_, 1) := by decide +kernel
theorem dX3_isEnough_0 : decode cX3_isEnough 0 = .ok (.iload_n 1, 1) := by decide +kernel
theorem dX3_isEnough_1 : decode cX3_isEnough 1 = .ok (.ifCond .lt 41, 3) := by decide +kernel
theorem dX3_isEnough_4 : decode cX3_isEnough 4 = .ok (.iload_n 1, 1) := by decide +kernel
theorem dX3_isEnough_5 : decode cX3_isEnough 5 = .ok (.bipush 8, 2) := by decide +kernel
theorem dX3_isEnough_7 : decode cX3_isEnough 7 = .ok (.if_icmp .ge 35, 3) := by decide +kernel
theorem dX3_isEnough_10 : decode cX3_isEnough 10 = .ok (.aload_n 0, 1) := by decide +kernel
theorem dX3_isEnough_11 : decode cX3_isEnough 11 = .ok (.getfield 9, 3) := by decide +kernel
theorem dX3_isEnough_14 : decode cX3_isEnough 14 = .ok (.iload_n 1, 1) := by decide +kernel
theorem dX3_isEnough_15 : decode cX3_isEnough 15 = .ok (.iaload, 1) := by decide +kernel
theorem dX3_isEnough_16 : decode cX3_isEnough 16 = .ok (.iconst 2, 1) := by decide +kernel
theorem dX3_isEnough_17 : decode cX3_isEnough 17 = .ok (.aload_n 0, 1) := by decide +kernel
theorem dX3_isEnough_18 : decode cX3_isEnough 18 = .ok (.iload_n 1, 1) := by decide +kernel
theorem dX3_isEnough_19 : decode cX3_isEnough 19 = .ok (.invokevirtual 39, 3) := by decide +kernel
theorem dX3_isEnough_22 : decode cX3_isEnough 22 = .ok (.imul, 1) := by decide +kernel
theorem dX3_isEnough_23 : decode cX3_isEnough 23 = .ok (.aload_n 0, 1) := by decide +kernel
theorem dX3_isEnough_24 : decode cX3_isEnough 24 = .ok (.iload_n 1, 1) := by decide +kernel
theorem dX3_isEnough_25 : decode cX3_isEnough 25 = .ok (.iconst 1, 1) := by decide +kernel
theorem dX3_isEnough_26 : decode cX3_isEnough 26 = .ok (.isub, 1) := by decide +kernel
theorem dX3_isEnough_27 : decode cX3_isEnough 27 = .ok (.invokevirtual 39, 3) := by decide +kernel
theorem dX3_isEnough_30 : decode cX3_isEnough 30 = .ok (.iadd, 1) := by decide +kernel
theorem dX3_isEnough_31 : decode cX3_isEnough 31 = .ok (.aload_n 0, 1) := by decide +kernel
theorem dX3_isEnough_32 : decode cX3_isEnough 32 = .ok (.iload_n 1, 1) := by decide +kernel
theorem dX3_isEnough_33 : decode cX3_isEnough 33 = .ok (.iconst 1, 1) := by decide +kernel
theorem dX3_isEnough_34 : decode cX3_isEnough 34 = .ok (.iadd, 1) := by decide +kernel
theorem dX3_isEnough_35 : decode cX3_isEnough 35 = .ok (.invokevirtual 39, 3) := by decide +kernel
theorem dX3_isEnough_38 : decode cX3_isEnough 38 = .ok (.iadd, 1) := by decide +kernel
theorem dX3_isEnough_39 : decode cX3_isEnough 39 = .ok (.if_icmp .gt 7, 3) := by decide +kernel
theorem dX3_isEnough_42 : decode cX3_isEnough 42 = .ok (.iconst 1, 1) := by decide +kernel
theorem dX3_isEnough_43 : decode cX3_isEnough 43 = .ok (.goto 4, 3) := by decide +kernel
theorem dX3_isEnough_46 : decode cX3_isEnough 46 = .ok (.iconst 0, 1) := by decide +kernel
theorem dX3_isEnough_47 : decode cX3_isEnough 47 = .ok (.ireturn, 1) := by decide +kernel
theorem dX3_spreadFrom_0 : decode cX3_spreadFrom 0 = .ok (.iload_n 1, 1) := by decide +kernel
theorem dX3_spreadFrom_1 : decode cX3_spreadFrom 1 = .ok (.ifCond .lt 17, 3) := by decide +kernel
theorem dX3_spreadFrom_4 : decode cX3_spreadFrom 4 = .ok (.iload_n 1, 1) := by decide +kernel
theorem dX3_spreadFrom_5 : decode cX3_spreadFrom 5 = .ok (.aload_n 0, 1) := by decide +kernel
theorem dX3_spreadFrom_6 : decode cX3_spreadFrom 6 = .ok (.getfield 18, 3) := by decide +kernel
theorem dX3_spreadFrom_9 : decode cX3_spreadFrom 9 = .ok (.if_icmp .ge 9, 3) := by decide +kernel
theorem dX3_spreadFrom_12 : decode cX3_spreadFrom 12 = .ok (.iload_n 1, 1) := by decide +kernel
theorem dX3_spreadFrom_13 : decode cX3_spreadFrom 13 = .ok (.bipush 8, 2) := by decide +kernel
theorem dX3_spreadFrom_15 : decode cX3_spreadFrom 15 = .ok (.if_icmp .lt 19, 3) := by decide +kernel
theorem dX3_spreadFrom_18 : decode cX3_spreadFrom 18 = .ok (.aload_n 0, 1) := by decide +kernel
theorem dX3_spreadFrom_19 : decode cX3_spreadFrom 19 = .ok (.iload_n 1, 1) := by decide +kernel
theorem dX3_spreadFrom_20 : decode cX3_spreadFrom 20 = .ok (.iconst 1, 1) := by decide +kernel
theorem dX3_spreadFrom_21 : decode cX3_spreadFrom 21 = .ok (.isub, 1) := by decide +kernel
theorem dX3_spreadFrom_22 : decode cX3_spreadFrom 22 = .ok (.invokevirtual 35, 3) := by decide +kernel
theorem dX3_spreadFrom_25 : decode cX3_spreadFrom 25 = .ok (.ifCond .eq 8, 3) := by decide +kernel
theorem dX3_spreadFrom_28 : decode cX3_spreadFrom 28 = .ok (.aload_n 0, 1) := by decide +kernel
theorem dX3_spreadFrom_29 : decode cX3_spreadFrom 29 = .ok (.iload_n 2, 1) := by decide +kernel
theorem dX3_spreadFrom_30 : decode cX3_spreadFrom 30 = .ok (.putfield 22, 3) := by decide +kernel
theorem dX3_spreadFrom_33 : decode cX3_spreadFrom 33 = .ok (.return_, 1) := by decide +kernel
theorem dX3_spreadFrom_34 : decode cX3_spreadFrom 34 = .ok (.iconst 0, 1) := by decide +kernel
theorem dX3_spreadFrom_35 : decode cX3_spreadFrom 35 = .ok (.istore_n 3, 1) := by decide +kernel
theorem dX3_spreadFrom_36 : decode cX3_spreadFrom 36 = .ok (.iload_n 3, 1) := by decide +kernel
theorem dX3_spreadFrom_37 : decode cX3_spreadFrom 37 = .ok (.iconst 5, 1) := by decide +kernel
theorem dX3_spreadFrom_38 : decode cX3_spreadFrom 38 = .ok (.if_icmp .gt 46, 3) := by decide +kernel
theorem dX3_spreadFrom_41 : decode cX3_spreadFrom 41 = .ok (.iload_n 2, 1) := by decide +kernel
theorem dX3_spreadFrom_42 : decode cX3_spreadFrom 42 = .ok (.iload_n 3, 1) := by decide +kernel
theorem dX3_spreadFrom_43 : decode cX3_spreadFrom 43 = .ok (.iadd, 1) := by decide +kernel
theorem dX3_spreadFrom_44 : decode cX3_spreadFrom 44 = .ok (.aload_n 0, 1) := by decide +kernel
theorem dX3_spreadFrom_45 : decode cX3_spreadFrom 45 = .ok (.getfield 22, 3) := by decide +kernel
theorem dX3_spreadFrom_48 : decode cX3_spreadFrom 48 = .ok (.if_icmp .ge 36, 3) := by decide +kernel
theorem dX3_spreadFrom_51 : decode cX3_spreadFrom 51 = .ok (.aload_n 0, 1) := by decide +kernel
theorem dX3_spreadFrom_52 : decode cX3_spreadFrom 52 = .ok (.getfield 15, 3) := by decide +kernel
theorem dX3_spreadFrom_55 : decode cX3_spreadFrom 55 = .ok (.iload_n 1, 1) := by decide +kernel
theorem dX3_spreadFrom_56 : decode cX3_spreadFrom 56 = .ok (.iload_n 3, 1) := by decide +kernel
theorem dX3_spreadFrom_57 : decode cX3_spreadFrom 57 = .ok (.iastore, 1) := by decide +kernel
theorem dX3_spreadFrom_58 : decode cX3_spreadFrom 58 = .ok (.aload_n 0, 1) := by decide +kernel
theorem dX3_spreadFrom_59 : decode cX3_spreadFrom 59 = .ok (.iload_n 1, 1) := by decide +kernel
theorem dX3_spreadFrom_60 : decode cX3_spreadFrom 60 = .ok (.iconst 1, 1) := by decide +kernel
theorem dX3_spreadFrom_61 : decode cX3_spreadFrom 61 = .ok (.isub, 1) := by decide +kernel
theorem dX3_spreadFrom_62 : decode cX3_spreadFrom 62 = .ok (.invokevirtual 35, 3) := by decide +kernel
theorem dX3_spreadFrom_65 : decode cX3_spreadFrom 65 = .ok (.ifCond .eq 13, 3) := by decide +kernel
theorem dX3_spreadFrom_68 : decode cX3_spreadFrom 68 = .ok (.aload_n 0, 1) := by decide +kernel
theorem dX3_spreadFrom_69 : decode cX3_spreadFrom 69 = .ok (.iload_n 1, 1) := by decide +kernel
theorem dX3_spreadFrom_70 : decode cX3_spreadFrom 70 = .ok (.iconst 1, 1) := by decide +kernel
theorem dX3_spreadFrom_71 : decode cX3_spreadFrom 71 = .ok (.iadd, 1) := by decide +kernel
theorem dX3_spreadFrom_72 : decode cX3_spreadFrom 72 = .ok (.iload_n 2, 1) := by decide +kernel
theorem dX3_spreadFrom_73 : decode cX3_spreadFrom 73 = .ok (.iload_n 3, 1) := by decide +kernel
theorem dX3_spreadFrom_74 : decode cX3_spreadFrom 74 = .ok (.iadd, 1) := by decide +kernel
theorem dX3_spreadFrom_75 : decode cX3_spreadFrom 75 = .ok (.invokestatic 31, 3) := by decide +kernel
theorem dX3_spreadFrom_78 : decode cX3_spreadFrom 78 = .ok (.iinc 3 1, 3) := by decide +kernel
theorem dX3_spreadFrom_81 : decode cX3_spreadFrom 81 = .ok (.goto (-45), 3) := by decide +kernel
theorem dX3_spreadFrom_84 : decode cX3_spreadFrom 84 = .ok (.aload_n 0, 1) := by decide +kernel
theorem dX3_spreadFrom_85 : decode cX3_spreadFrom 85 = .ok (.getfield 15, 3) := by decide +kernel
theorem dX3_spreadFrom_88 : decode cX3_spreadFrom 88 = .ok (.iload_n 1, 1) := by decide +kernel
theorem dX3_spreadFrom_89 : decode cX3_spreadFrom 89 = .ok (.iconst 0, 1) := by decide +kernel
theorem dX3_spreadFrom_90 : decode cX3_spreadFrom 90 = .ok (.iastore, 1) := by decide +kernel
theorem dX3_spreadFrom_91 : decode cX3_spreadFrom 91 = .ok (.return_, 1) := by decide +kernel
theorem dX3_spreadsIn_0 : decode cX3_spreadsIn 0 = .ok (.iload_n 1, 1) := by decide +kernel
theorem dX3_spreadsIn_1 : decode cX3_spreadsIn 1 = .ok (.ifCond .lt 26, 3) := by decide +kernel
theorem dX3_spreadsIn_4 : decode cX3_spreadsIn 4 = .ok (.iload_n 1, 1) := by decide +kernel
theorem dX3_spreadsIn_5 : decode cX3_spreadsIn 5 = .ok (.aload_n 0, 1) := by decide +kernel
theorem dX3_spreadsIn_6 : decode cX3_spreadsIn 6 = .ok (.getfield 18, 3) := by decide +kernel
theorem dX3_spreadsIn_9 : decode cX3_spreadsIn 9 = .ok (.if_icmp .ge 18, 3) := by decide +kernel
theorem dX3_spreadsIn_12 : decode cX3_spreadsIn 12 = .ok (.iload_n 1, 1) := by decide +kernel
theorem dX3_spreadsIn_13 : decode cX3_spreadsIn 13 = .ok (.bipush 8, 2) := by decide +kernel
theorem dX3_spreadsIn_15 : decode cX3_spreadsIn 15 = .ok (.if_icmp .ge 12, 3) := by decide +kernel
theorem dX3_spreadsIn_18 : decode cX3_spreadsIn 18 = .ok (.aload_n 0, 1) := by decide +kernel
theorem dX3_spreadsIn_19 : decode cX3_spreadsIn 19 = .ok (.getfield 15, 3) := by decide +kernel
theorem dX3_spreadsIn_22 : decode cX3_spreadsIn 22 = .ok (.iload_n 1, 1) := by decide +kernel
theorem dX3_spreadsIn_23 : decode cX3_spreadsIn 23 = .ok (.iaload, 1) := by decide +kernel
theorem dX3_spreadsIn_24 : decode cX3_spreadsIn 24 = .ok (.goto 4, 3) := by decide +kernel
theorem dX3_spreadsIn_27 : decode cX3_spreadsIn 27 = .ok (.iconst 0, 1) := by decide +kernel
theorem dX3_spreadsIn_28 : decode cX3_spreadsIn 28 = .ok (.ireturn, 1) := by decide +kernel
theorem dX4_bears_0 : decode cX4_bears 0 = .ok (.aload_n 0, 1) := by decide +kernel
theorem dX4_bears_1 : decode cX4_bears 1 = .ok (.iload_n 1, 1) := by decide +kernel
theorem dX4_bears_2 : decode cX4_bears 2 = .ok (.invokevirtual 71, 3) := by decide +kernel
theorem dX4_bears_5 : decode cX4_bears 5 = .ok (.ifCond .eq 42, 3) := by decide +kernel
theorem dX4_bears_8 : decode cX4_bears 8 = .ok (.aload_n 0, 1) := by decide +kernel
theorem dX4_bears_9 : decode cX4_bears 9 = .ok (.getfield 47, 3) := by decide +kernel
theorem dX4_bears_12 : decode cX4_bears 12 = .ok (.iload_n 1, 1) := by decide +kernel
theorem dX4_bears_13 : decode cX4_bears 13 = .ok (.ishr, 1) := by decide +kernel
theorem dX4_bears_14 : decode cX4_bears 14 = .ok (.iconst 1, 1) := by decide +kernel
theorem dX4_bears_15 : decode cX4_bears 15 = .ok (.iand, 1) := by decide +kernel
theorem dX4_bears_16 : decode cX4_bears 16 = .ok (.ifCond .ne 31, 3) := by decide +kernel
theorem dX4_bears_19 : decode cX4_bears 19 = .ok (.aload_n 0, 1) := by decide +kernel
theorem dX4_bears_20 : decode cX4_bears 20 = .ok (.getfield 9, 3) := by decide +kernel
theorem dX4_bears_23 : decode cX4_bears 23 = .ok (.iload_n 1, 1) := by decide +kernel
theorem dX4_bears_24 : decode cX4_bears 24 = .ok (.iaload, 1) := by decide +kernel
theorem dX4_bears_25 : decode cX4_bears 25 = .ok (.iload_n 2, 1) := by decide +kernel
theorem dX4_bears_26 : decode cX4_bears 26 = .ok (.aload_n 0, 1) := by decide +kernel
theorem dX4_bears_27 : decode cX4_bears 27 = .ok (.getfield 18, 3) := by decide +kernel
theorem dX4_bears_30 : decode cX4_bears 30 = .ok (.iconst 1, 1) := by decide +kernel
theorem dX4_bears_31 : decode cX4_bears 31 = .ok (.iaload, 1) := by decide +kernel
theorem dX4_bears_32 : decode cX4_bears 32 = .ok (.imul, 1) := by decide +kernel
theorem dX4_bears_33 : decode cX4_bears 33 = .ok (.iadd, 1) := by decide +kernel
theorem dX4_bears_34 : decode cX4_bears 34 = .ok (.aload_n 0, 1) := by decide +kernel
theorem dX4_bears_35 : decode cX4_bears 35 = .ok (.getfield 15, 3) := by decide +kernel
theorem dX4_bears_38 : decode cX4_bears 38 = .ok (.iload_n 1, 1) := by decide +kernel
theorem dX4_bears_39 : decode cX4_bears 39 = .ok (.iaload, 1) := by decide +kernel
theorem dX4_bears_40 : decode cX4_bears 40 = .ok (.if_icmp .gt 7, 3) := by decide +kernel
theorem dX4_bears_43 : decode cX4_bears 43 = .ok (.iconst 1, 1) := by decide +kernel
theorem dX4_bears_44 : decode cX4_bears 44 = .ok (.goto 4, 3) := by decide +kernel
theorem dX4_bears_47 : decode cX4_bears 47 = .ok (.iconst 0, 1) := by decide +kernel
theorem dX4_bears_48 : decode cX4_bears 48 = .ok (.ireturn, 1) := by decide +kernel
theorem dX4_bearsWord_0 : decode cX4_bearsWord 0 = .ok (.aload_n 0, 1) := by decide +kernel
theorem dX4_bearsWord_1 : decode cX4_bearsWord 1 = .ok (.iload_n 1, 1) := by decide +kernel
theorem dX4_bearsWord_2 : decode cX4_bearsWord 2 = .ok (.iload_n 2, 1) := by decide +kernel
theorem dX4_bearsWord_3 : decode cX4_bearsWord 3 = .ok (.iload_n 3, 1) := by decide +kernel
theorem dX4_bearsWord_4 : decode cX4_bearsWord 4 = .ok (.invokevirtual 105, 3) := by decide +kernel
theorem dX4_bearsWord_7 : decode cX4_bearsWord 7 = .ok (.ifCond .eq 5, 3) := by decide +kernel
theorem dX4_bearsWord_10 : decode cX4_bearsWord 10 = .ok (.iconst 0, 1) := by decide +kernel
theorem dX4_bearsWord_11 : decode cX4_bearsWord 11 = .ok (.ireturn, 1) := by decide +kernel
theorem dX4_bearsWord_12 : decode cX4_bearsWord 12 = .ok (.aload_n 0, 1) := by decide +kernel
theorem dX4_bearsWord_13 : decode cX4_bearsWord 13 = .ok (.iload_n 1, 1) := by decide +kernel
theorem dX4_bearsWord_14 : decode cX4_bearsWord 14 = .ok (.iload_n 2, 1) := by decide +kernel
theorem dX4_bearsWord_15 : decode cX4_bearsWord 15 = .ok (.iload_n 3, 1) := by decide +kernel
theorem dX4_bearsWord_16 : decode cX4_bearsWord 16 = .ok (.invokevirtual 108, 3) := by decide +kernel
theorem dX4_bearsWord_19 : decode cX4_bearsWord 19 = .ok (.aload_n 0, 1) := by decide +kernel
theorem dX4_bearsWord_20 : decode cX4_bearsWord 20 = .ok (.invokevirtual 111, 3) := by decide +kernel
theorem dX4_bearsWord_23 : decode cX4_bearsWord 23 = .ok (.ifCond .ne 7, 3) := by decide +kernel
theorem dX4_bearsWord_26 : decode cX4_bearsWord 26 = .ok (.iconst 1, 1) := by decide +kernel
theorem dX4_bearsWord_27 : decode cX4_bearsWord 27 = .ok (.goto 4, 3) := by decide +kernel
theorem dX4_bearsWord_30 : decode cX4_bearsWord 30 = .ok (.iconst 0, 1) := by decide +kernel
theorem dX4_bearsWord_31 : decode cX4_bearsWord 31 = .ok (.ireturn, 1) := by decide +kernel
theorem dX4_begin_0 : decode cX4_begin 0 = .ok (.aload_n 0, 1) := by decide +kernel
theorem dX4_begin_1 : decode cX4_begin 1 = .ok (.iload_n 1, 1) := by decide +kernel
theorem dX4_begin_2 : decode cX4_begin 2 = .ok (.putfield 37, 3) := by decide +kernel
theorem dX4_begin_5 : decode cX4_begin 5 = .ok (.aload_n 0, 1) := by decide +kernel
theorem dX4_begin_6 : decode cX4_begin 6 = .ok (.getfield 15, 3) := by decide +kernel
theorem dX4_begin_9 : decode cX4_begin 9 = .ok (.bipush 20, 2) := by decide +kernel
theorem dX4_begin_11 : decode cX4_begin 11 = .ok (.invokestatic 41, 3) := by decide +kernel
theorem dX4_begin_14 : decode cX4_begin 14 = .ok (.aload_n 0, 1) := by decide +kernel
theorem dX4_begin_15 : decode cX4_begin 15 = .ok (.iconst 0, 1) := by decide +kernel
theorem dX4_begin_16 : decode cX4_begin 16 = .ok (.putfield 47, 3) := by decide +kernel
theorem dX4_begin_19 : decode cX4_begin 19 = .ok (.aload_n 0, 1) := by decide +kernel
theorem dX4_begin_20 : decode cX4_begin 20 = .ok (.iconst 0, 1) := by decide +kernel
theorem dX4_begin_21 : decode cX4_begin 21 = .ok (.putfield 50, 3) := by decide +kernel
theorem dX4_begin_24 : decode cX4_begin 24 = .ok (.aload_n 0, 1) := by decide +kernel
theorem dX4_begin_25 : decode cX4_begin 25 = .ok (.iconst 0, 1) := by decide +kernel
theorem dX4_begin_26 : decode cX4_begin 26 = .ok (.putfield 53, 3) := by decide +kernel
theorem dX4_begin_29 : decode cX4_begin 29 = .ok (.aload_n 0, 1) := by decide +kernel
theorem dX4_begin_30 : decode cX4_begin 30 = .ok (.invokevirtual 56, 3) := by decide +kernel
theorem dX4_begin_33 : decode cX4_begin 33 = .ok (.return_, 1) := by decide +kernel
theorem dX4_clearSnow_0 : decode cX4_clearSnow 0 = .ok (.aload_n 0, 1) := by decide +kernel
theorem dX4_clearSnow_1 : decode cX4_clearSnow 1 = .ok (.getfield 9, 3) := by decide +kernel
theorem dX4_clearSnow_4 : decode cX4_clearSnow 4 = .ok (.iconst 0, 1) := by decide +kernel
theorem dX4_clearSnow_5 : decode cX4_clearSnow 5 = .ok (.invokestatic 41, 3) := by decide +kernel
theorem dX4_clearSnow_8 : decode cX4_clearSnow 8 = .ok (.aload_n 0, 1) := by decide +kernel
theorem dX4_clearSnow_9 : decode cX4_clearSnow 9 = .ok (.invokevirtual 59, 3) := by decide +kernel
theorem dX4_clearSnow_12 : decode cX4_clearSnow 12 = .ok (.return_, 1) := by decide +kernel
theorem dX4_copy_0 : decode cX4_copy 0 = .ok (.aload_n 1, 1) := by decide +kernel
theorem dX4_copy_1 : decode cX4_copy 1 = .ok (.ifnonnull 4, 3) := by decide +kernel
theorem dX4_copy_4 : decode cX4_copy 4 = .ok (.return_, 1) := by decide +kernel
theorem dX4_copy_5 : decode cX4_copy 5 = .ok (.aload_n 0, 1) := by decide +kernel
theorem dX4_copy_6 : decode cX4_copy 6 = .ok (.aload_n 1, 1) := by decide +kernel
theorem dX4_copy_7 : decode cX4_copy 7 = .ok (.getfield 37, 3) := by decide +kernel
theorem dX4_copy_10 : decode cX4_copy 10 = .ok (.putfield 37, 3) := by decide +kernel
theorem dX4_copy_13 : decode cX4_copy 13 = .ok (.aload_n 1, 1) := by decide +kernel
theorem dX4_copy_14 : decode cX4_copy 14 = .ok (.getfield 9, 3) := by decide +kernel
theorem dX4_copy_17 : decode cX4_copy 17 = .ok (.iconst 0, 1) := by decide +kernel
theorem dX4_copy_18 : decode cX4_copy 18 = .ok (.aload_n 0, 1) := by decide +kernel
theorem dX4_copy_19 : decode cX4_copy 19 = .ok (.getfield 9, 3) := by decide +kernel
theorem dX4_copy_22 : decode cX4_copy 22 = .ok (.iconst 0, 1) := by decide +kernel
theorem dX4_copy_23 : decode cX4_copy 23 = .ok (.aload_n 0, 1) := by decide +kernel
theorem dX4_copy_24 : decode cX4_copy 24 = .ok (.getfield 9, 3) := by decide +kernel
theorem dX4_copy_27 : decode cX4_copy 27 = .ok (.arraylength, 1) := by decide +kernel
theorem dX4_copy_28 : decode cX4_copy 28 = .ok (.invokestatic 65, 3) := by decide +kernel
theorem dX4_copy_31 : decode cX4_copy 31 = .ok (.aload_n 1, 1) := by decide +kernel
theorem dX4_copy_32 : decode cX4_copy 32 = .ok (.getfield 15, 3) := by decide +kernel
theorem dX4_copy_35 : decode cX4_copy 35 = .ok (.iconst 0, 1) := by decide +kernel
theorem dX4_copy_36 : decode cX4_copy 36 = .ok (.aload_n 0, 1) := by decide +kernel
theorem dX4_copy_37 : decode cX4_copy 37 = .ok (.getfield 15, 3) := by decide +kernel
theorem dX4_copy_40 : decode cX4_copy 40 = .ok (.iconst 0, 1) := by decide +kernel
theorem dX4_copy_41 : decode cX4_copy 41 = .ok (.aload_n 0, 1) := by decide +kernel
theorem dX4_copy_42 : decode cX4_copy 42 = .ok (.getfield 15, 3) := by decide +kernel
theorem dX4_copy_45 : decode cX4_copy 45 = .ok (.arraylength, 1) := by decide +kernel
theorem dX4_copy_46 : decode cX4_copy 46 = .ok (.invokestatic 65, 3) := by decide +kernel
theorem dX4_copy_49 : decode cX4_copy 49 = .ok (.aload_n 0, 1) := by decide +kernel
theorem dX4_copy_50 : decode cX4_copy 50 = .ok (.aload_n 1, 1) := by decide +kernel
theorem dX4_copy_51 : decode cX4_copy 51 = .ok (.getfield 47, 3) := by decide +kernel
theorem dX4_copy_54 : decode cX4_copy 54 = .ok (.putfield 47, 3) := by decide +kernel
theorem dX4_copy_57 : decode cX4_copy 57 = .ok (.aload_n 0, 1) := by decide +kernel
theorem dX4_copy_58 : decode cX4_copy 58 = .ok (.aload_n 1, 1) := by decide +kernel
theorem dX4_copy_59 : decode cX4_copy 59 = .ok (.getfield 50, 3) := by decide +kernel
theorem dX4_copy_62 : decode cX4_copy 62 = .ok (.putfield 50, 3) := by decide +kernel
theorem dX4_copy_65 : decode cX4_copy 65 = .ok (.aload_n 1, 1) := by decide +kernel
theorem dX4_copy_66 : decode cX4_copy 66 = .ok (.getfield 18, 3) := by decide +kernel
theorem dX4_copy_69 : decode cX4_copy 69 = .ok (.iconst 0, 1) := by decide +kernel
theorem dX4_copy_70 : decode cX4_copy 70 = .ok (.aload_n 0, 1) := by decide +kernel
theorem dX4_copy_71 : decode cX4_copy 71 = .ok (.getfield 18, 3) := by decide +kernel
theorem dX4_copy_74 : decode cX4_copy 74 = .ok (.iconst 0, 1) := by decide +kernel
theorem dX4_copy_75 : decode cX4_copy 75 = .ok (.aload_n 0, 1) := by decide +kernel
theorem dX4_copy_76 : decode cX4_copy 76 = .ok (.getfield 18, 3) := by decide +kernel
theorem dX4_copy_79 : decode cX4_copy 79 = .ok (.arraylength, 1) := by decide +kernel
theorem dX4_copy_80 : decode cX4_copy 80 = .ok (.invokestatic 65, 3) := by decide +kernel
theorem dX4_copy_83 : decode cX4_copy 83 = .ok (.aload_n 1, 1) := by decide +kernel
theorem dX4_copy_84 : decode cX4_copy 84 = .ok (.getfield 21, 3) := by decide +kernel
theorem dX4_copy_87 : decode cX4_copy 87 = .ok (.iconst 0, 1) := by decide +kernel
theorem dX4_copy_88 : decode cX4_copy 88 = .ok (.aload_n 0, 1) := by decide +kernel
theorem dX4_copy_89 : decode cX4_copy 89 = .ok (.getfield 21, 3) := by decide +kernel
theorem dX4_copy_92 : decode cX4_copy 92 = .ok (.iconst 0, 1) := by decide +kernel
theorem dX4_copy_93 : decode cX4_copy 93 = .ok (.aload_n 0, 1) := by decide +kernel
theorem dX4_copy_94 : decode cX4_copy 94 = .ok (.getfield 21, 3) := by decide +kernel
theorem dX4_copy_97 : decode cX4_copy 97 = .ok (.arraylength, 1) := by decide +kernel
theorem dX4_copy_98 : decode cX4_copy 98 = .ok (.invokestatic 65, 3) := by decide +kernel
theorem dX4_copy_101 : decode cX4_copy 101 = .ok (.aload_n 1, 1) := by decide +kernel
theorem dX4_copy_102 : decode cX4_copy 102 = .ok (.getfield 24, 3) := by decide +kernel
theorem dX4_copy_105 : decode cX4_copy 105 = .ok (.iconst 0, 1) := by decide +kernel
theorem dX4_copy_106 : decode cX4_copy 106 = .ok (.aload_n 0, 1) := by decide +kernel
theorem dX4_copy_107 : decode cX4_copy 107 = .ok (.getfield 24, 3) := by decide +kernel
theorem dX4_copy_110 : decode cX4_copy 110 = .ok (.iconst 0, 1) := by decide +kernel
theorem dX4_copy_111 : decode cX4_copy 111 = .ok (.aload_n 0, 1) := by decide +kernel
theorem dX4_copy_112 : decode cX4_copy 112 = .ok (.getfield 24, 3) := by decide +kernel
theorem dX4_copy_115 : decode cX4_copy 115 = .ok (.arraylength, 1) := by decide +kernel
theorem dX4_copy_116 : decode cX4_copy 116 = .ok (.invokestatic 65, 3) := by decide +kernel
theorem dX4_copy_119 : decode cX4_copy 119 = .ok (.aload_n 0, 1) := by decide +kernel
theorem dX4_copy_120 : decode cX4_copy 120 = .ok (.aload_n 1, 1) := by decide +kernel
theorem dX4_copy_121 : decode cX4_copy 121 = .ok (.getfield 53, 3) := by decide +kernel
theorem dX4_copy_124 : decode cX4_copy 124 = .ok (.putfield 53, 3) := by decide +kernel
theorem dX4_copy_127 : decode cX4_copy 127 = .ok (.aload_n 1, 1) := by decide +kernel
theorem dX4_copy_128 : decode cX4_copy 128 = .ok (.getfield 27, 3) := by decide +kernel
theorem dX4_copy_131 : decode cX4_copy 131 = .ok (.iconst 0, 1) := by decide +kernel
theorem dX4_copy_132 : decode cX4_copy 132 = .ok (.aload_n 0, 1) := by decide +kernel
theorem dX4_copy_133 : decode cX4_copy 133 = .ok (.getfield 27, 3) := by decide +kernel
theorem dX4_copy_136 : decode cX4_copy 136 = .ok (.iconst 0, 1) := by decide +kernel
theorem dX4_copy_137 : decode cX4_copy 137 = .ok (.aload_n 0, 1) := by decide +kernel
theorem dX4_copy_138 : decode cX4_copy 138 = .ok (.getfield 27, 3) := by decide +kernel
theorem dX4_copy_141 : decode cX4_copy 141 = .ok (.arraylength, 1) := by decide +kernel
theorem dX4_copy_142 : decode cX4_copy 142 = .ok (.invokestatic 65, 3) := by decide +kernel
theorem dX4_copy_145 : decode cX4_copy 145 = .ok (.aload_n 1, 1) := by decide +kernel
theorem dX4_copy_146 : decode cX4_copy 146 = .ok (.getfield 30, 3) := by decide +kernel
theorem dX4_copy_149 : decode cX4_copy 149 = .ok (.iconst 0, 1) := by decide +kernel
theorem dX4_copy_150 : decode cX4_copy 150 = .ok (.aload_n 0, 1) := by decide +kernel
theorem dX4_copy_151 : decode cX4_copy 151 = .ok (.getfield 30, 3) := by decide +kernel
theorem dX4_copy_154 : decode cX4_copy 154 = .ok (.iconst 0, 1) := by decide +kernel
theorem dX4_copy_155 : decode cX4_copy 155 = .ok (.aload_n 0, 1) := by decide +kernel
theorem dX4_copy_156 : decode cX4_copy 156 = .ok (.getfield 30, 3) := by decide +kernel
theorem dX4_copy_159 : decode cX4_copy 159 = .ok (.arraylength, 1) := by decide +kernel
theorem dX4_copy_160 : decode cX4_copy 160 = .ok (.invokestatic 65, 3) := by decide +kernel
theorem dX4_copy_163 : decode cX4_copy 163 = .ok (.return_, 1) := by decide +kernel
theorem dX4_deepTogether_0 : decode cX4_deepTogether 0 = .ok (.iconst 0, 1) := by decide +kernel
theorem dX4_deepTogether_1 : decode cX4_deepTogether 1 = .ok (.istore_n 1, 1) := by decide +kernel
theorem dX4_deepTogether_2 : decode cX4_deepTogether 2 = .ok (.iconst 0, 1) := by decide +kernel
theorem dX4_deepTogether_3 : decode cX4_deepTogether 3 = .ok (.istore_n 2, 1) := by decide +kernel
theorem dX4_deepTogether_4 : decode cX4_deepTogether 4 = .ok (.iload_n 2, 1) := by decide +kernel
theorem dX4_deepTogether_5 : decode cX4_deepTogether 5 = .ok (.aload_n 0, 1) := by decide +kernel
theorem dX4_deepTogether_6 : decode cX4_deepTogether 6 = .ok (.getfield 37, 3) := by decide +kernel
theorem dX4_deepTogether_9 : decode cX4_deepTogether 9 = .ok (.if_icmp .ge 24, 3) := by decide +kernel
theorem dX4_deepTogether_12 : decode cX4_deepTogether 12 = .ok (.iload_n 2, 1) := by decide +kernel
theorem dX4_deepTogether_13 : decode cX4_deepTogether 13 = .ok (.bipush 8, 2) := by decide +kernel
theorem dX4_deepTogether_15 : decode cX4_deepTogether 15 = .ok (.if_icmp .ge 18, 3) := by decide +kernel
theorem dX4_deepTogether_18 : decode cX4_deepTogether 18 = .ok (.iload_n 1, 1) := by decide +kernel
theorem dX4_deepTogether_19 : decode cX4_deepTogether 19 = .ok (.aload_n 0, 1) := by decide +kernel
theorem dX4_deepTogether_20 : decode cX4_deepTogether 20 = .ok (.getfield 9, 3) := by decide +kernel
theorem dX4_deepTogether_23 : decode cX4_deepTogether 23 = .ok (.iload_n 2, 1) := by decide +kernel
theorem dX4_deepTogether_24 : decode cX4_deepTogether 24 = .ok (.iaload, 1) := by decide +kernel
theorem dX4_deepTogether_25 : decode cX4_deepTogether 25 = .ok (.iadd, 1) := by decide +kernel
theorem dX4_deepTogether_26 : decode cX4_deepTogether 26 = .ok (.istore_n 1, 1) := by decide +kernel
theorem dX4_deepTogether_27 : decode cX4_deepTogether 27 = .ok (.iinc 2 1, 3) := by decide +kernel
theorem dX4_deepTogether_30 : decode cX4_deepTogether 30 = .ok (.goto (-26), 3) := by decide +kernel
theorem dX4_deepTogether_33 : decode cX4_deepTogether 33 = .ok (.iload_n 1, 1) := by decide +kernel
theorem dX4_deepTogether_34 : decode cX4_deepTogether 34 = .ok (.ireturn, 1) := by decide +kernel
theorem dX4_draw_0 : decode cX4_draw 0 = .ok (.aload_n 0, 1) := by decide +kernel
theorem dX4_draw_1 : decode cX4_draw 1 = .ok (.getfield 37, 3) := by decide +kernel
theorem dX4_draw_4 : decode cX4_draw 4 = .ok (.iconst 1, 1) := by decide +kernel
theorem dX4_draw_5 : decode cX4_draw 5 = .ok (.if_icmp .ge 4, 3) := by decide +kernel
theorem dX4_draw_8 : decode cX4_draw 8 = .ok (.return_, 1) := by decide +kernel
theorem dX4_draw_9 : decode cX4_draw 9 = .ok (.iload_n 1, 1) := by decide +kernel
theorem dX4_draw_10 : decode cX4_draw 10 = .ok (.bipush 8, 2) := by decide +kernel
theorem dX4_draw_12 : decode cX4_draw 12 = .ok (.idiv, 1) := by decide +kernel
theorem dX4_draw_13 : decode cX4_draw 13 = .ok (.aload_n 0, 1) := by decide +kernel
theorem dX4_draw_14 : decode cX4_draw 14 = .ok (.getfield 37, 3) := by decide +kernel
theorem dX4_draw_17 : decode cX4_draw 17 = .ok (.irem, 1) := by decide +kernel
theorem dX4_draw_18 : decode cX4_draw 18 = .ok (.istore_n 2, 1) := by decide +kernel
theorem dX4_draw_19 : decode cX4_draw 19 = .ok (.iload_n 1, 1) := by decide +kernel
theorem dX4_draw_20 : decode cX4_draw 20 = .ok (.bipush 64, 2) := by decide +kernel
theorem dX4_draw_22 : decode cX4_draw 22 = .ok (.idiv, 1) := by decide +kernel
theorem dX4_draw_23 : decode cX4_draw 23 = .ok (.aload_n 0, 1) := by decide +kernel
theorem dX4_draw_24 : decode cX4_draw 24 = .ok (.getfield 37, 3) := by decide +kernel
theorem dX4_draw_27 : decode cX4_draw 27 = .ok (.irem, 1) := by decide +kernel
theorem dX4_draw_28 : decode cX4_draw 28 = .ok (.istore_n 3, 1) := by decide +kernel
theorem dX4_draw_29 : decode cX4_draw 29 = .ok (.iload_n 1, 1) := by decide +kernel
theorem dX4_draw_30 : decode cX4_draw 30 = .ok (.bipush 8, 2) := by decide +kernel
theorem dX4_draw_32 : decode cX4_draw 32 = .ok (.irem, 1) := by decide +kernel
theorem dX4_draw_33 : decode cX4_draw 33 = .ok (.tableswitch 79 0 4 #[35, 46, 57, 68, 68], 35) := by decide +kernel
theorem dX4_draw_68 : decode cX4_draw 68 = .ok (.aload_n 0, 1) := by decide +kernel
theorem dX4_draw_69 : decode cX4_draw 69 = .ok (.iconst 4, 1) := by decide +kernel
theorem dX4_draw_70 : decode cX4_draw 70 = .ok (.iconst 0, 1) := by decide +kernel
theorem dX4_draw_71 : decode cX4_draw 71 = .ok (.iconst 0, 1) := by decide +kernel
theorem dX4_draw_72 : decode cX4_draw 72 = .ok (.invokevirtual 115, 3) := by decide +kernel
theorem dX4_draw_75 : decode cX4_draw 75 = .ok (.pop, 1) := by decide +kernel
theorem dX4_draw_76 : decode cX4_draw 76 = .ok (.goto 44, 3) := by decide +kernel
theorem dX4_draw_79 : decode cX4_draw 79 = .ok (.aload_n 0, 1) := by decide +kernel
theorem dX4_draw_80 : decode cX4_draw 80 = .ok (.iconst 5, 1) := by decide +kernel
theorem dX4_draw_81 : decode cX4_draw 81 = .ok (.iconst 0, 1) := by decide +kernel
theorem dX4_draw_82 : decode cX4_draw 82 = .ok (.iconst 0, 1) := by decide +kernel
theorem dX4_draw_83 : decode cX4_draw 83 = .ok (.invokevirtual 115, 3) := by decide +kernel
theorem dX4_draw_86 : decode cX4_draw 86 = .ok (.pop, 1) := by decide +kernel
theorem dX4_draw_87 : decode cX4_draw 87 = .ok (.goto 33, 3) := by decide +kernel
theorem dX4_draw_90 : decode cX4_draw 90 = .ok (.aload_n 0, 1) := by decide +kernel
theorem dX4_draw_91 : decode cX4_draw 91 = .ok (.iconst 2, 1) := by decide +kernel
theorem dX4_draw_92 : decode cX4_draw 92 = .ok (.iload_n 2, 1) := by decide +kernel
theorem dX4_draw_93 : decode cX4_draw 93 = .ok (.iload_n 3, 1) := by decide +kernel
theorem dX4_draw_94 : decode cX4_draw 94 = .ok (.invokevirtual 115, 3) := by decide +kernel
theorem dX4_draw_97 : decode cX4_draw 97 = .ok (.pop, 1) := by decide +kernel
theorem dX4_draw_98 : decode cX4_draw 98 = .ok (.goto 22, 3) := by decide +kernel
theorem dX4_draw_101 : decode cX4_draw 101 = .ok (.aload_n 0, 1) := by decide +kernel
theorem dX4_draw_102 : decode cX4_draw 102 = .ok (.iconst 0, 1) := by decide +kernel
theorem dX4_draw_103 : decode cX4_draw 103 = .ok (.iload_n 2, 1) := by decide +kernel
theorem dX4_draw_104 : decode cX4_draw 104 = .ok (.iload_n 3, 1) := by decide +kernel
theorem dX4_draw_105 : decode cX4_draw 105 = .ok (.invokevirtual 115, 3) := by decide +kernel
theorem dX4_draw_108 : decode cX4_draw 108 = .ok (.pop, 1) := by decide +kernel
theorem dX4_draw_109 : decode cX4_draw 109 = .ok (.goto 11, 3) := by decide +kernel
theorem dX4_draw_112 : decode cX4_draw 112 = .ok (.aload_n 0, 1) := by decide +kernel
theorem dX4_draw_113 : decode cX4_draw 113 = .ok (.iconst 1, 1) := by decide +kernel
theorem dX4_draw_114 : decode cX4_draw 114 = .ok (.iload_n 2, 1) := by decide +kernel
theorem dX4_draw_115 : decode cX4_draw 115 = .ok (.iload_n 3, 1) := by decide +kernel
theorem dX4_draw_116 : decode cX4_draw 116 = .ok (.invokevirtual 115, 3) := by decide +kernel
theorem dX4_draw_119 : decode cX4_draw 119 = .ok (.pop, 1) := by decide +kernel
theorem dX4_draw_120 : decode cX4_draw 120 = .ok (.return_, 1) := by decide +kernel
theorem dX4_fall_0 : decode cX4_fall 0 = .ok (.aload_n 0, 1) := by decide +kernel
theorem dX4_fall_1 : decode cX4_fall 1 = .ok (.iload_n 2, 1) := by decide +kernel
theorem dX4_fall_2 : decode cX4_fall 2 = .ok (.invokevirtual 71, 3) := by decide +kernel
theorem dX4_fall_5 : decode cX4_fall 5 = .ok (.ifCond .eq 11, 3) := by decide +kernel
theorem dX4_fall_8 : decode cX4_fall 8 = .ok (.aload_n 0, 1) := by decide +kernel
theorem dX4_fall_9 : decode cX4_fall 9 = .ok (.iload_n 3, 1) := by decide +kernel
theorem dX4_fall_10 : decode cX4_fall 10 = .ok (.invokevirtual 71, 3) := by decide +kernel
theorem dX4_fall_13 : decode cX4_fall 13 = .ok (.ifCond .ne 4, 3) := by decide +kernel
theorem dX4_fall_16 : decode cX4_fall 16 = .ok (.return_, 1) := by decide +kernel
theorem dX4_fall_17 : decode cX4_fall 17 = .ok (.aload_n 0, 1) := by decide +kernel
theorem dX4_fall_18 : decode cX4_fall 18 = .ok (.iload_n 1, 1) := by decide +kernel
theorem dX4_fall_19 : decode cX4_fall 19 = .ok (.iload_n 2, 1) := by decide +kernel
theorem dX4_fall_20 : decode cX4_fall 20 = .ok (.iload_n 3, 1) := by decide +kernel
theorem dX4_fall_21 : decode cX4_fall 21 = .ok (.invokevirtual 78, 3) := by decide +kernel
theorem dX4_fall_24 : decode cX4_fall 24 = .ok (.istore 4, 2) := by decide +kernel
theorem dX4_fall_26 : decode cX4_fall 26 = .ok (.aload_n 0, 1) := by decide +kernel
theorem dX4_fall_27 : decode cX4_fall 27 = .ok (.getfield 9, 3) := by decide +kernel
theorem dX4_fall_30 : decode cX4_fall 30 = .ok (.iload_n 2, 1) := by decide +kernel
theorem dX4_fall_31 : decode cX4_fall 31 = .ok (.dup2, 1) := by decide +kernel
theorem dX4_fall_32 : decode cX4_fall 32 = .ok (.iaload, 1) := by decide +kernel
theorem dX4_fall_33 : decode cX4_fall 33 = .ok (.iload 4, 2) := by decide +kernel
theorem dX4_fall_35 : decode cX4_fall 35 = .ok (.iadd, 1) := by decide +kernel
theorem dX4_fall_36 : decode cX4_fall 36 = .ok (.iastore, 1) := by decide +kernel
theorem dX4_fall_37 : decode cX4_fall 37 = .ok (.aload_n 0, 1) := by decide +kernel
theorem dX4_fall_38 : decode cX4_fall 38 = .ok (.getfield 24, 3) := by decide +kernel
theorem dX4_fall_41 : decode cX4_fall 41 = .ok (.iload_n 2, 1) := by decide +kernel
theorem dX4_fall_42 : decode cX4_fall 42 = .ok (.bipush 8, 2) := by decide +kernel
theorem dX4_fall_44 : decode cX4_fall 44 = .ok (.imul, 1) := by decide +kernel
theorem dX4_fall_45 : decode cX4_fall 45 = .ok (.iload_n 3, 1) := by decide +kernel
theorem dX4_fall_46 : decode cX4_fall 46 = .ok (.iadd, 1) := by decide +kernel
theorem dX4_fall_47 : decode cX4_fall 47 = .ok (.dup2, 1) := by decide +kernel
theorem dX4_fall_48 : decode cX4_fall 48 = .ok (.iaload, 1) := by decide +kernel
theorem dX4_fall_49 : decode cX4_fall 49 = .ok (.iload 4, 2) := by decide +kernel
theorem dX4_fall_51 : decode cX4_fall 51 = .ok (.iadd, 1) := by decide +kernel
theorem dX4_fall_52 : decode cX4_fall 52 = .ok (.iastore, 1) := by decide +kernel
theorem dX4_fall_53 : decode cX4_fall 53 = .ok (.aload_n 0, 1) := by decide +kernel
theorem dX4_fall_54 : decode cX4_fall 54 = .ok (.getfield 21, 3) := by decide +kernel
theorem dX4_fall_57 : decode cX4_fall 57 = .ok (.iload_n 2, 1) := by decide +kernel
theorem dX4_fall_58 : decode cX4_fall 58 = .ok (.dup2, 1) := by decide +kernel
theorem dX4_fall_59 : decode cX4_fall 59 = .ok (.iaload, 1) := by decide +kernel
theorem dX4_fall_60 : decode cX4_fall 60 = .ok (.iconst 1, 1) := by decide +kernel
theorem dX4_fall_61 : decode cX4_fall 61 = .ok (.iload_n 3, 1) := by decide +kernel
theorem dX4_fall_62 : decode cX4_fall 62 = .ok (.ishl, 1) := by decide +kernel
theorem dX4_fall_63 : decode cX4_fall 63 = .ok (.ior, 1) := by decide +kernel
theorem dX4_fall_64 : decode cX4_fall 64 = .ok (.iastore, 1) := by decide +kernel
theorem dX4_fall_65 : decode cX4_fall 65 = .ok (.return_, 1) := by decide +kernel
theorem dX4_forgetWords_0 : decode cX4_forgetWords 0 = .ok (.iconst 0, 1) := by decide +kernel
theorem dX4_forgetWords_1 : decode cX4_forgetWords 1 = .ok (.istore_n 1, 1) := by decide +kernel
theorem dX4_forgetWords_2 : decode cX4_forgetWords 2 = .ok (.iload_n 1, 1) := by decide +kernel
theorem dX4_forgetWords_3 : decode cX4_forgetWords 3 = .ok (.bipush 8, 2) := by decide +kernel
theorem dX4_forgetWords_5 : decode cX4_forgetWords 5 = .ok (.if_icmp .ge 43, 3) := by decide +kernel
theorem dX4_forgetWords_8 : decode cX4_forgetWords 8 = .ok (.aload_n 0, 1) := by decide +kernel
theorem dX4_forgetWords_9 : decode cX4_forgetWords 9 = .ok (.getfield 21, 3) := by decide +kernel
theorem dX4_forgetWords_12 : decode cX4_forgetWords 12 = .ok (.iload_n 1, 1) := by decide +kernel
theorem dX4_forgetWords_13 : decode cX4_forgetWords 13 = .ok (.iaload, 1) := by decide +kernel
theorem dX4_forgetWords_14 : decode cX4_forgetWords 14 = .ok (.ifCond .eq 28, 3) := by decide +kernel
theorem dX4_forgetWords_17 : decode cX4_forgetWords 17 = .ok (.aload_n 0, 1) := by decide +kernel
theorem dX4_forgetWords_18 : decode cX4_forgetWords 18 = .ok (.getfield 21, 3) := by decide +kernel
theorem dX4_forgetWords_21 : decode cX4_forgetWords 21 = .ok (.iload_n 1, 1) := by decide +kernel
theorem dX4_forgetWords_22 : decode cX4_forgetWords 22 = .ok (.iconst 0, 1) := by decide +kernel
theorem dX4_forgetWords_23 : decode cX4_forgetWords 23 = .ok (.iastore, 1) := by decide +kernel
theorem dX4_forgetWords_24 : decode cX4_forgetWords 24 = .ok (.aload_n 0, 1) := by decide +kernel
theorem dX4_forgetWords_25 : decode cX4_forgetWords 25 = .ok (.getfield 24, 3) := by decide +kernel
theorem dX4_forgetWords_28 : decode cX4_forgetWords 28 = .ok (.iload_n 1, 1) := by decide +kernel
theorem dX4_forgetWords_29 : decode cX4_forgetWords 29 = .ok (.bipush 8, 2) := by decide +kernel
theorem dX4_forgetWords_31 : decode cX4_forgetWords 31 = .ok (.imul, 1) := by decide +kernel
theorem dX4_forgetWords_32 : decode cX4_forgetWords 32 = .ok (.iload_n 1, 1) := by decide +kernel
theorem dX4_forgetWords_33 : decode cX4_forgetWords 33 = .ok (.iconst 1, 1) := by decide +kernel
theorem dX4_forgetWords_34 : decode cX4_forgetWords 34 = .ok (.iadd, 1) := by decide +kernel
theorem dX4_forgetWords_35 : decode cX4_forgetWords 35 = .ok (.bipush 8, 2) := by decide +kernel
theorem dX4_forgetWords_37 : decode cX4_forgetWords 37 = .ok (.imul, 1) := by decide +kernel
theorem dX4_forgetWords_38 : decode cX4_forgetWords 38 = .ok (.iconst 0, 1) := by decide +kernel
theorem dX4_forgetWords_39 : decode cX4_forgetWords 39 = .ok (.invokestatic 62, 3) := by decide +kernel
theorem dX4_forgetWords_42 : decode cX4_forgetWords 42 = .ok (.iinc 1 1, 3) := by decide +kernel
theorem dX4_forgetWords_45 : decode cX4_forgetWords 45 = .ok (.goto (-43), 3) := by decide +kernel
theorem dX4_forgetWords_48 : decode cX4_forgetWords 48 = .ok (.return_, 1) := by decide +kernel
theorem dX4_has_0 : decode cX4_has 0 = .ok (.iload_n 1, 1) := by decide +kernel
theorem dX4_has_1 : decode cX4_has 1 = .ok (.ifCond .lt 21, 3) := by decide +kernel
theorem dX4_has_4 : decode cX4_has 4 = .ok (.iload_n 1, 1) := by decide +kernel
theorem dX4_has_5 : decode cX4_has 5 = .ok (.aload_n 0, 1) := by decide +kernel
theorem dX4_has_6 : decode cX4_has 6 = .ok (.getfield 37, 3) := by decide +kernel
theorem dX4_has_9 : decode cX4_has 9 = .ok (.if_icmp .ge 13, 3) := by decide +kernel
theorem dX4_has_12 : decode cX4_has 12 = .ok (.iload_n 1, 1) := by decide +kernel
theorem dX4_has_13 : decode cX4_has 13 = .ok (.bipush 8, 2) := by decide +kernel
theorem dX4_has_15 : decode cX4_has 15 = .ok (.if_icmp .ge 7, 3) := by decide +kernel
theorem dX4_has_18 : decode cX4_has 18 = .ok (.iconst 1, 1) := by decide +kernel
theorem dX4_has_19 : decode cX4_has 19 = .ok (.goto 4, 3) := by decide +kernel
theorem dX4_has_22 : decode cX4_has 22 = .ok (.iconst 0, 1) := by decide +kernel
theorem dX4_has_23 : decode cX4_has 23 = .ok (.ireturn, 1) := by decide +kernel
theorem dX4_hindrance_0 : decode cX4_hindrance 0 = .ok (.aload_n 0, 1) := by decide +kernel
theorem dX4_hindrance_1 : decode cX4_hindrance 1 = .ok (.iload_n 2, 1) := by decide +kernel
theorem dX4_hindrance_2 : decode cX4_hindrance 2 = .ok (.invokevirtual 71, 3) := by decide +kernel
theorem dX4_hindrance_5 : decode cX4_hindrance 5 = .ok (.ifCond .eq 13, 3) := by decide +kernel
theorem dX4_hindrance_8 : decode cX4_hindrance 8 = .ok (.iload_n 1, 1) := by decide +kernel
theorem dX4_hindrance_9 : decode cX4_hindrance 9 = .ok (.iconst 4, 1) := by decide +kernel
theorem dX4_hindrance_10 : decode cX4_hindrance 10 = .ok (.if_icmp .eq 8, 3) := by decide +kernel
theorem dX4_hindrance_13 : decode cX4_hindrance 13 = .ok (.iload_n 1, 1) := by decide +kernel
theorem dX4_hindrance_14 : decode cX4_hindrance 14 = .ok (.iconst 5, 1) := by decide +kernel
theorem dX4_hindrance_15 : decode cX4_hindrance 15 = .ok (.if_icmp .ne 5, 3) := by decide +kernel
theorem dX4_hindrance_18 : decode cX4_hindrance 18 = .ok (.iconst 0, 1) := by decide +kernel
theorem dX4_hindrance_19 : decode cX4_hindrance 19 = .ok (.ireturn, 1) := by decide +kernel
theorem dX4_hindrance_20 : decode cX4_hindrance 20 = .ok (.iload_n 1, 1) := by decide +kernel
theorem dX4_hindrance_21 : decode cX4_hindrance 21 = .ok (.iconst 3, 1) := by decide +kernel
theorem dX4_hindrance_22 : decode cX4_hindrance 22 = .ok (.if_icmp .ne 37, 3) := by decide +kernel
theorem dX4_hindrance_25 : decode cX4_hindrance 25 = .ok (.aload_n 0, 1) := by decide +kernel
theorem dX4_hindrance_26 : decode cX4_hindrance 26 = .ok (.iload_n 2, 1) := by decide +kernel
theorem dX4_hindrance_27 : decode cX4_hindrance 27 = .ok (.invokevirtual 75, 3) := by decide +kernel
theorem dX4_hindrance_30 : decode cX4_hindrance 30 = .ok (.ifCond .ne 23, 3) := by decide +kernel
theorem dX4_hindrance_33 : decode cX4_hindrance 33 = .ok (.aload_n 0, 1) := by decide +kernel
theorem dX4_hindrance_34 : decode cX4_hindrance 34 = .ok (.iload_n 2, 1) := by decide +kernel
theorem dX4_hindrance_35 : decode cX4_hindrance 35 = .ok (.iconst 1, 1) := by decide +kernel
theorem dX4_hindrance_36 : decode cX4_hindrance 36 = .ok (.isub, 1) := by decide +kernel
theorem dX4_hindrance_37 : decode cX4_hindrance 37 = .ok (.invokevirtual 75, 3) := by decide +kernel
theorem dX4_hindrance_40 : decode cX4_hindrance 40 = .ok (.ifCond .ne 13, 3) := by decide +kernel
theorem dX4_hindrance_43 : decode cX4_hindrance 43 = .ok (.aload_n 0, 1) := by decide +kernel
theorem dX4_hindrance_44 : decode cX4_hindrance 44 = .ok (.iload_n 2, 1) := by decide +kernel
theorem dX4_hindrance_45 : decode cX4_hindrance 45 = .ok (.iconst 1, 1) := by decide +kernel
theorem dX4_hindrance_46 : decode cX4_hindrance 46 = .ok (.iadd, 1) := by decide +kernel
theorem dX4_hindrance_47 : decode cX4_hindrance 47 = .ok (.invokevirtual 75, 3) := by decide +kernel
theorem dX4_hindrance_50 : decode cX4_hindrance 50 = .ok (.ifCond .eq 7, 3) := by decide +kernel
theorem dX4_hindrance_53 : decode cX4_hindrance 53 = .ok (.iconst 0, 1) := by decide +kernel
theorem dX4_hindrance_54 : decode cX4_hindrance 54 = .ok (.goto 4, 3) := by decide +kernel
theorem dX4_hindrance_57 : decode cX4_hindrance 57 = .ok (.iconst 2, 1) := by decide +kernel
theorem dX4_hindrance_58 : decode cX4_hindrance 58 = .ok (.ireturn, 1) := by decide +kernel
theorem dX4_hindrance_59 : decode cX4_hindrance 59 = .ok (.iload_n 2, 1) := by decide +kernel
theorem dX4_hindrance_60 : decode cX4_hindrance 60 = .ok (.iload_n 3, 1) := by decide +kernel
theorem dX4_hindrance_61 : decode cX4_hindrance 61 = .ok (.if_icmp .ne 5, 3) := by decide +kernel
theorem dX4_hindrance_64 : decode cX4_hindrance 64 = .ok (.iconst 1, 1) := by decide +kernel
theorem dX4_hindrance_65 : decode cX4_hindrance 65 = .ok (.ireturn, 1) := by decide +kernel
theorem dX4_hindrance_66 : decode cX4_hindrance 66 = .ok (.iload_n 1, 1) := by decide +kernel
theorem dX4_hindrance_67 : decode cX4_hindrance 67 = .ok (.iconst 2, 1) := by decide +kernel
theorem dX4_hindrance_68 : decode cX4_hindrance 68 = .ok (.if_icmp .ne 17, 3) := by decide +kernel
theorem dX4_hindrance_71 : decode cX4_hindrance 71 = .ok (.aload_n 0, 1) := by decide +kernel
theorem dX4_hindrance_72 : decode cX4_hindrance 72 = .ok (.iload_n 2, 1) := by decide +kernel
theorem dX4_hindrance_73 : decode cX4_hindrance 73 = .ok (.invokevirtual 75, 3) := by decide +kernel
theorem dX4_hindrance_76 : decode cX4_hindrance 76 = .ok (.ifCond .eq 7, 3) := by decide +kernel
theorem dX4_hindrance_79 : decode cX4_hindrance 79 = .ok (.iconst 0, 1) := by decide +kernel
theorem dX4_hindrance_80 : decode cX4_hindrance 80 = .ok (.goto 4, 3) := by decide +kernel
theorem dX4_hindrance_83 : decode cX4_hindrance 83 = .ok (.iconst 2, 1) := by decide +kernel
theorem dX4_hindrance_84 : decode cX4_hindrance 84 = .ok (.ireturn, 1) := by decide +kernel
theorem dX4_hindrance_85 : decode cX4_hindrance 85 = .ok (.aload_n 0, 1) := by decide +kernel
theorem dX4_hindrance_86 : decode cX4_hindrance 86 = .ok (.getfield 9, 3) := by decide +kernel
theorem dX4_hindrance_89 : decode cX4_hindrance 89 = .ok (.iload_n 2, 1) := by decide +kernel
theorem dX4_hindrance_90 : decode cX4_hindrance 90 = .ok (.iaload, 1) := by decide +kernel
theorem dX4_hindrance_91 : decode cX4_hindrance 91 = .ok (.aload_n 0, 1) := by decide +kernel
theorem dX4_hindrance_92 : decode cX4_hindrance 92 = .ok (.iload_n 1, 1) := by decide +kernel
theorem dX4_hindrance_93 : decode cX4_hindrance 93 = .ok (.iload_n 2, 1) := by decide +kernel
theorem dX4_hindrance_94 : decode cX4_hindrance 94 = .ok (.iload_n 3, 1) := by decide +kernel
theorem dX4_hindrance_95 : decode cX4_hindrance 95 = .ok (.invokevirtual 78, 3) := by decide +kernel
theorem dX4_hindrance_98 : decode cX4_hindrance 98 = .ok (.iadd, 1) := by decide +kernel
theorem dX4_hindrance_99 : decode cX4_hindrance 99 = .ok (.sipush 999, 3) := by decide +kernel
theorem dX4_hindrance_102 : decode cX4_hindrance 102 = .ok (.if_icmp .le 7, 3) := by decide +kernel
theorem dX4_hindrance_105 : decode cX4_hindrance 105 = .ok (.iconst 3, 1) := by decide +kernel
theorem dX4_hindrance_106 : decode cX4_hindrance 106 = .ok (.goto 4, 3) := by decide +kernel
theorem dX4_hindrance_109 : decode cX4_hindrance 109 = .ok (.iconst 0, 1) := by decide +kernel
theorem dX4_hindrance_110 : decode cX4_hindrance 110 = .ok (.ireturn, 1) := by decide +kernel
theorem dX4_init_0 : decode cX4_init 0 = .ok (.aload_n 0, 1) := by decide +kernel
theorem dX4_init_1 : decode cX4_init 1 = .ok (.invokespecial 3, 3) := by decide +kernel
theorem dX4_init_4 : decode cX4_init 4 = .ok (.aload_n 0, 1) := by decide +kernel
theorem dX4_init_5 : decode cX4_init 5 = .ok (.bipush 8, 2) := by decide +kernel
theorem dX4_init_7 : decode cX4_init 7 = .ok (.newarray .int, 2) := by decide +kernel
theorem dX4_init_9 : decode cX4_init 9 = .ok (.putfield 9, 3) := by decide +kernel
theorem dX4_init_12 : decode cX4_init 12 = .ok (.aload_n 0, 1) := by decide +kernel
theorem dX4_init_13 : decode cX4_init 13 = .ok (.bipush 8, 2) := by decide +kernel
theorem dX4_init_15 : decode cX4_init 15 = .ok (.newarray .int, 2) := by decide +kernel
theorem dX4_init_17 : decode cX4_init 17 = .ok (.putfield 15, 3) := by decide +kernel
theorem dX4_init_20 : decode cX4_init 20 = .ok (.aload_n 0, 1) := by decide +kernel
theorem dX4_init_21 : decode cX4_init 21 = .ok (.iconst 4, 1) := by decide +kernel
theorem dX4_init_22 : decode cX4_init 22 = .ok (.newarray .int, 2) := by decide +kernel
theorem dX4_init_24 : decode cX4_init 24 = .ok (.putfield 18, 3) := by decide +kernel
theorem dX4_init_27 : decode cX4_init 27 = .ok (.aload_n 0, 1) := by decide +kernel
theorem dX4_init_28 : decode cX4_init 28 = .ok (.bipush 8, 2) := by decide +kernel
theorem dX4_init_30 : decode cX4_init 30 = .ok (.newarray .int, 2) := by decide +kernel
theorem dX4_init_32 : decode cX4_init 32 = .ok (.putfield 21, 3) := by decide +kernel
theorem dX4_init_35 : decode cX4_init 35 = .ok (.aload_n 0, 1) := by decide +kernel
theorem dX4_init_36 : decode cX4_init 36 = .ok (.bipush 64, 2) := by decide +kernel
theorem dX4_init_38 : decode cX4_init 38 = .ok (.newarray .int, 2) := by decide +kernel
theorem dX4_init_40 : decode cX4_init 40 = .ok (.putfield 24, 3) := by decide +kernel
theorem dX4_init_43 : decode cX4_init 43 = .ok (.aload_n 0, 1) := by decide +kernel
theorem dX4_init_44 : decode cX4_init 44 = .ok (.bipush 8, 2) := by decide +kernel
theorem dX4_init_46 : decode cX4_init 46 = .ok (.newarray .int, 2) := by decide +kernel
theorem dX4_init_48 : decode cX4_init 48 = .ok (.putfield 27, 3) := by decide +kernel
theorem dX4_init_51 : decode cX4_init 51 = .ok (.aload_n 0, 1) := by decide +kernel
theorem dX4_init_52 : decode cX4_init 52 = .ok (.bipush 8, 2) := by decide +kernel
theorem dX4_init_54 : decode cX4_init 54 = .ok (.newarray .int, 2) := by decide +kernel
theorem dX4_init_56 : decode cX4_init 56 = .ok (.putfield 30, 3) := by decide +kernel
theorem dX4_init_59 : decode cX4_init 59 = .ok (.aload_n 0, 1) := by decide +kernel
theorem dX4_init_60 : decode cX4_init 60 = .ok (.getfield 18, 3) := by decide +kernel
theorem dX4_init_63 : decode cX4_init 63 = .ok (.iconst 0, 1) := by decide +kernel
theorem dX4_init_64 : decode cX4_init 64 = .ok (.iconst 1, 1) := by decide +kernel
theorem dX4_init_65 : decode cX4_init 65 = .ok (.iastore, 1) := by decide +kernel
theorem dX4_init_66 : decode cX4_init 66 = .ok (.aload_n 0, 1) := by decide +kernel
theorem dX4_init_67 : decode cX4_init 67 = .ok (.getfield 18, 3) := by decide +kernel
theorem dX4_init_70 : decode cX4_init 70 = .ok (.iconst 1, 1) := by decide +kernel
theorem dX4_init_71 : decode cX4_init 71 = .ok (.iconst 3, 1) := by decide +kernel
theorem dX4_init_72 : decode cX4_init 72 = .ok (.iastore, 1) := by decide +kernel
theorem dX4_init_73 : decode cX4_init 73 = .ok (.aload_n 0, 1) := by decide +kernel
theorem dX4_init_74 : decode cX4_init 74 = .ok (.getfield 18, 3) := by decide +kernel
theorem dX4_init_77 : decode cX4_init 77 = .ok (.iconst 2, 1) := by decide +kernel
theorem dX4_init_78 : decode cX4_init 78 = .ok (.iconst 1, 1) := by decide +kernel
theorem dX4_init_79 : decode cX4_init 79 = .ok (.iastore, 1) := by decide +kernel
theorem dX4_init_80 : decode cX4_init 80 = .ok (.aload_n 0, 1) := by decide +kernel
theorem dX4_init_81 : decode cX4_init 81 = .ok (.getfield 18, 3) := by decide +kernel
theorem dX4_init_84 : decode cX4_init 84 = .ok (.iconst 3, 1) := by decide +kernel
theorem dX4_init_85 : decode cX4_init 85 = .ok (.iconst 4, 1) := by decide +kernel
theorem dX4_init_86 : decode cX4_init 86 = .ok (.iastore, 1) := by decide +kernel
theorem dX4_init_87 : decode cX4_init 87 = .ok (.aload_n 0, 1) := by decide +kernel
theorem dX4_init_88 : decode cX4_init 88 = .ok (.bipush 6, 2) := by decide +kernel
theorem dX4_init_90 : decode cX4_init 90 = .ok (.invokevirtual 33, 3) := by decide +kernel
theorem dX4_init_93 : decode cX4_init 93 = .ok (.return_, 1) := by decide +kernel
theorem dX4_isDeep_0 : decode cX4_isDeep 0 = .ok (.aload_n 0, 1) := by decide +kernel
theorem dX4_isDeep_1 : decode cX4_isDeep 1 = .ok (.iload_n 1, 1) := by decide +kernel
theorem dX4_isDeep_2 : decode cX4_isDeep 2 = .ok (.invokevirtual 71, 3) := by decide +kernel
theorem dX4_isDeep_5 : decode cX4_isDeep 5 = .ok (.ifCond .eq 16, 3) := by decide +kernel
theorem dX4_isDeep_8 : decode cX4_isDeep 8 = .ok (.aload_n 0, 1) := by decide +kernel
theorem dX4_isDeep_9 : decode cX4_isDeep 9 = .ok (.getfield 9, 3) := by decide +kernel
theorem dX4_isDeep_12 : decode cX4_isDeep 12 = .ok (.iload_n 1, 1) := by decide +kernel
theorem dX4_isDeep_13 : decode cX4_isDeep 13 = .ok (.iaload, 1) := by decide +kernel
theorem dX4_isDeep_14 : decode cX4_isDeep 14 = .ok (.ifCond .le 7, 3) := by decide +kernel
theorem dX4_isDeep_17 : decode cX4_isDeep 17 = .ok (.iconst 1, 1) := by decide +kernel
theorem dX4_isDeep_18 : decode cX4_isDeep 18 = .ok (.goto 4, 3) := by decide +kernel
theorem dX4_isDeep_21 : decode cX4_isDeep 21 = .ok (.iconst 0, 1) := by decide +kernel
theorem dX4_isDeep_22 : decode cX4_isDeep 22 = .ok (.ireturn, 1) := by decide +kernel
theorem dX4_isSeen_0 : decode cX4_isSeen 0 = .ok (.iconst 0, 1) := by decide +kernel
theorem dX4_isSeen_1 : decode cX4_isSeen 1 = .ok (.istore_n 2, 1) := by decide +kernel
theorem dX4_isSeen_2 : decode cX4_isSeen 2 = .ok (.iload_n 2, 1) := by decide +kernel
theorem dX4_isSeen_3 : decode cX4_isSeen 3 = .ok (.aload_n 0, 1) := by decide +kernel
theorem dX4_isSeen_4 : decode cX4_isSeen 4 = .ok (.getfield 53, 3) := by decide +kernel
theorem dX4_isSeen_7 : decode cX4_isSeen 7 = .ok (.if_icmp .ge 27, 3) := by decide +kernel
theorem dX4_isSeen_10 : decode cX4_isSeen 10 = .ok (.iload_n 2, 1) := by decide +kernel
theorem dX4_isSeen_11 : decode cX4_isSeen 11 = .ok (.bipush 8, 2) := by decide +kernel
theorem dX4_isSeen_13 : decode cX4_isSeen 13 = .ok (.if_icmp .ge 21, 3) := by decide +kernel
theorem dX4_isSeen_16 : decode cX4_isSeen 16 = .ok (.aload_n 0, 1) := by decide +kernel
theorem dX4_isSeen_17 : decode cX4_isSeen 17 = .ok (.getfield 27, 3) := by decide +kernel
theorem dX4_isSeen_20 : decode cX4_isSeen 20 = .ok (.iload_n 2, 1) := by decide +kernel
theorem dX4_isSeen_21 : decode cX4_isSeen 21 = .ok (.iaload, 1) := by decide +kernel
theorem dX4_isSeen_22 : decode cX4_isSeen 22 = .ok (.iload_n 1, 1) := by decide +kernel
theorem dX4_isSeen_23 : decode cX4_isSeen 23 = .ok (.if_icmp .ne 5, 3) := by decide +kernel
theorem dX4_isSeen_26 : decode cX4_isSeen 26 = .ok (.iconst 1, 1) := by decide +kernel
theorem dX4_isSeen_27 : decode cX4_isSeen 27 = .ok (.ireturn, 1) := by decide +kernel
theorem dX4_isSeen_28 : decode cX4_isSeen 28 = .ok (.iinc 2 1, 3) := by decide +kernel
theorem dX4_isSeen_31 : decode cX4_isSeen 31 = .ok (.goto (-29), 3) := by decide +kernel
theorem dX4_isSeen_34 : decode cX4_isSeen 34 = .ok (.iconst 0, 1) := by decide +kernel
theorem dX4_isSeen_35 : decode cX4_isSeen 35 = .ok (.ireturn, 1) := by decide +kernel
theorem dX4_look_0 : decode cX4_look 0 = .ok (.aload_n 0, 1) := by decide +kernel
theorem dX4_look_1 : decode cX4_look 1 = .ok (.iload_n 1, 1) := by decide +kernel
theorem dX4_look_2 : decode cX4_look 2 = .ok (.invokevirtual 71, 3) := by decide +kernel
theorem dX4_look_5 : decode cX4_look 5 = .ok (.ifCond .ne 5, 3) := by decide +kernel
theorem dX4_look_8 : decode cX4_look 8 = .ok (.iconst (-1), 1) := by decide +kernel
theorem dX4_look_9 : decode cX4_look 9 = .ok (.ireturn, 1) := by decide +kernel
theorem dX4_look_10 : decode cX4_look 10 = .ok (.iload_n 2, 1) := by decide +kernel
theorem dX4_look_11 : decode cX4_look 11 = .ok (.ifCond .ne 12, 3) := by decide +kernel
theorem dX4_look_14 : decode cX4_look 14 = .ok (.aload_n 0, 1) := by decide +kernel
theorem dX4_look_15 : decode cX4_look 15 = .ok (.getfield 9, 3) := by decide +kernel
theorem dX4_look_18 : decode cX4_look 18 = .ok (.iload_n 1, 1) := by decide +kernel
theorem dX4_look_19 : decode cX4_look 19 = .ok (.iaload, 1) := by decide +kernel
theorem dX4_look_20 : decode cX4_look 20 = .ok (.goto 11, 3) := by decide +kernel
theorem dX4_look_23 : decode cX4_look 23 = .ok (.aload_n 0, 1) := by decide +kernel
theorem dX4_look_24 : decode cX4_look 24 = .ok (.getfield 47, 3) := by decide +kernel
theorem dX4_look_27 : decode cX4_look 27 = .ok (.iload_n 1, 1) := by decide +kernel
theorem dX4_look_28 : decode cX4_look 28 = .ok (.ishr, 1) := by decide +kernel
theorem dX4_look_29 : decode cX4_look 29 = .ok (.iconst 1, 1) := by decide +kernel
theorem dX4_look_30 : decode cX4_look 30 = .ok (.iand, 1) := by decide +kernel
theorem dX4_look_31 : decode cX4_look 31 = .ok (.ireturn, 1) := by decide +kernel
theorem dX4_lower_0 : decode cX4_lower 0 = .ok (.aload_n 0, 1) := by decide +kernel
theorem dX4_lower_1 : decode cX4_lower 1 = .ok (.iload_n 1, 1) := by decide +kernel
theorem dX4_lower_2 : decode cX4_lower 2 = .ok (.invokevirtual 71, 3) := by decide +kernel
theorem dX4_lower_5 : decode cX4_lower 5 = .ok (.ifCond .eq 21, 3) := by decide +kernel
theorem dX4_lower_8 : decode cX4_lower 8 = .ok (.aload_n 0, 1) := by decide +kernel
theorem dX4_lower_9 : decode cX4_lower 9 = .ok (.getfield 9, 3) := by decide +kernel
theorem dX4_lower_12 : decode cX4_lower 12 = .ok (.iload_n 1, 1) := by decide +kernel
theorem dX4_lower_13 : decode cX4_lower 13 = .ok (.iconst 0, 1) := by decide +kernel
theorem dX4_lower_14 : decode cX4_lower 14 = .ok (.aload_n 0, 1) := by decide +kernel
theorem dX4_lower_15 : decode cX4_lower 15 = .ok (.getfield 9, 3) := by decide +kernel
theorem dX4_lower_18 : decode cX4_lower 18 = .ok (.iload_n 1, 1) := by decide +kernel
theorem dX4_lower_19 : decode cX4_lower 19 = .ok (.iaload, 1) := by decide +kernel
theorem dX4_lower_20 : decode cX4_lower 20 = .ok (.iload_n 2, 1) := by decide +kernel
theorem dX4_lower_21 : decode cX4_lower 21 = .ok (.isub, 1) := by decide +kernel
theorem dX4_lower_22 : decode cX4_lower 22 = .ok (.invokestatic 96, 3) := by decide +kernel
theorem dX4_lower_25 : decode cX4_lower 25 = .ok (.iastore, 1) := by decide +kernel
theorem dX4_lower_26 : decode cX4_lower 26 = .ok (.return_, 1) := by decide +kernel
theorem dX4_mostSaidOf_0 : decode cX4_mostSaidOf 0 = .ok (.aload_n 0, 1) := by decide +kernel
theorem dX4_mostSaidOf_1 : decode cX4_mostSaidOf 1 = .ok (.iload_n 1, 1) := by decide +kernel
theorem dX4_mostSaidOf_2 : decode cX4_mostSaidOf 2 = .ok (.invokevirtual 71, 3) := by decide +kernel
theorem dX4_mostSaidOf_5 : decode cX4_mostSaidOf 5 = .ok (.ifCond .ne 6, 3) := by decide +kernel
theorem dX4_mostSaidOf_8 : decode cX4_mostSaidOf 8 = .ok (.bipush (-6), 2) := by decide +kernel
theorem dX4_mostSaidOf_10 : decode cX4_mostSaidOf 10 = .ok (.ireturn, 1) := by decide +kernel
theorem dX4_mostSaidOf_11 : decode cX4_mostSaidOf 11 = .ok (.iconst 0, 1) := by decide +kernel
theorem dX4_mostSaidOf_12 : decode cX4_mostSaidOf 12 = .ok (.istore_n 2, 1) := by decide +kernel
theorem dX4_mostSaidOf_13 : decode cX4_mostSaidOf 13 = .ok (.bipush (-6), 2) := by decide +kernel
theorem dX4_mostSaidOf_15 : decode cX4_mostSaidOf 15 = .ok (.istore_n 3, 1) := by decide +kernel
theorem dX4_mostSaidOf_16 : decode cX4_mostSaidOf 16 = .ok (.iconst 0, 1) := by decide +kernel
theorem dX4_mostSaidOf_17 : decode cX4_mostSaidOf 17 = .ok (.istore 4, 2) := by decide +kernel
theorem dX4_mostSaidOf_19 : decode cX4_mostSaidOf 19 = .ok (.iload 4, 2) := by decide +kernel
theorem dX4_mostSaidOf_21 : decode cX4_mostSaidOf 21 = .ok (.aload_n 0, 1) := by decide +kernel
theorem dX4_mostSaidOf_22 : decode cX4_mostSaidOf 22 = .ok (.getfield 37, 3) := by decide +kernel
theorem dX4_mostSaidOf_25 : decode cX4_mostSaidOf 25 = .ok (.if_icmp .ge 48, 3) := by decide +kernel
theorem dX4_mostSaidOf_28 : decode cX4_mostSaidOf 28 = .ok (.iload 4, 2) := by decide +kernel
theorem dX4_mostSaidOf_30 : decode cX4_mostSaidOf 30 = .ok (.bipush 8, 2) := by decide +kernel
theorem dX4_mostSaidOf_32 : decode cX4_mostSaidOf 32 = .ok (.if_icmp .ge 41, 3) := by decide +kernel
theorem dX4_mostSaidOf_35 : decode cX4_mostSaidOf 35 = .ok (.aload_n 0, 1) := by decide +kernel
theorem dX4_mostSaidOf_36 : decode cX4_mostSaidOf 36 = .ok (.getfield 24, 3) := by decide +kernel
theorem dX4_mostSaidOf_39 : decode cX4_mostSaidOf 39 = .ok (.iload_n 1, 1) := by decide +kernel
theorem dX4_mostSaidOf_40 : decode cX4_mostSaidOf 40 = .ok (.bipush 8, 2) := by decide +kernel
theorem dX4_mostSaidOf_42 : decode cX4_mostSaidOf 42 = .ok (.imul, 1) := by decide +kernel
theorem dX4_mostSaidOf_43 : decode cX4_mostSaidOf 43 = .ok (.iload 4, 2) := by decide +kernel
theorem dX4_mostSaidOf_45 : decode cX4_mostSaidOf 45 = .ok (.iadd, 1) := by decide +kernel
theorem dX4_mostSaidOf_46 : decode cX4_mostSaidOf 46 = .ok (.iaload, 1) := by decide +kernel
theorem dX4_mostSaidOf_47 : decode cX4_mostSaidOf 47 = .ok (.iload_n 2, 1) := by decide +kernel
theorem dX4_mostSaidOf_48 : decode cX4_mostSaidOf 48 = .ok (.if_icmp .le 19, 3) := by decide +kernel
theorem dX4_mostSaidOf_51 : decode cX4_mostSaidOf 51 = .ok (.aload_n 0, 1) := by decide +kernel
theorem dX4_mostSaidOf_52 : decode cX4_mostSaidOf 52 = .ok (.getfield 24, 3) := by decide +kernel
theorem dX4_mostSaidOf_55 : decode cX4_mostSaidOf 55 = .ok (.iload_n 1, 1) := by decide +kernel
theorem dX4_mostSaidOf_56 : decode cX4_mostSaidOf 56 = .ok (.bipush 8, 2) := by decide +kernel
theorem dX4_mostSaidOf_58 : decode cX4_mostSaidOf 58 = .ok (.imul, 1) := by decide +kernel
theorem dX4_mostSaidOf_59 : decode cX4_mostSaidOf 59 = .ok (.iload 4, 2) := by decide +kernel
theorem dX4_mostSaidOf_61 : decode cX4_mostSaidOf 61 = .ok (.iadd, 1) := by decide +kernel
theorem dX4_mostSaidOf_62 : decode cX4_mostSaidOf 62 = .ok (.iaload, 1) := by decide +kernel
theorem dX4_mostSaidOf_63 : decode cX4_mostSaidOf 63 = .ok (.istore_n 2, 1) := by decide +kernel
theorem dX4_mostSaidOf_64 : decode cX4_mostSaidOf 64 = .ok (.iload 4, 2) := by decide +kernel
theorem dX4_mostSaidOf_66 : decode cX4_mostSaidOf 66 = .ok (.istore_n 3, 1) := by decide +kernel
theorem dX4_mostSaidOf_67 : decode cX4_mostSaidOf 67 = .ok (.iinc 4 1, 3) := by decide +kernel
theorem dX4_mostSaidOf_70 : decode cX4_mostSaidOf 70 = .ok (.goto (-51), 3) := by decide +kernel
theorem dX4_mostSaidOf_73 : decode cX4_mostSaidOf 73 = .ok (.iload_n 3, 1) := by decide +kernel
theorem dX4_mostSaidOf_74 : decode cX4_mostSaidOf 74 = .ok (.ireturn, 1) := by decide +kernel
theorem dX4_overloaded_0 : decode cX4_overloaded 0 = .ok (.iconst 0, 1) := by decide +kernel
theorem dX4_overloaded_1 : decode cX4_overloaded 1 = .ok (.istore_n 1, 1) := by decide +kernel
theorem dX4_overloaded_2 : decode cX4_overloaded 2 = .ok (.iconst 0, 1) := by decide +kernel
theorem dX4_overloaded_3 : decode cX4_overloaded 3 = .ok (.istore_n 2, 1) := by decide +kernel
theorem dX4_overloaded_4 : decode cX4_overloaded 4 = .ok (.iload_n 2, 1) := by decide +kernel
theorem dX4_overloaded_5 : decode cX4_overloaded 5 = .ok (.aload_n 0, 1) := by decide +kernel
theorem dX4_overloaded_6 : decode cX4_overloaded 6 = .ok (.getfield 37, 3) := by decide +kernel
theorem dX4_overloaded_9 : decode cX4_overloaded 9 = .ok (.if_icmp .ge 36, 3) := by decide +kernel
theorem dX4_overloaded_12 : decode cX4_overloaded 12 = .ok (.iload_n 2, 1) := by decide +kernel
theorem dX4_overloaded_13 : decode cX4_overloaded 13 = .ok (.bipush 8, 2) := by decide +kernel
theorem dX4_overloaded_15 : decode cX4_overloaded 15 = .ok (.if_icmp .ge 30, 3) := by decide +kernel
theorem dX4_overloaded_18 : decode cX4_overloaded 18 = .ok (.aload_n 0, 1) := by decide +kernel
theorem dX4_overloaded_19 : decode cX4_overloaded 19 = .ok (.getfield 9, 3) := by decide +kernel
theorem dX4_overloaded_22 : decode cX4_overloaded 22 = .ok (.iload_n 2, 1) := by decide +kernel
theorem dX4_overloaded_23 : decode cX4_overloaded 23 = .ok (.iaload, 1) := by decide +kernel
theorem dX4_overloaded_24 : decode cX4_overloaded 24 = .ok (.aload_n 0, 1) := by decide +kernel
theorem dX4_overloaded_25 : decode cX4_overloaded 25 = .ok (.getfield 15, 3) := by decide +kernel
theorem dX4_overloaded_28 : decode cX4_overloaded 28 = .ok (.iload_n 2, 1) := by decide +kernel
theorem dX4_overloaded_29 : decode cX4_overloaded 29 = .ok (.iaload, 1) := by decide +kernel
theorem dX4_overloaded_30 : decode cX4_overloaded 30 = .ok (.if_icmp .le 9, 3) := by decide +kernel
theorem dX4_overloaded_33 : decode cX4_overloaded 33 = .ok (.iload_n 1, 1) := by decide +kernel
theorem dX4_overloaded_34 : decode cX4_overloaded 34 = .ok (.iconst 1, 1) := by decide +kernel
theorem dX4_overloaded_35 : decode cX4_overloaded 35 = .ok (.iload_n 2, 1) := by decide +kernel
theorem dX4_overloaded_36 : decode cX4_overloaded 36 = .ok (.ishl, 1) := by decide +kernel
theorem dX4_overloaded_37 : decode cX4_overloaded 37 = .ok (.ior, 1) := by decide +kernel
theorem dX4_overloaded_38 : decode cX4_overloaded 38 = .ok (.istore_n 1, 1) := by decide +kernel
theorem dX4_overloaded_39 : decode cX4_overloaded 39 = .ok (.iinc 2 1, 3) := by decide +kernel
theorem dX4_overloaded_42 : decode cX4_overloaded 42 = .ok (.goto (-38), 3) := by decide +kernel
theorem dX4_overloaded_45 : decode cX4_overloaded 45 = .ok (.iload_n 1, 1) := by decide +kernel
theorem dX4_overloaded_46 : decode cX4_overloaded 46 = .ok (.aload_n 0, 1) := by decide +kernel
theorem dX4_overloaded_47 : decode cX4_overloaded 47 = .ok (.getfield 47, 3) := by decide +kernel
theorem dX4_overloaded_50 : decode cX4_overloaded 50 = .ok (.iconst (-1), 1) := by decide +kernel
theorem dX4_overloaded_51 : decode cX4_overloaded 51 = .ok (.ixor, 1) := by decide +kernel
theorem dX4_overloaded_52 : decode cX4_overloaded 52 = .ok (.iand, 1) := by decide +kernel
theorem dX4_overloaded_53 : decode cX4_overloaded 53 = .ok (.ireturn, 1) := by decide +kernel
theorem dX4_sightsHold_0 : decode cX4_sightsHold 0 = .ok (.iconst 0, 1) := by decide +kernel
theorem dX4_sightsHold_1 : decode cX4_sightsHold 1 = .ok (.istore_n 2, 1) := by decide +kernel
theorem dX4_sightsHold_2 : decode cX4_sightsHold 2 = .ok (.iload_n 2, 1) := by decide +kernel
theorem dX4_sightsHold_3 : decode cX4_sightsHold 3 = .ok (.aload_n 0, 1) := by decide +kernel
theorem dX4_sightsHold_4 : decode cX4_sightsHold 4 = .ok (.getfield 53, 3) := by decide +kernel
theorem dX4_sightsHold_7 : decode cX4_sightsHold 7 = .ok (.if_icmp .ge 46, 3) := by decide +kernel
theorem dX4_sightsHold_10 : decode cX4_sightsHold 10 = .ok (.iload_n 2, 1) := by decide +kernel
theorem dX4_sightsHold_11 : decode cX4_sightsHold 11 = .ok (.bipush 8, 2) := by decide +kernel
theorem dX4_sightsHold_13 : decode cX4_sightsHold 13 = .ok (.if_icmp .ge 40, 3) := by decide +kernel
theorem dX4_sightsHold_16 : decode cX4_sightsHold 16 = .ok (.aload_n 0, 1) := by decide +kernel
theorem dX4_sightsHold_17 : decode cX4_sightsHold 17 = .ok (.getfield 27, 3) := by decide +kernel
theorem dX4_sightsHold_20 : decode cX4_sightsHold 20 = .ok (.iload_n 2, 1) := by decide +kernel
theorem dX4_sightsHold_21 : decode cX4_sightsHold 21 = .ok (.iaload, 1) := by decide +kernel
theorem dX4_sightsHold_22 : decode cX4_sightsHold 22 = .ok (.istore_n 3, 1) := by decide +kernel
theorem dX4_sightsHold_23 : decode cX4_sightsHold 23 = .ok (.iload_n 3, 1) := by decide +kernel
theorem dX4_sightsHold_24 : decode cX4_sightsHold 24 = .ok (.ifCond .lt 21, 3) := by decide +kernel
theorem dX4_sightsHold_27 : decode cX4_sightsHold 27 = .ok (.iload_n 3, 1) := by decide +kernel
theorem dX4_sightsHold_28 : decode cX4_sightsHold 28 = .ok (.aload_n 1, 1) := by decide +kernel
theorem dX4_sightsHold_29 : decode cX4_sightsHold 29 = .ok (.arraylength, 1) := by decide +kernel
theorem dX4_sightsHold_30 : decode cX4_sightsHold 30 = .ok (.if_icmp .ge 15, 3) := by decide +kernel
theorem dX4_sightsHold_33 : decode cX4_sightsHold 33 = .ok (.aload_n 1, 1) := by decide +kernel
theorem dX4_sightsHold_34 : decode cX4_sightsHold 34 = .ok (.iload_n 3, 1) := by decide +kernel
theorem dX4_sightsHold_35 : decode cX4_sightsHold 35 = .ok (.iaload, 1) := by decide +kernel
theorem dX4_sightsHold_36 : decode cX4_sightsHold 36 = .ok (.aload_n 0, 1) := by decide +kernel
theorem dX4_sightsHold_37 : decode cX4_sightsHold 37 = .ok (.getfield 30, 3) := by decide +kernel
theorem dX4_sightsHold_40 : decode cX4_sightsHold 40 = .ok (.iload_n 2, 1) := by decide +kernel
theorem dX4_sightsHold_41 : decode cX4_sightsHold 41 = .ok (.iaload, 1) := by decide +kernel
theorem dX4_sightsHold_42 : decode cX4_sightsHold 42 = .ok (.if_icmp .eq 5, 3) := by decide +kernel
theorem dX4_sightsHold_45 : decode cX4_sightsHold 45 = .ok (.iconst 0, 1) := by decide +kernel
theorem dX4_sightsHold_46 : decode cX4_sightsHold 46 = .ok (.ireturn, 1) := by decide +kernel
theorem dX4_sightsHold_47 : decode cX4_sightsHold 47 = .ok (.iinc 2 1, 3) := by decide +kernel
theorem dX4_sightsHold_50 : decode cX4_sightsHold 50 = .ok (.goto (-48), 3) := by decide +kernel
theorem dX4_sightsHold_53 : decode cX4_sightsHold 53 = .ok (.iconst 1, 1) := by decide +kernel
theorem dX4_sightsHold_54 : decode cX4_sightsHold 54 = .ok (.ireturn, 1) := by decide +kernel
theorem dX4_speak_0 : decode cX4_speak 0 = .ok (.iload_n 1, 1) := by decide +kernel
theorem dX4_speak_1 : decode cX4_speak 1 = .ok (.tableswitch 113 0 5 #[39, 39, 49, 63, 88, 102], 39) := by decide +kernel
theorem dX4_speak_40 : decode cX4_speak 40 = .ok (.aload_n 0, 1) := by decide +kernel
theorem dX4_speak_41 : decode cX4_speak 41 = .ok (.iload_n 1, 1) := by decide +kernel
theorem dX4_speak_42 : decode cX4_speak 42 = .ok (.iload_n 2, 1) := by decide +kernel
theorem dX4_speak_43 : decode cX4_speak 43 = .ok (.iload_n 3, 1) := by decide +kernel
theorem dX4_speak_44 : decode cX4_speak 44 = .ok (.invokevirtual 82, 3) := by decide +kernel
theorem dX4_speak_47 : decode cX4_speak 47 = .ok (.goto 67, 3) := by decide +kernel
theorem dX4_speak_50 : decode cX4_speak 50 = .ok (.aload_n 0, 1) := by decide +kernel
theorem dX4_speak_51 : decode cX4_speak 51 = .ok (.iload_n 2, 1) := by decide +kernel
theorem dX4_speak_52 : decode cX4_speak 52 = .ok (.aload_n 0, 1) := by decide +kernel
theorem dX4_speak_53 : decode cX4_speak 53 = .ok (.getfield 18, 3) := by decide +kernel
theorem dX4_speak_56 : decode cX4_speak 56 = .ok (.iconst 3, 1) := by decide +kernel
theorem dX4_speak_57 : decode cX4_speak 57 = .ok (.iaload, 1) := by decide +kernel
theorem dX4_speak_58 : decode cX4_speak 58 = .ok (.invokevirtual 86, 3) := by decide +kernel
theorem dX4_speak_61 : decode cX4_speak 61 = .ok (.goto 53, 3) := by decide +kernel
theorem dX4_speak_64 : decode cX4_speak 64 = .ok (.aload_n 0, 1) := by decide +kernel
theorem dX4_speak_65 : decode cX4_speak 65 = .ok (.iload_n 2, 1) := by decide +kernel
theorem dX4_speak_66 : decode cX4_speak 66 = .ok (.iconst 2, 1) := by decide +kernel
theorem dX4_speak_67 : decode cX4_speak 67 = .ok (.invokevirtual 86, 3) := by decide +kernel
theorem dX4_speak_70 : decode cX4_speak 70 = .ok (.aload_n 0, 1) := by decide +kernel
theorem dX4_speak_71 : decode cX4_speak 71 = .ok (.iload_n 2, 1) := by decide +kernel
theorem dX4_speak_72 : decode cX4_speak 72 = .ok (.iconst 1, 1) := by decide +kernel
theorem dX4_speak_73 : decode cX4_speak 73 = .ok (.isub, 1) := by decide +kernel
theorem dX4_speak_74 : decode cX4_speak 74 = .ok (.iconst 1, 1) := by decide +kernel
theorem dX4_speak_75 : decode cX4_speak 75 = .ok (.invokevirtual 86, 3) := by decide +kernel
theorem dX4_speak_78 : decode cX4_speak 78 = .ok (.aload_n 0, 1) := by decide +kernel
theorem dX4_speak_79 : decode cX4_speak 79 = .ok (.iload_n 2, 1) := by decide +kernel
theorem dX4_speak_80 : decode cX4_speak 80 = .ok (.iconst 1, 1) := by decide +kernel
theorem dX4_speak_81 : decode cX4_speak 81 = .ok (.iadd, 1) := by decide +kernel
theorem dX4_speak_82 : decode cX4_speak 82 = .ok (.iconst 1, 1) := by decide +kernel
theorem dX4_speak_83 : decode cX4_speak 83 = .ok (.invokevirtual 86, 3) := by decide +kernel
theorem dX4_speak_86 : decode cX4_speak 86 = .ok (.goto 28, 3) := by decide +kernel
theorem dX4_speak_89 : decode cX4_speak 89 = .ok (.aload_n 0, 1) := by decide +kernel
theorem dX4_speak_90 : decode cX4_speak 90 = .ok (.getfield 9, 3) := by decide +kernel
theorem dX4_speak_93 : decode cX4_speak 93 = .ok (.aload_n 0, 1) := by decide +kernel
theorem dX4_speak_94 : decode cX4_speak 94 = .ok (.getfield 37, 3) := by decide +kernel
theorem dX4_speak_97 : decode cX4_speak 97 = .ok (.invokestatic 90, 3) := by decide +kernel
theorem dX4_speak_100 : decode cX4_speak 100 = .ok (.goto 14, 3) := by decide +kernel
theorem dX4_speak_103 : decode cX4_speak 103 = .ok (.aload_n 0, 1) := by decide +kernel
theorem dX4_speak_104 : decode cX4_speak 104 = .ok (.invokevirtual 93, 3) := by decide +kernel
theorem dX4_speak_107 : decode cX4_speak 107 = .ok (.aload_n 0, 1) := by decide +kernel
theorem dX4_speak_108 : decode cX4_speak 108 = .ok (.invokevirtual 59, 3) := by decide +kernel
theorem dX4_speak_111 : decode cX4_speak 111 = .ok (.goto 3, 3) := by decide +kernel
theorem dX4_speak_114 : decode cX4_speak 114 = .ok (.return_, 1) := by decide +kernel
theorem dX4_tell_0 : decode cX4_tell 0 = .ok (.aload_n 0, 1) := by decide +kernel
theorem dX4_tell_1 : decode cX4_tell 1 = .ok (.iload_n 1, 1) := by decide +kernel
theorem dX4_tell_2 : decode cX4_tell 2 = .ok (.iload_n 2, 1) := by decide +kernel
theorem dX4_tell_3 : decode cX4_tell 3 = .ok (.iload_n 3, 1) := by decide +kernel
theorem dX4_tell_4 : decode cX4_tell 4 = .ok (.invokevirtual 105, 3) := by decide +kernel
theorem dX4_tell_7 : decode cX4_tell 7 = .ok (.istore 4, 2) := by decide +kernel
theorem dX4_tell_9 : decode cX4_tell 9 = .ok (.iload 4, 2) := by decide +kernel
theorem dX4_tell_11 : decode cX4_tell 11 = .ok (.ifCond .ne 23, 3) := by decide +kernel
theorem dX4_tell_14 : decode cX4_tell 14 = .ok (.aload_n 0, 1) := by decide +kernel
theorem dX4_tell_15 : decode cX4_tell 15 = .ok (.iload_n 1, 1) := by decide +kernel
theorem dX4_tell_16 : decode cX4_tell 16 = .ok (.iload_n 2, 1) := by decide +kernel
theorem dX4_tell_17 : decode cX4_tell 17 = .ok (.iload_n 3, 1) := by decide +kernel
theorem dX4_tell_18 : decode cX4_tell 18 = .ok (.invokevirtual 108, 3) := by decide +kernel
theorem dX4_tell_21 : decode cX4_tell 21 = .ok (.aload_n 0, 1) := by decide +kernel
theorem dX4_tell_22 : decode cX4_tell 22 = .ok (.dup, 1) := by decide +kernel
theorem dX4_tell_23 : decode cX4_tell 23 = .ok (.getfield 47, 3) := by decide +kernel
theorem dX4_tell_26 : decode cX4_tell 26 = .ok (.aload_n 0, 1) := by decide +kernel
theorem dX4_tell_27 : decode cX4_tell 27 = .ok (.invokevirtual 111, 3) := by decide +kernel
theorem dX4_tell_30 : decode cX4_tell 30 = .ok (.ior, 1) := by decide +kernel
theorem dX4_tell_31 : decode cX4_tell 31 = .ok (.putfield 47, 3) := by decide +kernel
theorem dX4_tell_34 : decode cX4_tell 34 = .ok (.iload 4, 2) := by decide +kernel
theorem dX4_tell_36 : decode cX4_tell 36 = .ok (.ireturn, 1) := by decide +kernel
theorem dX4_thaw_0 : decode cX4_thaw 0 = .ok (.iconst 0, 1) := by decide +kernel
theorem dX4_thaw_1 : decode cX4_thaw 1 = .ok (.istore_n 1, 1) := by decide +kernel
theorem dX4_thaw_2 : decode cX4_thaw 2 = .ok (.iload_n 1, 1) := by decide +kernel
theorem dX4_thaw_3 : decode cX4_thaw 3 = .ok (.aload_n 0, 1) := by decide +kernel
theorem dX4_thaw_4 : decode cX4_thaw 4 = .ok (.getfield 37, 3) := by decide +kernel
theorem dX4_thaw_7 : decode cX4_thaw 7 = .ok (.if_icmp .ge 46, 3) := by decide +kernel
theorem dX4_thaw_10 : decode cX4_thaw 10 = .ok (.iload_n 1, 1) := by decide +kernel
theorem dX4_thaw_11 : decode cX4_thaw 11 = .ok (.bipush 8, 2) := by decide +kernel
theorem dX4_thaw_13 : decode cX4_thaw 13 = .ok (.if_icmp .ge 40, 3) := by decide +kernel
theorem dX4_thaw_16 : decode cX4_thaw 16 = .ok (.iconst 3, 1) := by decide +kernel
theorem dX4_thaw_17 : decode cX4_thaw 17 = .ok (.aload_n 0, 1) := by decide +kernel
theorem dX4_thaw_18 : decode cX4_thaw 18 = .ok (.getfield 9, 3) := by decide +kernel
theorem dX4_thaw_21 : decode cX4_thaw 21 = .ok (.iload_n 1, 1) := by decide +kernel
theorem dX4_thaw_22 : decode cX4_thaw 22 = .ok (.iaload, 1) := by decide +kernel
theorem dX4_thaw_23 : decode cX4_thaw 23 = .ok (.invokestatic 102, 3) := by decide +kernel
theorem dX4_thaw_26 : decode cX4_thaw 26 = .ok (.istore_n 2, 1) := by decide +kernel
theorem dX4_thaw_27 : decode cX4_thaw 27 = .ok (.aload_n 0, 1) := by decide +kernel
theorem dX4_thaw_28 : decode cX4_thaw 28 = .ok (.getfield 9, 3) := by decide +kernel
theorem dX4_thaw_31 : decode cX4_thaw 31 = .ok (.iload_n 1, 1) := by decide +kernel
theorem dX4_thaw_32 : decode cX4_thaw 32 = .ok (.dup2, 1) := by decide +kernel
theorem dX4_thaw_33 : decode cX4_thaw 33 = .ok (.iaload, 1) := by decide +kernel
theorem dX4_thaw_34 : decode cX4_thaw 34 = .ok (.iload_n 2, 1) := by decide +kernel
theorem dX4_thaw_35 : decode cX4_thaw 35 = .ok (.isub, 1) := by decide +kernel
theorem dX4_thaw_36 : decode cX4_thaw 36 = .ok (.iastore, 1) := by decide +kernel
theorem dX4_thaw_37 : decode cX4_thaw 37 = .ok (.aload_n 0, 1) := by decide +kernel
theorem dX4_thaw_38 : decode cX4_thaw 38 = .ok (.dup, 1) := by decide +kernel
theorem dX4_thaw_39 : decode cX4_thaw 39 = .ok (.getfield 50, 3) := by decide +kernel
theorem dX4_thaw_42 : decode cX4_thaw 42 = .ok (.iload_n 2, 1) := by decide +kernel
theorem dX4_thaw_43 : decode cX4_thaw 43 = .ok (.iadd, 1) := by decide +kernel
theorem dX4_thaw_44 : decode cX4_thaw 44 = .ok (.putfield 50, 3) := by decide +kernel
theorem dX4_thaw_47 : decode cX4_thaw 47 = .ok (.iinc 1 1, 3) := by decide +kernel
theorem dX4_thaw_50 : decode cX4_thaw 50 = .ok (.goto (-48), 3) := by decide +kernel
theorem dX4_thaw_53 : decode cX4_thaw 53 = .ok (.return_, 1) := by decide +kernel
theorem dX4_weight_0 : decode cX4_weight 0 = .ok (.iload_n 2, 1) := by decide +kernel
theorem dX4_weight_1 : decode cX4_weight 1 = .ok (.ifCond .lt 18, 3) := by decide +kernel
theorem dX4_weight_4 : decode cX4_weight 4 = .ok (.iload_n 2, 1) := by decide +kernel
theorem dX4_weight_5 : decode cX4_weight 5 = .ok (.bipush 8, 2) := by decide +kernel
theorem dX4_weight_7 : decode cX4_weight 7 = .ok (.if_icmp .ge 12, 3) := by decide +kernel
theorem dX4_weight_10 : decode cX4_weight 10 = .ok (.iload_n 1, 1) := by decide +kernel
theorem dX4_weight_11 : decode cX4_weight 11 = .ok (.ifCond .eq 10, 3) := by decide +kernel
theorem dX4_weight_14 : decode cX4_weight 14 = .ok (.iload_n 1, 1) := by decide +kernel
theorem dX4_weight_15 : decode cX4_weight 15 = .ok (.iconst 1, 1) := by decide +kernel
theorem dX4_weight_16 : decode cX4_weight 16 = .ok (.if_icmp .eq 5, 3) := by decide +kernel
theorem dX4_weight_19 : decode cX4_weight 19 = .ok (.iconst 0, 1) := by decide +kernel
theorem dX4_weight_20 : decode cX4_weight 20 = .ok (.ireturn, 1) := by decide +kernel
theorem dX4_weight_21 : decode cX4_weight 21 = .ok (.aload_n 0, 1) := by decide +kernel
theorem dX4_weight_22 : decode cX4_weight 22 = .ok (.getfield 18, 3) := by decide +kernel
theorem dX4_weight_25 : decode cX4_weight 25 = .ok (.iload_n 1, 1) := by decide +kernel
theorem dX4_weight_26 : decode cX4_weight 26 = .ok (.iaload, 1) := by decide +kernel
theorem dX4_weight_27 : decode cX4_weight 27 = .ok (.aload_n 0, 1) := by decide +kernel
theorem dX4_weight_28 : decode cX4_weight 28 = .ok (.getfield 21, 3) := by decide +kernel
theorem dX4_weight_31 : decode cX4_weight 31 = .ok (.iload_n 2, 1) := by decide +kernel
theorem dX4_weight_32 : decode cX4_weight 32 = .ok (.iaload, 1) := by decide +kernel
theorem dX4_weight_33 : decode cX4_weight 33 = .ok (.iload_n 3, 1) := by decide +kernel
theorem dX4_weight_34 : decode cX4_weight 34 = .ok (.ishr, 1) := by decide +kernel
theorem dX4_weight_35 : decode cX4_weight 35 = .ok (.iconst 1, 1) := by decide +kernel
theorem dX4_weight_36 : decode cX4_weight 36 = .ok (.iand, 1) := by decide +kernel
theorem dX4_weight_37 : decode cX4_weight 37 = .ok (.iconst 1, 1) := by decide +kernel
theorem dX4_weight_38 : decode cX4_weight 38 = .ok (.if_icmp .ne 12, 3) := by decide +kernel
theorem dX4_weight_41 : decode cX4_weight 41 = .ok (.aload_n 0, 1) := by decide +kernel
theorem dX4_weight_42 : decode cX4_weight 42 = .ok (.getfield 18, 3) := by decide +kernel
theorem dX4_weight_45 : decode cX4_weight 45 = .ok (.iconst 2, 1) := by decide +kernel
theorem dX4_weight_46 : decode cX4_weight 46 = .ok (.iaload, 1) := by decide +kernel
theorem dX4_weight_47 : decode cX4_weight 47 = .ok (.goto 4, 3) := by decide +kernel
theorem dX4_weight_50 : decode cX4_weight 50 = .ok (.iconst 0, 1) := by decide +kernel
theorem dX4_weight_51 : decode cX4_weight 51 = .ok (.iadd, 1) := by decide +kernel
theorem dX4_weight_52 : decode cX4_weight 52 = .ok (.ireturn, 1) := by decide +kernel
theorem dX5_addWord_0 : decode cX5_addWord 0 = .ok (.aload_n 0, 1) := by decide +kernel
theorem dX5_addWord_1 : decode cX5_addWord 1 = .ok (.getfield 28, 3) := by decide +kernel
theorem dX5_addWord_4 : decode cX5_addWord 4 = .ok (.bipush 60, 2) := by decide +kernel
theorem dX5_addWord_6 : decode cX5_addWord 6 = .ok (.if_icmp .ge 43, 3) := by decide +kernel
theorem dX5_addWord_9 : decode cX5_addWord 9 = .ok (.aload_n 0, 1) := by decide +kernel
theorem dX5_addWord_10 : decode cX5_addWord 10 = .ok (.getfield 15, 3) := by decide +kernel
theorem dX5_addWord_13 : decode cX5_addWord 13 = .ok (.aload_n 0, 1) := by decide +kernel
theorem dX5_addWord_14 : decode cX5_addWord 14 = .ok (.getfield 28, 3) := by decide +kernel
theorem dX5_addWord_17 : decode cX5_addWord 17 = .ok (.iload_n 1, 1) := by decide +kernel
theorem dX5_addWord_18 : decode cX5_addWord 18 = .ok (.iastore, 1) := by decide +kernel
theorem dX5_addWord_19 : decode cX5_addWord 19 = .ok (.aload_n 0, 1) := by decide +kernel
theorem dX5_addWord_20 : decode cX5_addWord 20 = .ok (.getfield 18, 3) := by decide +kernel
theorem dX5_addWord_23 : decode cX5_addWord 23 = .ok (.aload_n 0, 1) := by decide +kernel
theorem dX5_addWord_24 : decode cX5_addWord 24 = .ok (.getfield 28, 3) := by decide +kernel
theorem dX5_addWord_27 : decode cX5_addWord 27 = .ok (.iload_n 2, 1) := by decide +kernel
theorem dX5_addWord_28 : decode cX5_addWord 28 = .ok (.iastore, 1) := by decide +kernel
theorem dX5_addWord_29 : decode cX5_addWord 29 = .ok (.aload_n 0, 1) := by decide +kernel
theorem dX5_addWord_30 : decode cX5_addWord 30 = .ok (.getfield 21, 3) := by decide +kernel
theorem dX5_addWord_33 : decode cX5_addWord 33 = .ok (.aload_n 0, 1) := by decide +kernel
theorem dX5_addWord_34 : decode cX5_addWord 34 = .ok (.getfield 28, 3) := by decide +kernel
theorem dX5_addWord_37 : decode cX5_addWord 37 = .ok (.iload_n 3, 1) := by decide +kernel
theorem dX5_addWord_38 : decode cX5_addWord 38 = .ok (.iastore, 1) := by decide +kernel
theorem dX5_addWord_39 : decode cX5_addWord 39 = .ok (.aload_n 0, 1) := by decide +kernel
theorem dX5_addWord_40 : decode cX5_addWord 40 = .ok (.dup, 1) := by decide +kernel
theorem dX5_addWord_41 : decode cX5_addWord 41 = .ok (.getfield 28, 3) := by decide +kernel
theorem dX5_addWord_44 : decode cX5_addWord 44 = .ok (.iconst 1, 1) := by decide +kernel
theorem dX5_addWord_45 : decode cX5_addWord 45 = .ok (.iadd, 1) := by decide +kernel
theorem dX5_addWord_46 : decode cX5_addWord 46 = .ok (.putfield 28, 3) := by decide +kernel
theorem dX5_addWord_49 : decode cX5_addWord 49 = .ok (.iload 4, 2) := by decide +kernel
theorem dX5_addWord_51 : decode cX5_addWord 51 = .ok (.ireturn, 1) := by decide +kernel
theorem dX5_fitsLaw_0 : decode cX5_fitsLaw 0 = .ok (.aload_n 1, 1) := by decide +kernel
theorem dX5_fitsLaw_1 : decode cX5_fitsLaw 1 = .ok (.invokevirtual 65, 3) := by decide +kernel
theorem dX5_fitsLaw_4 : decode cX5_fitsLaw 4 = .ok (.aload_n 1, 1) := by decide +kernel
theorem dX5_fitsLaw_5 : decode cX5_fitsLaw 5 = .ok (.getfield 68, 3) := by decide +kernel
theorem dX5_fitsLaw_8 : decode cX5_fitsLaw 8 = .ok (.iconst 0, 1) := by decide +kernel
theorem dX5_fitsLaw_9 : decode cX5_fitsLaw 9 = .ok (.iload_n 2, 1) := by decide +kernel
theorem dX5_fitsLaw_10 : decode cX5_fitsLaw 10 = .ok (.iastore, 1) := by decide +kernel
theorem dX5_fitsLaw_11 : decode cX5_fitsLaw 11 = .ok (.aload_n 1, 1) := by decide +kernel
theorem dX5_fitsLaw_12 : decode cX5_fitsLaw 12 = .ok (.getfield 68, 3) := by decide +kernel
theorem dX5_fitsLaw_15 : decode cX5_fitsLaw 15 = .ok (.iconst 1, 1) := by decide +kernel
theorem dX5_fitsLaw_16 : decode cX5_fitsLaw 16 = .ok (.iload_n 3, 1) := by decide +kernel
theorem dX5_fitsLaw_17 : decode cX5_fitsLaw 17 = .ok (.iastore, 1) := by decide +kernel
theorem dX5_fitsLaw_18 : decode cX5_fitsLaw 18 = .ok (.aload_n 1, 1) := by decide +kernel
theorem dX5_fitsLaw_19 : decode cX5_fitsLaw 19 = .ok (.getfield 68, 3) := by decide +kernel
theorem dX5_fitsLaw_22 : decode cX5_fitsLaw 22 = .ok (.iconst 2, 1) := by decide +kernel
theorem dX5_fitsLaw_23 : decode cX5_fitsLaw 23 = .ok (.iload 4, 2) := by decide +kernel
theorem dX5_fitsLaw_25 : decode cX5_fitsLaw 25 = .ok (.iastore, 1) := by decide +kernel
theorem dX5_fitsLaw_26 : decode cX5_fitsLaw 26 = .ok (.iconst 0, 1) := by decide +kernel
theorem dX5_fitsLaw_27 : decode cX5_fitsLaw 27 = .ok (.istore 5, 2) := by decide +kernel
theorem dX5_fitsLaw_29 : decode cX5_fitsLaw 29 = .ok (.iload 5, 2) := by decide +kernel
theorem dX5_fitsLaw_31 : decode cX5_fitsLaw 31 = .ok (.aload_n 0, 1) := by decide +kernel
theorem dX5_fitsLaw_32 : decode cX5_fitsLaw 32 = .ok (.getfield 28, 3) := by decide +kernel
theorem dX5_fitsLaw_35 : decode cX5_fitsLaw 35 = .ok (.if_icmp .ge 41, 3) := by decide +kernel
theorem dX5_fitsLaw_38 : decode cX5_fitsLaw 38 = .ok (.iload 5, 2) := by decide +kernel
theorem dX5_fitsLaw_40 : decode cX5_fitsLaw 40 = .ok (.bipush 60, 2) := by decide +kernel
theorem dX5_fitsLaw_42 : decode cX5_fitsLaw 42 = .ok (.if_icmp .ge 34, 3) := by decide +kernel
theorem dX5_fitsLaw_45 : decode cX5_fitsLaw 45 = .ok (.aload_n 1, 1) := by decide +kernel
theorem dX5_fitsLaw_46 : decode cX5_fitsLaw 46 = .ok (.aload_n 0, 1) := by decide +kernel
theorem dX5_fitsLaw_47 : decode cX5_fitsLaw 47 = .ok (.getfield 15, 3) := by decide +kernel
theorem dX5_fitsLaw_50 : decode cX5_fitsLaw 50 = .ok (.iload 5, 2) := by decide +kernel
theorem dX5_fitsLaw_52 : decode cX5_fitsLaw 52 = .ok (.iaload, 1) := by decide +kernel
theorem dX5_fitsLaw_53 : decode cX5_fitsLaw 53 = .ok (.aload_n 0, 1) := by decide +kernel
theorem dX5_fitsLaw_54 : decode cX5_fitsLaw 54 = .ok (.getfield 18, 3) := by decide +kernel
theorem dX5_fitsLaw_57 : decode cX5_fitsLaw 57 = .ok (.iload 5, 2) := by decide +kernel
theorem dX5_fitsLaw_59 : decode cX5_fitsLaw 59 = .ok (.iaload, 1) := by decide +kernel
theorem dX5_fitsLaw_60 : decode cX5_fitsLaw 60 = .ok (.aload_n 0, 1) := by decide +kernel
theorem dX5_fitsLaw_61 : decode cX5_fitsLaw 61 = .ok (.getfield 21, 3) := by decide +kernel
theorem dX5_fitsLaw_64 : decode cX5_fitsLaw 64 = .ok (.iload 5, 2) := by decide +kernel
theorem dX5_fitsLaw_66 : decode cX5_fitsLaw 66 = .ok (.iaload, 1) := by decide +kernel
theorem dX5_fitsLaw_67 : decode cX5_fitsLaw 67 = .ok (.invokevirtual 71, 3) := by decide +kernel
theorem dX5_fitsLaw_70 : decode cX5_fitsLaw 70 = .ok (.iinc 5 1, 3) := by decide +kernel
theorem dX5_fitsLaw_73 : decode cX5_fitsLaw 73 = .ok (.goto (-44), 3) := by decide +kernel
theorem dX5_fitsLaw_76 : decode cX5_fitsLaw 76 = .ok (.aload_n 1, 1) := by decide +kernel
theorem dX5_fitsLaw_77 : decode cX5_fitsLaw 77 = .ok (.aload_n 1, 1) := by decide +kernel
theorem dX5_fitsLaw_78 : decode cX5_fitsLaw 78 = .ok (.getfield 75, 3) := by decide +kernel
theorem dX5_fitsLaw_81 : decode cX5_fitsLaw 81 = .ok (.invokevirtual 78, 3) := by decide +kernel
theorem dX5_fitsLaw_84 : decode cX5_fitsLaw 84 = .ok (.ireturn, 1) := by decide +kernel
theorem dX5_holdOn_0 : decode cX5_holdOn 0 = .ok (.aload_n 0, 1) := by decide +kernel
theorem dX5_holdOn_1 : decode cX5_holdOn 1 = .ok (.bipush (-6), 2) := by decide +kernel
theorem dX5_holdOn_3 : decode cX5_holdOn 3 = .ok (.putfield 31, 3) := by decide +kernel
theorem dX5_holdOn_6 : decode cX5_holdOn 6 = .ok (.aload_n 0, 1) := by decide +kernel
theorem dX5_holdOn_7 : decode cX5_holdOn 7 = .ok (.bipush (-6), 2) := by decide +kernel
theorem dX5_holdOn_9 : decode cX5_holdOn 9 = .ok (.putfield 34, 3) := by decide +kernel
theorem dX5_holdOn_12 : decode cX5_holdOn 12 = .ok (.iconst 0, 1) := by decide +kernel
theorem dX5_holdOn_13 : decode cX5_holdOn 13 = .ok (.istore_n 2, 1) := by decide +kernel
theorem dX5_holdOn_14 : decode cX5_holdOn 14 = .ok (.iload_n 2, 1) := by decide +kernel
theorem dX5_holdOn_15 : decode cX5_holdOn 15 = .ok (.aload_n 0, 1) := by decide +kernel
theorem dX5_holdOn_16 : decode cX5_holdOn 16 = .ok (.getfield 28, 3) := by decide +kernel
theorem dX5_holdOn_19 : decode cX5_holdOn 19 = .ok (.if_icmp .ge 79, 3) := by decide +kernel
theorem dX5_holdOn_22 : decode cX5_holdOn 22 = .ok (.iload_n 2, 1) := by decide +kernel
theorem dX5_holdOn_23 : decode cX5_holdOn 23 = .ok (.bipush 60, 2) := by decide +kernel
theorem dX5_holdOn_25 : decode cX5_holdOn 25 = .ok (.if_icmp .ge 73, 3) := by decide +kernel
theorem dX5_holdOn_28 : decode cX5_holdOn 28 = .ok (.aload_n 1, 1) := by decide +kernel
theorem dX5_holdOn_29 : decode cX5_holdOn 29 = .ok (.getfield 52, 3) := by decide +kernel
theorem dX5_holdOn_32 : decode cX5_holdOn 32 = .ok (.istore_n 3, 1) := by decide +kernel
theorem dX5_holdOn_33 : decode cX5_holdOn 33 = .ok (.aload_n 1, 1) := by decide +kernel
theorem dX5_holdOn_34 : decode cX5_holdOn 34 = .ok (.aload_n 0, 1) := by decide +kernel
theorem dX5_holdOn_35 : decode cX5_holdOn 35 = .ok (.getfield 15, 3) := by decide +kernel
theorem dX5_holdOn_38 : decode cX5_holdOn 38 = .ok (.iload_n 2, 1) := by decide +kernel
theorem dX5_holdOn_39 : decode cX5_holdOn 39 = .ok (.iaload, 1) := by decide +kernel
theorem dX5_holdOn_40 : decode cX5_holdOn 40 = .ok (.aload_n 0, 1) := by decide +kernel
theorem dX5_holdOn_41 : decode cX5_holdOn 41 = .ok (.getfield 18, 3) := by decide +kernel
theorem dX5_holdOn_44 : decode cX5_holdOn 44 = .ok (.iload_n 2, 1) := by decide +kernel
theorem dX5_holdOn_45 : decode cX5_holdOn 45 = .ok (.iaload, 1) := by decide +kernel
theorem dX5_holdOn_46 : decode cX5_holdOn 46 = .ok (.aload_n 0, 1) := by decide +kernel
theorem dX5_holdOn_47 : decode cX5_holdOn 47 = .ok (.getfield 21, 3) := by decide +kernel
theorem dX5_holdOn_50 : decode cX5_holdOn 50 = .ok (.iload_n 2, 1) := by decide +kernel
theorem dX5_holdOn_51 : decode cX5_holdOn 51 = .ok (.iaload, 1) := by decide +kernel
theorem dX5_holdOn_52 : decode cX5_holdOn 52 = .ok (.invokevirtual 57, 3) := by decide +kernel
theorem dX5_holdOn_55 : decode cX5_holdOn 55 = .ok (.istore 4, 2) := by decide +kernel
theorem dX5_holdOn_57 : decode cX5_holdOn 57 = .ok (.iload 4, 2) := by decide +kernel
theorem dX5_holdOn_59 : decode cX5_holdOn 59 = .ok (.ifCond .eq 11, 3) := by decide +kernel
theorem dX5_holdOn_62 : decode cX5_holdOn 62 = .ok (.aload_n 0, 1) := by decide +kernel
theorem dX5_holdOn_63 : decode cX5_holdOn 63 = .ok (.iload 4, 2) := by decide +kernel
theorem dX5_holdOn_65 : decode cX5_holdOn 65 = .ok (.putfield 31, 3) := by decide +kernel
theorem dX5_holdOn_68 : decode cX5_holdOn 68 = .ok (.iload_n 2, 1) := by decide +kernel
theorem dX5_holdOn_69 : decode cX5_holdOn 69 = .ok (.ireturn, 1) := by decide +kernel
theorem dX5_holdOn_70 : decode cX5_holdOn 70 = .ok (.aload_n 0, 1) := by decide +kernel
theorem dX5_holdOn_71 : decode cX5_holdOn 71 = .ok (.getfield 34, 3) := by decide +kernel
theorem dX5_holdOn_74 : decode cX5_holdOn 74 = .ok (.bipush (-6), 2) := by decide +kernel
theorem dX5_holdOn_76 : decode cX5_holdOn 76 = .ok (.if_icmp .ne 16, 3) := by decide +kernel
theorem dX5_holdOn_79 : decode cX5_holdOn 79 = .ok (.aload_n 1, 1) := by decide +kernel
theorem dX5_holdOn_80 : decode cX5_holdOn 80 = .ok (.getfield 52, 3) := by decide +kernel
theorem dX5_holdOn_83 : decode cX5_holdOn 83 = .ok (.iload_n 3, 1) := by decide +kernel
theorem dX5_holdOn_84 : decode cX5_holdOn 84 = .ok (.if_icmp .eq 8, 3) := by decide +kernel
theorem dX5_holdOn_87 : decode cX5_holdOn 87 = .ok (.aload_n 0, 1) := by decide +kernel
theorem dX5_holdOn_88 : decode cX5_holdOn 88 = .ok (.iload_n 2, 1) := by decide +kernel
theorem dX5_holdOn_89 : decode cX5_holdOn 89 = .ok (.putfield 34, 3) := by decide +kernel
theorem dX5_holdOn_92 : decode cX5_holdOn 92 = .ok (.iinc 2 1, 3) := by decide +kernel
theorem dX5_holdOn_95 : decode cX5_holdOn 95 = .ok (.goto (-81), 3) := by decide +kernel
theorem dX5_holdOn_98 : decode cX5_holdOn 98 = .ok (.bipush (-6), 2) := by decide +kernel
theorem dX5_holdOn_100 : decode cX5_holdOn 100 = .ok (.ireturn, 1) := by decide +kernel
theorem dX5_init_0 : decode cX5_init 0 = .ok (.aload_n 0, 1) := by decide +kernel
theorem dX5_init_1 : decode cX5_init 1 = .ok (.invokespecial 3, 3) := by decide +kernel
theorem dX5_init_4 : decode cX5_init 4 = .ok (.aload_n 0, 1) := by decide +kernel
theorem dX5_init_5 : decode cX5_init 5 = .ok (.bipush 60, 2) := by decide +kernel
theorem dX5_init_7 : decode cX5_init 7 = .ok (.newarray .int, 2) := by decide +kernel
theorem dX5_init_9 : decode cX5_init 9 = .ok (.putfield 9, 3) := by decide +kernel
theorem dX5_init_12 : decode cX5_init 12 = .ok (.aload_n 0, 1) := by decide +kernel
theorem dX5_init_13 : decode cX5_init 13 = .ok (.bipush 60, 2) := by decide +kernel
theorem dX5_init_15 : decode cX5_init 15 = .ok (.newarray .int, 2) := by decide +kernel
theorem dX5_init_17 : decode cX5_init 17 = .ok (.putfield 15, 3) := by decide +kernel
theorem dX5_init_20 : decode cX5_init 20 = .ok (.aload_n 0, 1) := by decide +kernel
theorem dX5_init_21 : decode cX5_init 21 = .ok (.bipush 60, 2) := by decide +kernel
theorem dX5_init_23 : decode cX5_init 23 = .ok (.newarray .int, 2) := by decide +kernel
theorem dX5_init_25 : decode cX5_init 25 = .ok (.putfield 18, 3) := by decide +kernel
theorem dX5_init_28 : decode cX5_init 28 = .ok (.aload_n 0, 1) := by decide +kernel
theorem dX5_init_29 : decode cX5_init 29 = .ok (.bipush 60, 2) := by decide +kernel
theorem dX5_init_31 : decode cX5_init 31 = .ok (.newarray .int, 2) := by decide +kernel
theorem dX5_init_33 : decode cX5_init 33 = .ok (.putfield 21, 3) := by decide +kernel
theorem dX5_init_36 : decode cX5_init 36 = .ok (.aload_n 0, 1) := by decide +kernel
theorem dX5_init_37 : decode cX5_init 37 = .ok (.iconst 0, 1) := by decide +kernel
theorem dX5_init_38 : decode cX5_init 38 = .ok (.putfield 24, 3) := by decide +kernel
theorem dX5_init_41 : decode cX5_init 41 = .ok (.aload_n 0, 1) := by decide +kernel
theorem dX5_init_42 : decode cX5_init 42 = .ok (.iconst 0, 1) := by decide +kernel
theorem dX5_init_43 : decode cX5_init 43 = .ok (.putfield 28, 3) := by decide +kernel
theorem dX5_init_46 : decode cX5_init 46 = .ok (.aload_n 0, 1) := by decide +kernel
theorem dX5_init_47 : decode cX5_init 47 = .ok (.bipush (-6), 2) := by decide +kernel
theorem dX5_init_49 : decode cX5_init 49 = .ok (.putfield 31, 3) := by decide +kernel
theorem dX5_init_52 : decode cX5_init 52 = .ok (.aload_n 0, 1) := by decide +kernel
theorem dX5_init_53 : decode cX5_init 53 = .ok (.bipush (-6), 2) := by decide +kernel
theorem dX5_init_55 : decode cX5_init 55 = .ok (.putfield 34, 3) := by decide +kernel
theorem dX5_init_58 : decode cX5_init 58 = .ok (.return_, 1) := by decide +kernel
theorem dX5_isOfOthersOnly_0 : decode cX5_isOfOthersOnly 0 = .ok (.iconst 0, 1) := by decide +kernel
theorem dX5_isOfOthersOnly_1 : decode cX5_isOfOthersOnly 1 = .ok (.istore_n 1, 1) := by decide +kernel
theorem dX5_isOfOthersOnly_2 : decode cX5_isOfOthersOnly 2 = .ok (.iload_n 1, 1) := by decide +kernel
theorem dX5_isOfOthersOnly_3 : decode cX5_isOfOthersOnly 3 = .ok (.aload_n 0, 1) := by decide +kernel
theorem dX5_isOfOthersOnly_4 : decode cX5_isOfOthersOnly 4 = .ok (.getfield 28, 3) := by decide +kernel
theorem dX5_isOfOthersOnly_7 : decode cX5_isOfOthersOnly 7 = .ok (.if_icmp .ge 46, 3) := by decide +kernel
theorem dX5_isOfOthersOnly_10 : decode cX5_isOfOthersOnly 10 = .ok (.iload_n 1, 1) := by decide +kernel
theorem dX5_isOfOthersOnly_11 : decode cX5_isOfOthersOnly 11 = .ok (.bipush 60, 2) := by decide +kernel
theorem dX5_isOfOthersOnly_13 : decode cX5_isOfOthersOnly 13 = .ok (.if_icmp .ge 40, 3) := by decide +kernel
theorem dX5_isOfOthersOnly_16 : decode cX5_isOfOthersOnly 16 = .ok (.aload_n 0, 1) := by decide +kernel
theorem dX5_isOfOthersOnly_17 : decode cX5_isOfOthersOnly 17 = .ok (.getfield 15, 3) := by decide +kernel
theorem dX5_isOfOthersOnly_20 : decode cX5_isOfOthersOnly 20 = .ok (.iload_n 1, 1) := by decide +kernel
theorem dX5_isOfOthersOnly_21 : decode cX5_isOfOthersOnly 21 = .ok (.iaload, 1) := by decide +kernel
theorem dX5_isOfOthersOnly_22 : decode cX5_isOfOthersOnly 22 = .ok (.iconst 0, 1) := by decide +kernel
theorem dX5_isOfOthersOnly_23 : decode cX5_isOfOthersOnly 23 = .ok (.iconst 1, 1) := by decide +kernel
theorem dX5_isOfOthersOnly_24 : decode cX5_isOfOthersOnly 24 = .ok (.invokestatic 61, 3) := by decide +kernel
theorem dX5_isOfOthersOnly_27 : decode cX5_isOfOthersOnly 27 = .ok (.ifCond .ne 18, 3) := by decide +kernel
theorem dX5_isOfOthersOnly_30 : decode cX5_isOfOthersOnly 30 = .ok (.aload_n 0, 1) := by decide +kernel
theorem dX5_isOfOthersOnly_31 : decode cX5_isOfOthersOnly 31 = .ok (.getfield 18, 3) := by decide +kernel
theorem dX5_isOfOthersOnly_34 : decode cX5_isOfOthersOnly 34 = .ok (.iload_n 1, 1) := by decide +kernel
theorem dX5_isOfOthersOnly_35 : decode cX5_isOfOthersOnly 35 = .ok (.iaload, 1) := by decide +kernel
theorem dX5_isOfOthersOnly_36 : decode cX5_isOfOthersOnly 36 = .ok (.aload_n 0, 1) := by decide +kernel
theorem dX5_isOfOthersOnly_37 : decode cX5_isOfOthersOnly 37 = .ok (.getfield 21, 3) := by decide +kernel
theorem dX5_isOfOthersOnly_40 : decode cX5_isOfOthersOnly 40 = .ok (.iload_n 1, 1) := by decide +kernel
theorem dX5_isOfOthersOnly_41 : decode cX5_isOfOthersOnly 41 = .ok (.iaload, 1) := by decide +kernel
theorem dX5_isOfOthersOnly_42 : decode cX5_isOfOthersOnly 42 = .ok (.if_icmp .ne 5, 3) := by decide +kernel
theorem dX5_isOfOthersOnly_45 : decode cX5_isOfOthersOnly 45 = .ok (.iconst 0, 1) := by decide +kernel
theorem dX5_isOfOthersOnly_46 : decode cX5_isOfOthersOnly 46 = .ok (.ireturn, 1) := by decide +kernel
theorem dX5_isOfOthersOnly_47 : decode cX5_isOfOthersOnly 47 = .ok (.iinc 1 1, 3) := by decide +kernel
theorem dX5_isOfOthersOnly_50 : decode cX5_isOfOthersOnly 50 = .ok (.goto (-48), 3) := by decide +kernel
theorem dX5_isOfOthersOnly_53 : decode cX5_isOfOthersOnly 53 = .ok (.iconst 1, 1) := by decide +kernel
theorem dX5_isOfOthersOnly_54 : decode cX5_isOfOthersOnly 54 = .ok (.ireturn, 1) := by decide +kernel
theorem dX5_kindOf_0 : decode cX5_kindOf 0 = .ok (.iload_n 0, 1) := by decide +kernel
theorem dX5_kindOf_1 : decode cX5_kindOf 1 = .ok (.lookupswitch 41 #[(43, 39), (108, 37), (116, 35)], 35) := by decide +kernel
theorem dX5_kindOf_36 : decode cX5_kindOf 36 = .ok (.iconst 0, 1) := by decide +kernel
theorem dX5_kindOf_37 : decode cX5_kindOf 37 = .ok (.ireturn, 1) := by decide +kernel
theorem dX5_kindOf_38 : decode cX5_kindOf 38 = .ok (.iconst 1, 1) := by decide +kernel
theorem dX5_kindOf_39 : decode cX5_kindOf 39 = .ok (.ireturn, 1) := by decide +kernel
theorem dX5_kindOf_40 : decode cX5_kindOf 40 = .ok (.iconst 2, 1) := by decide +kernel
theorem dX5_kindOf_41 : decode cX5_kindOf 41 = .ok (.ireturn, 1) := by decide +kernel
theorem dX5_kindOf_42 : decode cX5_kindOf 42 = .ok (.bipush (-6), 2) := by decide +kernel
theorem dX5_kindOf_44 : decode cX5_kindOf 44 = .ok (.ireturn, 1) := by decide +kernel
theorem dX5_read_0 : decode cX5_read 0 = .ok (.aload_n 0, 1) := by decide +kernel
theorem dX5_read_1 : decode cX5_read 1 = .ok (.iconst 0, 1) := by decide +kernel
theorem dX5_read_2 : decode cX5_read 2 = .ok (.putfield 28, 3) := by decide +kernel
theorem dX5_read_5 : decode cX5_read 5 = .ok (.iconst 0, 1) := by decide +kernel
theorem dX5_read_6 : decode cX5_read 6 = .ok (.istore_n 2, 1) := by decide +kernel
theorem dX5_read_7 : decode cX5_read 7 = .ok (.iconst 0, 1) := by decide +kernel
theorem dX5_read_8 : decode cX5_read 8 = .ok (.istore_n 3, 1) := by decide +kernel
theorem dX5_read_9 : decode cX5_read 9 = .ok (.iload_n 3, 1) := by decide +kernel
theorem dX5_read_10 : decode cX5_read 10 = .ok (.bipush 60, 2) := by decide +kernel
theorem dX5_read_12 : decode cX5_read 12 = .ok (.if_icmp .ge 40, 3) := by decide +kernel
theorem dX5_read_15 : decode cX5_read 15 = .ok (.iload_n 2, 1) := by decide +kernel
theorem dX5_read_16 : decode cX5_read 16 = .ok (.aload_n 0, 1) := by decide +kernel
theorem dX5_read_17 : decode cX5_read 17 = .ok (.getfield 24, 3) := by decide +kernel
theorem dX5_read_20 : decode cX5_read 20 = .ok (.if_icmp .ge 32, 3) := by decide +kernel
theorem dX5_read_23 : decode cX5_read 23 = .ok (.aload_n 0, 1) := by decide +kernel
theorem dX5_read_24 : decode cX5_read 24 = .ok (.iload_n 2, 1) := by decide +kernel
theorem dX5_read_25 : decode cX5_read 25 = .ok (.iload_n 1, 1) := by decide +kernel
theorem dX5_read_26 : decode cX5_read 26 = .ok (.invokevirtual 37, 3) := by decide +kernel
theorem dX5_read_29 : decode cX5_read 29 = .ok (.istore 4, 2) := by decide +kernel
theorem dX5_read_31 : decode cX5_read 31 = .ok (.iload 4, 2) := by decide +kernel
theorem dX5_read_33 : decode cX5_read 33 = .ok (.iconst 1, 1) := by decide +kernel
theorem dX5_read_34 : decode cX5_read 34 = .ok (.if_icmp .ge 7, 3) := by decide +kernel
theorem dX5_read_37 : decode cX5_read 37 = .ok (.iload 4, 2) := by decide +kernel
theorem dX5_read_39 : decode cX5_read 39 = .ok (.ineg, 1) := by decide +kernel
theorem dX5_read_40 : decode cX5_read 40 = .ok (.ireturn, 1) := by decide +kernel
theorem dX5_read_41 : decode cX5_read 41 = .ok (.iload_n 2, 1) := by decide +kernel
theorem dX5_read_42 : decode cX5_read 42 = .ok (.iload 4, 2) := by decide +kernel
theorem dX5_read_44 : decode cX5_read 44 = .ok (.iadd, 1) := by decide +kernel
theorem dX5_read_45 : decode cX5_read 45 = .ok (.istore_n 2, 1) := by decide +kernel
theorem dX5_read_46 : decode cX5_read 46 = .ok (.iinc 3 1, 3) := by decide +kernel
theorem dX5_read_49 : decode cX5_read 49 = .ok (.goto (-40), 3) := by decide +kernel
theorem dX5_read_52 : decode cX5_read 52 = .ok (.bipush (-6), 2) := by decide +kernel
theorem dX5_read_54 : decode cX5_read 54 = .ok (.ireturn, 1) := by decide +kernel
theorem dX5_readWord_0 : decode cX5_readWord 0 = .ok (.aload_n 0, 1) := by decide +kernel
theorem dX5_readWord_1 : decode cX5_readWord 1 = .ok (.iload_n 1, 1) := by decide +kernel
theorem dX5_readWord_2 : decode cX5_readWord 2 = .ok (.invokevirtual 41, 3) := by decide +kernel
theorem dX5_readWord_5 : decode cX5_readWord 5 = .ok (.istore_n 3, 1) := by decide +kernel
theorem dX5_readWord_6 : decode cX5_readWord 6 = .ok (.iload_n 3, 1) := by decide +kernel
theorem dX5_readWord_7 : decode cX5_readWord 7 = .ok (.bipush 46, 2) := by decide +kernel
theorem dX5_readWord_9 : decode cX5_readWord 9 = .ok (.if_icmp .eq 9, 3) := by decide +kernel
theorem dX5_readWord_12 : decode cX5_readWord 12 = .ok (.iload_n 3, 1) := by decide +kernel
theorem dX5_readWord_13 : decode cX5_readWord 13 = .ok (.bipush 119, 2) := by decide +kernel
theorem dX5_readWord_15 : decode cX5_readWord 15 = .ok (.if_icmp .ne 22, 3) := by decide +kernel
theorem dX5_readWord_18 : decode cX5_readWord 18 = .ok (.aload_n 0, 1) := by decide +kernel
theorem dX5_readWord_19 : decode cX5_readWord 19 = .ok (.iload_n 3, 1) := by decide +kernel
theorem dX5_readWord_20 : decode cX5_readWord 20 = .ok (.bipush 119, 2) := by decide +kernel
theorem dX5_readWord_22 : decode cX5_readWord 22 = .ok (.if_icmp .ne 7, 3) := by decide +kernel
theorem dX5_readWord_25 : decode cX5_readWord 25 = .ok (.iconst 5, 1) := by decide +kernel
theorem dX5_readWord_26 : decode cX5_readWord 26 = .ok (.goto 4, 3) := by decide +kernel
theorem dX5_readWord_29 : decode cX5_readWord 29 = .ok (.iconst 4, 1) := by decide +kernel
theorem dX5_readWord_30 : decode cX5_readWord 30 = .ok (.iconst 0, 1) := by decide +kernel
theorem dX5_readWord_31 : decode cX5_readWord 31 = .ok (.iconst 0, 1) := by decide +kernel
theorem dX5_readWord_32 : decode cX5_readWord 32 = .ok (.iconst 1, 1) := by decide +kernel
theorem dX5_readWord_33 : decode cX5_readWord 33 = .ok (.invokevirtual 45, 3) := by decide +kernel
theorem dX5_readWord_36 : decode cX5_readWord 36 = .ok (.ireturn, 1) := by decide +kernel
theorem dX5_readWord_37 : decode cX5_readWord 37 = .ok (.iload_n 3, 1) := by decide +kernel
theorem dX5_readWord_38 : decode cX5_readWord 38 = .ok (.bipush 97, 2) := by decide +kernel
theorem dX5_readWord_40 : decode cX5_readWord 40 = .ok (.isub, 1) := by decide +kernel
theorem dX5_readWord_41 : decode cX5_readWord 41 = .ok (.istore 4, 2) := by decide +kernel
theorem dX5_readWord_43 : decode cX5_readWord 43 = .ok (.iload 4, 2) := by decide +kernel
theorem dX5_readWord_45 : decode cX5_readWord 45 = .ok (.ifCond .lt 9, 3) := by decide +kernel
theorem dX5_readWord_48 : decode cX5_readWord 48 = .ok (.iload 4, 2) := by decide +kernel
theorem dX5_readWord_50 : decode cX5_readWord 50 = .ok (.iload_n 2, 1) := by decide +kernel
theorem dX5_readWord_51 : decode cX5_readWord 51 = .ok (.if_icmp .lt 6, 3) := by decide +kernel
theorem dX5_readWord_54 : decode cX5_readWord 54 = .ok (.iload_n 1, 1) := by decide +kernel
theorem dX5_readWord_55 : decode cX5_readWord 55 = .ok (.ineg, 1) := by decide +kernel
theorem dX5_readWord_56 : decode cX5_readWord 56 = .ok (.ireturn, 1) := by decide +kernel
theorem dX5_readWord_57 : decode cX5_readWord 57 = .ok (.aload_n 0, 1) := by decide +kernel
theorem dX5_readWord_58 : decode cX5_readWord 58 = .ok (.iload_n 1, 1) := by decide +kernel
theorem dX5_readWord_59 : decode cX5_readWord 59 = .ok (.iconst 1, 1) := by decide +kernel
theorem dX5_readWord_60 : decode cX5_readWord 60 = .ok (.iadd, 1) := by decide +kernel
theorem dX5_readWord_61 : decode cX5_readWord 61 = .ok (.invokevirtual 41, 3) := by decide +kernel
theorem dX5_readWord_64 : decode cX5_readWord 64 = .ok (.istore 5, 2) := by decide +kernel
theorem dX5_readWord_66 : decode cX5_readWord 66 = .ok (.iload 5, 2) := by decide +kernel
theorem dX5_readWord_68 : decode cX5_readWord 68 = .ok (.bipush 42, 2) := by decide +kernel
theorem dX5_readWord_70 : decode cX5_readWord 70 = .ok (.if_icmp .ne 13, 3) := by decide +kernel
theorem dX5_readWord_73 : decode cX5_readWord 73 = .ok (.aload_n 0, 1) := by decide +kernel
theorem dX5_readWord_74 : decode cX5_readWord 74 = .ok (.iconst 3, 1) := by decide +kernel
theorem dX5_readWord_75 : decode cX5_readWord 75 = .ok (.iload 4, 2) := by decide +kernel
theorem dX5_readWord_77 : decode cX5_readWord 77 = .ok (.iconst 0, 1) := by decide +kernel
theorem dX5_readWord_78 : decode cX5_readWord 78 = .ok (.iconst 2, 1) := by decide +kernel
theorem dX5_readWord_79 : decode cX5_readWord 79 = .ok (.invokevirtual 45, 3) := by decide +kernel
theorem dX5_readWord_82 : decode cX5_readWord 82 = .ok (.ireturn, 1) := by decide +kernel
theorem dX5_readWord_83 : decode cX5_readWord 83 = .ok (.iload 5, 2) := by decide +kernel
theorem dX5_readWord_85 : decode cX5_readWord 85 = .ok (.bipush 65, 2) := by decide +kernel
theorem dX5_readWord_87 : decode cX5_readWord 87 = .ok (.isub, 1) := by decide +kernel
theorem dX5_readWord_88 : decode cX5_readWord 88 = .ok (.istore 6, 2) := by decide +kernel
theorem dX5_readWord_90 : decode cX5_readWord 90 = .ok (.iload 6, 2) := by decide +kernel
theorem dX5_readWord_92 : decode cX5_readWord 92 = .ok (.ifCond .lt 9, 3) := by decide +kernel
theorem dX5_readWord_95 : decode cX5_readWord 95 = .ok (.iload 6, 2) := by decide +kernel
theorem dX5_readWord_97 : decode cX5_readWord 97 = .ok (.iload_n 2, 1) := by decide +kernel
theorem dX5_readWord_98 : decode cX5_readWord 98 = .ok (.if_icmp .lt 8, 3) := by decide +kernel
theorem dX5_readWord_101 : decode cX5_readWord 101 = .ok (.iload_n 1, 1) := by decide +kernel
theorem dX5_readWord_102 : decode cX5_readWord 102 = .ok (.iconst 1, 1) := by decide +kernel
theorem dX5_readWord_103 : decode cX5_readWord 103 = .ok (.iadd, 1) := by decide +kernel
theorem dX5_readWord_104 : decode cX5_readWord 104 = .ok (.ineg, 1) := by decide +kernel
theorem dX5_readWord_105 : decode cX5_readWord 105 = .ok (.ireturn, 1) := by decide +kernel
theorem dX5_readWord_106 : decode cX5_readWord 106 = .ok (.aload_n 0, 1) := by decide +kernel
theorem dX5_readWord_107 : decode cX5_readWord 107 = .ok (.iload_n 1, 1) := by decide +kernel
theorem dX5_readWord_108 : decode cX5_readWord 108 = .ok (.iconst 2, 1) := by decide +kernel
theorem dX5_readWord_109 : decode cX5_readWord 109 = .ok (.iadd, 1) := by decide +kernel
theorem dX5_readWord_110 : decode cX5_readWord 110 = .ok (.invokevirtual 41, 3) := by decide +kernel
theorem dX5_readWord_113 : decode cX5_readWord 113 = .ok (.invokestatic 49, 3) := by decide +kernel
theorem dX5_readWord_116 : decode cX5_readWord 116 = .ok (.istore 7, 2) := by decide +kernel
theorem dX5_readWord_118 : decode cX5_readWord 118 = .ok (.iload 7, 2) := by decide +kernel
theorem dX5_readWord_120 : decode cX5_readWord 120 = .ok (.bipush (-6), 2) := by decide +kernel
theorem dX5_readWord_122 : decode cX5_readWord 122 = .ok (.if_icmp .ne 10, 3) := by decide +kernel
theorem dX5_readWord_125 : decode cX5_readWord 125 = .ok (.iload_n 1, 1) := by decide +kernel
theorem dX5_readWord_126 : decode cX5_readWord 126 = .ok (.iconst 2, 1) := by decide +kernel
theorem dX5_readWord_127 : decode cX5_readWord 127 = .ok (.iadd, 1) := by decide +kernel
theorem dX5_readWord_128 : decode cX5_readWord 128 = .ok (.ineg, 1) := by decide +kernel
theorem dX5_readWord_129 : decode cX5_readWord 129 = .ok (.goto 14, 3) := by decide +kernel
theorem dX5_readWord_132 : decode cX5_readWord 132 = .ok (.aload_n 0, 1) := by decide +kernel
theorem dX5_readWord_133 : decode cX5_readWord 133 = .ok (.iload 7, 2) := by decide +kernel
theorem dX5_readWord_135 : decode cX5_readWord 135 = .ok (.iload 4, 2) := by decide +kernel
theorem dX5_readWord_137 : decode cX5_readWord 137 = .ok (.iload 6, 2) := by decide +kernel
theorem dX5_readWord_139 : decode cX5_readWord 139 = .ok (.iconst 3, 1) := by decide +kernel
theorem dX5_readWord_140 : decode cX5_readWord 140 = .ok (.invokevirtual 45, 3) := by decide +kernel
theorem dX5_readWord_143 : decode cX5_readWord 143 = .ok (.ireturn, 1) := by decide +kernel
theorem dX5_signAt_0 : decode cX5_signAt 0 = .ok (.iload_n 1, 1) := by decide +kernel
theorem dX5_signAt_1 : decode cX5_signAt 1 = .ok (.ifCond .lt 26, 3) := by decide +kernel
theorem dX5_signAt_4 : decode cX5_signAt 4 = .ok (.iload_n 1, 1) := by decide +kernel
theorem dX5_signAt_5 : decode cX5_signAt 5 = .ok (.aload_n 0, 1) := by decide +kernel
theorem dX5_signAt_6 : decode cX5_signAt 6 = .ok (.getfield 24, 3) := by decide +kernel
theorem dX5_signAt_9 : decode cX5_signAt 9 = .ok (.if_icmp .ge 18, 3) := by decide +kernel
theorem dX5_signAt_12 : decode cX5_signAt 12 = .ok (.iload_n 1, 1) := by decide +kernel
theorem dX5_signAt_13 : decode cX5_signAt 13 = .ok (.bipush 60, 2) := by decide +kernel
theorem dX5_signAt_15 : decode cX5_signAt 15 = .ok (.if_icmp .ge 12, 3) := by decide +kernel
theorem dX5_signAt_18 : decode cX5_signAt 18 = .ok (.aload_n 0, 1) := by decide +kernel
theorem dX5_signAt_19 : decode cX5_signAt 19 = .ok (.getfield 9, 3) := by decide +kernel
theorem dX5_signAt_22 : decode cX5_signAt 22 = .ok (.iload_n 1, 1) := by decide +kernel
theorem dX5_signAt_23 : decode cX5_signAt 23 = .ok (.iaload, 1) := by decide +kernel
theorem dX5_signAt_24 : decode cX5_signAt 24 = .ok (.goto 4, 3) := by decide +kernel
theorem dX5_signAt_27 : decode cX5_signAt 27 = .ok (.iconst 0, 1) := by decide +kernel
theorem dX5_signAt_28 : decode cX5_signAt 28 = .ok (.ireturn, 1) := by decide +kernel
