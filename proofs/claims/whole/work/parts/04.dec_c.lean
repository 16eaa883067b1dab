theorem dX7_asNow_0 : decode cX7_asNow 0 = .ok (.aload_n 0, 1) := by decide +kernel
theorem dX7_asNow_1 : decode cX7_asNow 1 = .ok (.aload_n 0, 1) := by decide +kernel
theorem dX7_asNow_2 : decode cX7_asNow 2 = .ok (.getfield 82, 3) := by decide +kernel
theorem dX7_asNow_5 : decode cX7_asNow 5 = .ok (.putfield 106, 3) := by decide +kernel
theorem dX7_asNow_8 : decode cX7_asNow 8 = .ok (.aload_n 0, 1) := by decide +kernel
theorem dX7_asNow_9 : decode cX7_asNow 9 = .ok (.aload_n 0, 1) := by decide +kernel
theorem dX7_asNow_10 : decode cX7_asNow 10 = .ok (.getfield 85, 3) := by decide +kernel
theorem dX7_asNow_13 : decode cX7_asNow 13 = .ok (.putfield 109, 3) := by decide +kernel
theorem dX7_asNow_16 : decode cX7_asNow 16 = .ok (.aload_n 0, 1) := by decide +kernel
theorem dX7_asNow_17 : decode cX7_asNow 17 = .ok (.aload_n 0, 1) := by decide +kernel
theorem dX7_asNow_18 : decode cX7_asNow 18 = .ok (.getfield 26, 3) := by decide +kernel
theorem dX7_asNow_21 : decode cX7_asNow 21 = .ok (.putfield 112, 3) := by decide +kernel
theorem dX7_asNow_24 : decode cX7_asNow 24 = .ok (.aload_n 0, 1) := by decide +kernel
theorem dX7_asNow_25 : decode cX7_asNow 25 = .ok (.aload_n 0, 1) := by decide +kernel
theorem dX7_asNow_26 : decode cX7_asNow 26 = .ok (.getfield 29, 3) := by decide +kernel
theorem dX7_asNow_29 : decode cX7_asNow 29 = .ok (.putfield 115, 3) := by decide +kernel
theorem dX7_asNow_32 : decode cX7_asNow 32 = .ok (.aload_n 0, 1) := by decide +kernel
theorem dX7_asNow_33 : decode cX7_asNow 33 = .ok (.aload_n 0, 1) := by decide +kernel
theorem dX7_asNow_34 : decode cX7_asNow 34 = .ok (.getfield 32, 3) := by decide +kernel
theorem dX7_asNow_37 : decode cX7_asNow 37 = .ok (.putfield 118, 3) := by decide +kernel
theorem dX7_asNow_40 : decode cX7_asNow 40 = .ok (.iconst 0, 1) := by decide +kernel
theorem dX7_asNow_41 : decode cX7_asNow 41 = .ok (.istore_n 1, 1) := by decide +kernel
theorem dX7_asNow_42 : decode cX7_asNow 42 = .ok (.iload_n 1, 1) := by decide +kernel
theorem dX7_asNow_43 : decode cX7_asNow 43 = .ok (.bipush 8, 2) := by decide +kernel
theorem dX7_asNow_45 : decode cX7_asNow 45 = .ok (.if_icmp .ge 33, 3) := by decide +kernel
theorem dX7_asNow_48 : decode cX7_asNow 48 = .ok (.aload_n 0, 1) := by decide +kernel
theorem dX7_asNow_49 : decode cX7_asNow 49 = .ok (.getfield 44, 3) := by decide +kernel
theorem dX7_asNow_52 : decode cX7_asNow 52 = .ok (.iload_n 1, 1) := by decide +kernel
theorem dX7_asNow_53 : decode cX7_asNow 53 = .ok (.aload_n 0, 1) := by decide +kernel
theorem dX7_asNow_54 : decode cX7_asNow 54 = .ok (.getfield 13, 3) := by decide +kernel
theorem dX7_asNow_57 : decode cX7_asNow 57 = .ok (.iload_n 1, 1) := by decide +kernel
theorem dX7_asNow_58 : decode cX7_asNow 58 = .ok (.iaload, 1) := by decide +kernel
theorem dX7_asNow_59 : decode cX7_asNow 59 = .ok (.iastore, 1) := by decide +kernel
theorem dX7_asNow_60 : decode cX7_asNow 60 = .ok (.aload_n 0, 1) := by decide +kernel
theorem dX7_asNow_61 : decode cX7_asNow 61 = .ok (.getfield 50, 3) := by decide +kernel
theorem dX7_asNow_64 : decode cX7_asNow 64 = .ok (.iload_n 1, 1) := by decide +kernel
theorem dX7_asNow_65 : decode cX7_asNow 65 = .ok (.aload_n 0, 1) := by decide +kernel
theorem dX7_asNow_66 : decode cX7_asNow 66 = .ok (.getfield 20, 3) := by decide +kernel
theorem dX7_asNow_69 : decode cX7_asNow 69 = .ok (.iload_n 1, 1) := by decide +kernel
theorem dX7_asNow_70 : decode cX7_asNow 70 = .ok (.iaload, 1) := by decide +kernel
theorem dX7_asNow_71 : decode cX7_asNow 71 = .ok (.iastore, 1) := by decide +kernel
theorem dX7_asNow_72 : decode cX7_asNow 72 = .ok (.iinc 1 1, 3) := by decide +kernel
theorem dX7_asNow_75 : decode cX7_asNow 75 = .ok (.goto (-33), 3) := by decide +kernel
theorem dX7_asNow_78 : decode cX7_asNow 78 = .ok (.iconst 0, 1) := by decide +kernel
theorem dX7_asNow_79 : decode cX7_asNow 79 = .ok (.istore_n 1, 1) := by decide +kernel
theorem dX7_asNow_80 : decode cX7_asNow 80 = .ok (.iload_n 1, 1) := by decide +kernel
theorem dX7_asNow_81 : decode cX7_asNow 81 = .ok (.bipush 64, 2) := by decide +kernel
theorem dX7_asNow_83 : decode cX7_asNow 83 = .ok (.if_icmp .ge 21, 3) := by decide +kernel
theorem dX7_asNow_86 : decode cX7_asNow 86 = .ok (.aload_n 0, 1) := by decide +kernel
theorem dX7_asNow_87 : decode cX7_asNow 87 = .ok (.getfield 53, 3) := by decide +kernel
theorem dX7_asNow_90 : decode cX7_asNow 90 = .ok (.iload_n 1, 1) := by decide +kernel
theorem dX7_asNow_91 : decode cX7_asNow 91 = .ok (.aload_n 0, 1) := by decide +kernel
theorem dX7_asNow_92 : decode cX7_asNow 92 = .ok (.getfield 23, 3) := by decide +kernel
theorem dX7_asNow_95 : decode cX7_asNow 95 = .ok (.iload_n 1, 1) := by decide +kernel
theorem dX7_asNow_96 : decode cX7_asNow 96 = .ok (.iaload, 1) := by decide +kernel
theorem dX7_asNow_97 : decode cX7_asNow 97 = .ok (.iastore, 1) := by decide +kernel
theorem dX7_asNow_98 : decode cX7_asNow 98 = .ok (.iinc 1 1, 3) := by decide +kernel
theorem dX7_asNow_101 : decode cX7_asNow 101 = .ok (.goto (-21), 3) := by decide +kernel
theorem dX7_asNow_104 : decode cX7_asNow 104 = .ok (.return_, 1) := by decide +kernel
theorem dX7_barOfTalk_0 : decode cX7_barOfTalk 0 = .ok (.aload_n 0, 1) := by decide +kernel
theorem dX7_barOfTalk_1 : decode cX7_barOfTalk 1 = .ok (.invokevirtual 168, 3) := by decide +kernel
theorem dX7_barOfTalk_4 : decode cX7_barOfTalk 4 = .ok (.aload_n 0, 1) := by decide +kernel
theorem dX7_barOfTalk_5 : decode cX7_barOfTalk 5 = .ok (.invokevirtual 102, 3) := by decide +kernel
theorem dX7_barOfTalk_8 : decode cX7_barOfTalk 8 = .ok (.ifCond .ge 11, 3) := by decide +kernel
theorem dX7_barOfTalk_11 : decode cX7_barOfTalk 11 = .ok (.aload_n 0, 1) := by decide +kernel
theorem dX7_barOfTalk_12 : decode cX7_barOfTalk 12 = .ok (.iconst 0, 1) := by decide +kernel
theorem dX7_barOfTalk_13 : decode cX7_barOfTalk 13 = .ok (.invokevirtual 171, 3) := by decide +kernel
theorem dX7_barOfTalk_16 : decode cX7_barOfTalk 16 = .ok (.ifCond .lt 8, 3) := by decide +kernel
theorem dX7_barOfTalk_19 : decode cX7_barOfTalk 19 = .ok (.bipush (-5), 2) := by decide +kernel
theorem dX7_barOfTalk_21 : decode cX7_barOfTalk 21 = .ok (.goto 4, 3) := by decide +kernel
theorem dX7_barOfTalk_24 : decode cX7_barOfTalk 24 = .ok (.iconst 0, 1) := by decide +kernel
theorem dX7_barOfTalk_25 : decode cX7_barOfTalk 25 = .ok (.ireturn, 1) := by decide +kernel
theorem dX7_bearing_0 : decode cX7_bearing 0 = .ok (.lconst 0, 1) := by decide +kernel
theorem dX7_bearing_1 : decode cX7_bearing 1 = .ok (.lstore 5, 2) := by decide +kernel
theorem dX7_bearing_3 : decode cX7_bearing 3 = .ok (.iconst 0, 1) := by decide +kernel
theorem dX7_bearing_4 : decode cX7_bearing 4 = .ok (.istore 7, 2) := by decide +kernel
theorem dX7_bearing_6 : decode cX7_bearing 6 = .ok (.iload 7, 2) := by decide +kernel
theorem dX7_bearing_8 : decode cX7_bearing 8 = .ok (.iconst 1, 1) := by decide +kernel
theorem dX7_bearing_9 : decode cX7_bearing 9 = .ok (.iload_n 3, 1) := by decide +kernel
theorem dX7_bearing_10 : decode cX7_bearing 10 = .ok (.ishl, 1) := by decide +kernel
theorem dX7_bearing_11 : decode cX7_bearing 11 = .ok (.if_icmp .ge 103, 3) := by decide +kernel
theorem dX7_bearing_14 : decode cX7_bearing 14 = .ok (.lconst 1, 1) := by decide +kernel
theorem dX7_bearing_15 : decode cX7_bearing 15 = .ok (.lstore 8, 2) := by decide +kernel
theorem dX7_bearing_17 : decode cX7_bearing 17 = .ok (.iconst 0, 1) := by decide +kernel
theorem dX7_bearing_18 : decode cX7_bearing 18 = .ok (.istore 10, 2) := by decide +kernel
theorem dX7_bearing_20 : decode cX7_bearing 20 = .ok (.iconst 0, 1) := by decide +kernel
theorem dX7_bearing_21 : decode cX7_bearing 21 = .ok (.istore 11, 2) := by decide +kernel
theorem dX7_bearing_23 : decode cX7_bearing 23 = .ok (.iload 11, 2) := by decide +kernel
theorem dX7_bearing_25 : decode cX7_bearing 25 = .ok (.iload_n 3, 1) := by decide +kernel
theorem dX7_bearing_26 : decode cX7_bearing 26 = .ok (.if_icmp .ge 57, 3) := by decide +kernel
theorem dX7_bearing_29 : decode cX7_bearing 29 = .ok (.lload 8, 2) := by decide +kernel
theorem dX7_bearing_31 : decode cX7_bearing 31 = .ok (.iload 7, 2) := by decide +kernel
theorem dX7_bearing_33 : decode cX7_bearing 33 = .ok (.iload 11, 2) := by decide +kernel
theorem dX7_bearing_35 : decode cX7_bearing 35 = .ok (.invokestatic 121, 3) := by decide +kernel
theorem dX7_bearing_38 : decode cX7_bearing 38 = .ok (.ifCond .eq 8, 3) := by decide +kernel
theorem dX7_bearing_41 : decode cX7_bearing 41 = .ok (.iload_n 2, 1) := by decide +kernel
theorem dX7_bearing_42 : decode cX7_bearing 42 = .ok (.i2l, 1) := by decide +kernel
theorem dX7_bearing_43 : decode cX7_bearing 43 = .ok (.goto 8, 3) := by decide +kernel
theorem dX7_bearing_46 : decode cX7_bearing 46 = .ok (.bipush 10, 2) := by decide +kernel
theorem dX7_bearing_48 : decode cX7_bearing 48 = .ok (.iload_n 2, 1) := by decide +kernel
theorem dX7_bearing_49 : decode cX7_bearing 49 = .ok (.isub, 1) := by decide +kernel
theorem dX7_bearing_50 : decode cX7_bearing 50 = .ok (.i2l, 1) := by decide +kernel
theorem dX7_bearing_51 : decode cX7_bearing 51 = .ok (.lmul, 1) := by decide +kernel
theorem dX7_bearing_52 : decode cX7_bearing 52 = .ok (.lstore 8, 2) := by decide +kernel
theorem dX7_bearing_54 : decode cX7_bearing 54 = .ok (.iload 10, 2) := by decide +kernel
theorem dX7_bearing_56 : decode cX7_bearing 56 = .ok (.iload 7, 2) := by decide +kernel
theorem dX7_bearing_58 : decode cX7_bearing 58 = .ok (.iload 11, 2) := by decide +kernel
theorem dX7_bearing_60 : decode cX7_bearing 60 = .ok (.invokestatic 121, 3) := by decide +kernel
theorem dX7_bearing_63 : decode cX7_bearing 63 = .ok (.ifCond .eq 10, 3) := by decide +kernel
theorem dX7_bearing_66 : decode cX7_bearing 66 = .ok (.aload_n 0, 1) := by decide +kernel
theorem dX7_bearing_67 : decode cX7_bearing 67 = .ok (.getfield 29, 3) := by decide +kernel
theorem dX7_bearing_70 : decode cX7_bearing 70 = .ok (.goto 4, 3) := by decide +kernel
theorem dX7_bearing_73 : decode cX7_bearing 73 = .ok (.iconst 0, 1) := by decide +kernel
theorem dX7_bearing_74 : decode cX7_bearing 74 = .ok (.iadd, 1) := by decide +kernel
theorem dX7_bearing_75 : decode cX7_bearing 75 = .ok (.istore 10, 2) := by decide +kernel
theorem dX7_bearing_77 : decode cX7_bearing 77 = .ok (.iinc 11 1, 3) := by decide +kernel
theorem dX7_bearing_80 : decode cX7_bearing 80 = .ok (.goto (-57), 3) := by decide +kernel
theorem dX7_bearing_83 : decode cX7_bearing 83 = .ok (.lload 5, 2) := by decide +kernel
theorem dX7_bearing_85 : decode cX7_bearing 85 = .ok (.aload_n 0, 1) := by decide +kernel
theorem dX7_bearing_86 : decode cX7_bearing 86 = .ok (.getfield 13, 3) := by decide +kernel
theorem dX7_bearing_89 : decode cX7_bearing 89 = .ok (.iload_n 1, 1) := by decide +kernel
theorem dX7_bearing_90 : decode cX7_bearing 90 = .ok (.iaload, 1) := by decide +kernel
theorem dX7_bearing_91 : decode cX7_bearing 91 = .ok (.iload 10, 2) := by decide +kernel
theorem dX7_bearing_93 : decode cX7_bearing 93 = .ok (.iadd, 1) := by decide +kernel
theorem dX7_bearing_94 : decode cX7_bearing 94 = .ok (.iload 4, 2) := by decide +kernel
theorem dX7_bearing_96 : decode cX7_bearing 96 = .ok (.if_icmp .gt 8, 3) := by decide +kernel
theorem dX7_bearing_99 : decode cX7_bearing 99 = .ok (.lload 8, 2) := by decide +kernel
theorem dX7_bearing_101 : decode cX7_bearing 101 = .ok (.goto 4, 3) := by decide +kernel
theorem dX7_bearing_104 : decode cX7_bearing 104 = .ok (.lconst 0, 1) := by decide +kernel
theorem dX7_bearing_105 : decode cX7_bearing 105 = .ok (.ladd, 1) := by decide +kernel
theorem dX7_bearing_106 : decode cX7_bearing 106 = .ok (.lstore 5, 2) := by decide +kernel
theorem dX7_bearing_108 : decode cX7_bearing 108 = .ok (.iinc 7 1, 3) := by decide +kernel
theorem dX7_bearing_111 : decode cX7_bearing 111 = .ok (.goto (-105), 3) := by decide +kernel
theorem dX7_bearing_114 : decode cX7_bearing 114 = .ok (.lload 5, 2) := by decide +kernel
theorem dX7_bearing_116 : decode cX7_bearing 116 = .ok (.lreturn, 1) := by decide +kernel
theorem dX7_behind_0 : decode cX7_behind 0 = .ok (.aload_n 0, 1) := by decide +kernel
theorem dX7_behind_1 : decode cX7_behind 1 = .ok (.iload_n 1, 1) := by decide +kernel
theorem dX7_behind_2 : decode cX7_behind 2 = .ok (.invokevirtual 95, 3) := by decide +kernel
theorem dX7_behind_5 : decode cX7_behind 5 = .ok (.ifCond .ne 5, 3) := by decide +kernel
theorem dX7_behind_8 : decode cX7_behind 8 = .ok (.iconst (-1), 1) := by decide +kernel
theorem dX7_behind_9 : decode cX7_behind 9 = .ok (.ireturn, 1) := by decide +kernel
theorem dX7_behind_10 : decode cX7_behind 10 = .ok (.iload_n 2, 1) := by decide +kernel
theorem dX7_behind_11 : decode cX7_behind 11 = .ok (.iconst 0, 1) := by decide +kernel
theorem dX7_behind_12 : decode cX7_behind 12 = .ok (.iconst 1, 1) := by decide +kernel
theorem dX7_behind_13 : decode cX7_behind 13 = .ok (.invokestatic 91, 3) := by decide +kernel
theorem dX7_behind_16 : decode cX7_behind 16 = .ok (.ifCond .ne 6, 3) := by decide +kernel
theorem dX7_behind_19 : decode cX7_behind 19 = .ok (.bipush (-2), 2) := by decide +kernel
theorem dX7_behind_21 : decode cX7_behind 21 = .ok (.ireturn, 1) := by decide +kernel
theorem dX7_behind_22 : decode cX7_behind 22 = .ok (.aload_n 0, 1) := by decide +kernel
theorem dX7_behind_23 : decode cX7_behind 23 = .ok (.invokevirtual 175, 3) := by decide +kernel
theorem dX7_behind_26 : decode cX7_behind 26 = .ok (.ifCond .ge 6, 3) := by decide +kernel
theorem dX7_behind_29 : decode cX7_behind 29 = .ok (.bipush (-5), 2) := by decide +kernel
theorem dX7_behind_31 : decode cX7_behind 31 = .ok (.ireturn, 1) := by decide +kernel
theorem dX7_behind_32 : decode cX7_behind 32 = .ok (.iload_n 2, 1) := by decide +kernel
theorem dX7_behind_33 : decode cX7_behind 33 = .ok (.ifCond .ne 12, 3) := by decide +kernel
theorem dX7_behind_36 : decode cX7_behind 36 = .ok (.aload_n 0, 1) := by decide +kernel
theorem dX7_behind_37 : decode cX7_behind 37 = .ok (.getfield 44, 3) := by decide +kernel
theorem dX7_behind_40 : decode cX7_behind 40 = .ok (.iload_n 1, 1) := by decide +kernel
theorem dX7_behind_41 : decode cX7_behind 41 = .ok (.iaload, 1) := by decide +kernel
theorem dX7_behind_42 : decode cX7_behind 42 = .ok (.goto 11, 3) := by decide +kernel
theorem dX7_behind_45 : decode cX7_behind 45 = .ok (.aload_n 0, 1) := by decide +kernel
theorem dX7_behind_46 : decode cX7_behind 46 = .ok (.getfield 106, 3) := by decide +kernel
theorem dX7_behind_49 : decode cX7_behind 49 = .ok (.iload_n 1, 1) := by decide +kernel
theorem dX7_behind_50 : decode cX7_behind 50 = .ok (.ishr, 1) := by decide +kernel
theorem dX7_behind_51 : decode cX7_behind 51 = .ok (.iconst 1, 1) := by decide +kernel
theorem dX7_behind_52 : decode cX7_behind 52 = .ok (.iand, 1) := by decide +kernel
theorem dX7_behind_53 : decode cX7_behind 53 = .ok (.ireturn, 1) := by decide +kernel
theorem dX7_build_0 : decode cX7_build 0 = .ok (.aload_n 0, 1) := by decide +kernel
theorem dX7_build_1 : decode cX7_build 1 = .ok (.iload_n 1, 1) := by decide +kernel
theorem dX7_build_2 : decode cX7_build 2 = .ok (.invokevirtual 95, 3) := by decide +kernel
theorem dX7_build_5 : decode cX7_build 5 = .ok (.ifCond .ne 5, 3) := by decide +kernel
theorem dX7_build_8 : decode cX7_build 8 = .ok (.iconst (-1), 1) := by decide +kernel
theorem dX7_build_9 : decode cX7_build 9 = .ok (.ireturn, 1) := by decide +kernel
theorem dX7_build_10 : decode cX7_build 10 = .ok (.iload_n 2, 1) := by decide +kernel
theorem dX7_build_11 : decode cX7_build 11 = .ok (.iconst 0, 1) := by decide +kernel
theorem dX7_build_12 : decode cX7_build 12 = .ok (.bipush 10, 2) := by decide +kernel
theorem dX7_build_14 : decode cX7_build 14 = .ok (.invokestatic 91, 3) := by decide +kernel
theorem dX7_build_17 : decode cX7_build 17 = .ok (.ifCond .eq 35, 3) := by decide +kernel
theorem dX7_build_20 : decode cX7_build 20 = .ok (.iload_n 3, 1) := by decide +kernel
theorem dX7_build_21 : decode cX7_build 21 = .ok (.iconst 0, 1) := by decide +kernel
theorem dX7_build_22 : decode cX7_build 22 = .ok (.bipush 12, 2) := by decide +kernel
theorem dX7_build_24 : decode cX7_build 24 = .ok (.invokestatic 91, 3) := by decide +kernel
theorem dX7_build_27 : decode cX7_build 27 = .ok (.ifCond .eq 25, 3) := by decide +kernel
theorem dX7_build_30 : decode cX7_build 30 = .ok (.iload 5, 2) := by decide +kernel
theorem dX7_build_32 : decode cX7_build 32 = .ok (.iconst 1, 1) := by decide +kernel
theorem dX7_build_33 : decode cX7_build 33 = .ok (.bipush 100, 2) := by decide +kernel
theorem dX7_build_35 : decode cX7_build 35 = .ok (.invokestatic 91, 3) := by decide +kernel
theorem dX7_build_38 : decode cX7_build 38 = .ok (.ifCond .eq 14, 3) := by decide +kernel
theorem dX7_build_41 : decode cX7_build 41 = .ok (.iload 4, 2) := by decide +kernel
theorem dX7_build_43 : decode cX7_build 43 = .ok (.iconst 0, 1) := by decide +kernel
theorem dX7_build_44 : decode cX7_build 44 = .ok (.iload 5, 2) := by decide +kernel
theorem dX7_build_46 : decode cX7_build 46 = .ok (.invokestatic 91, 3) := by decide +kernel
theorem dX7_build_49 : decode cX7_build 49 = .ok (.ifCond .ne 6, 3) := by decide +kernel
theorem dX7_build_52 : decode cX7_build 52 = .ok (.bipush (-2), 2) := by decide +kernel
theorem dX7_build_54 : decode cX7_build 54 = .ok (.ireturn, 1) := by decide +kernel
theorem dX7_build_55 : decode cX7_build 55 = .ok (.iload 4, 2) := by decide +kernel
theorem dX7_build_57 : decode cX7_build 57 = .ok (.ifCond .ne 5, 3) := by decide +kernel
theorem dX7_build_60 : decode cX7_build 60 = .ok (.iconst 0, 1) := by decide +kernel
theorem dX7_build_61 : decode cX7_build 61 = .ok (.ireturn, 1) := by decide +kernel
theorem dX7_build_62 : decode cX7_build 62 = .ok (.iconst 0, 1) := by decide +kernel
theorem dX7_build_63 : decode cX7_build 63 = .ok (.istore 6, 2) := by decide +kernel
theorem dX7_build_65 : decode cX7_build 65 = .ok (.iload 6, 2) := by decide +kernel
theorem dX7_build_67 : decode cX7_build 67 = .ok (.iload_n 3, 1) := by decide +kernel
theorem dX7_build_68 : decode cX7_build 68 = .ok (.if_icmp .gt 61, 3) := by decide +kernel
theorem dX7_build_71 : decode cX7_build 71 = .ok (.aload_n 0, 1) := by decide +kernel
theorem dX7_build_72 : decode cX7_build 72 = .ok (.getfield 13, 3) := by decide +kernel
theorem dX7_build_75 : decode cX7_build 75 = .ok (.iload_n 1, 1) := by decide +kernel
theorem dX7_build_76 : decode cX7_build 76 = .ok (.iaload, 1) := by decide +kernel
theorem dX7_build_77 : decode cX7_build 77 = .ok (.iload 6, 2) := by decide +kernel
theorem dX7_build_79 : decode cX7_build 79 = .ok (.aload_n 0, 1) := by decide +kernel
theorem dX7_build_80 : decode cX7_build 80 = .ok (.getfield 29, 3) := by decide +kernel
theorem dX7_build_83 : decode cX7_build 83 = .ok (.imul, 1) := by decide +kernel
theorem dX7_build_84 : decode cX7_build 84 = .ok (.iadd, 1) := by decide +kernel
theorem dX7_build_85 : decode cX7_build 85 = .ok (.istore 7, 2) := by decide +kernel
theorem dX7_build_87 : decode cX7_build 87 = .ok (.iload 7, 2) := by decide +kernel
theorem dX7_build_89 : decode cX7_build 89 = .ok (.sipush 1000, 3) := by decide +kernel
theorem dX7_build_92 : decode cX7_build 92 = .ok (.if_icmp .ge 31, 3) := by decide +kernel
theorem dX7_build_95 : decode cX7_build 95 = .ok (.aload_n 0, 1) := by decide +kernel
theorem dX7_build_96 : decode cX7_build 96 = .ok (.iload_n 1, 1) := by decide +kernel
theorem dX7_build_97 : decode cX7_build 97 = .ok (.iload_n 2, 1) := by decide +kernel
theorem dX7_build_98 : decode cX7_build 98 = .ok (.iload_n 3, 1) := by decide +kernel
theorem dX7_build_99 : decode cX7_build 99 = .ok (.iload 7, 2) := by decide +kernel
theorem dX7_build_101 : decode cX7_build 101 = .ok (.invokevirtual 222, 3) := by decide +kernel
theorem dX7_build_104 : decode cX7_build 104 = .ok (.iload 5, 2) := by decide +kernel
theorem dX7_build_106 : decode cX7_build 106 = .ok (.i2l, 1) := by decide +kernel
theorem dX7_build_107 : decode cX7_build 107 = .ok (.lmul, 1) := by decide +kernel
theorem dX7_build_108 : decode cX7_build 108 = .ok (.iload_n 3, 1) := by decide +kernel
theorem dX7_build_109 : decode cX7_build 109 = .ok (.invokestatic 226, 3) := by decide +kernel
theorem dX7_build_112 : decode cX7_build 112 = .ok (.iload 4, 2) := by decide +kernel
theorem dX7_build_114 : decode cX7_build 114 = .ok (.i2l, 1) := by decide +kernel
theorem dX7_build_115 : decode cX7_build 115 = .ok (.lmul, 1) := by decide +kernel
theorem dX7_build_116 : decode cX7_build 116 = .ok (.lcmp, 1) := by decide +kernel
theorem dX7_build_117 : decode cX7_build 117 = .ok (.ifCond .lt 6, 3) := by decide +kernel
theorem dX7_build_120 : decode cX7_build 120 = .ok (.iload 7, 2) := by decide +kernel
theorem dX7_build_122 : decode cX7_build 122 = .ok (.ireturn, 1) := by decide +kernel
theorem dX7_build_123 : decode cX7_build 123 = .ok (.iinc 6 1, 3) := by decide +kernel
theorem dX7_build_126 : decode cX7_build 126 = .ok (.goto (-61), 3) := by decide +kernel
theorem dX7_build_129 : decode cX7_build 129 = .ok (.bipush (-6), 2) := by decide +kernel
theorem dX7_build_131 : decode cX7_build 131 = .ok (.ireturn, 1) := by decide +kernel
theorem dX7_clear_0 : decode cX7_clear 0 = .ok (.aload_n 0, 1) := by decide +kernel
theorem dX7_clear_1 : decode cX7_clear 1 = .ok (.iconst 0, 1) := by decide +kernel
theorem dX7_clear_2 : decode cX7_clear 2 = .ok (.putfield 82, 3) := by decide +kernel
theorem dX7_clear_5 : decode cX7_clear 5 = .ok (.aload_n 0, 1) := by decide +kernel
theorem dX7_clear_6 : decode cX7_clear 6 = .ok (.iconst 0, 1) := by decide +kernel
theorem dX7_clear_7 : decode cX7_clear 7 = .ok (.putfield 85, 3) := by decide +kernel
theorem dX7_clear_10 : decode cX7_clear 10 = .ok (.aload_n 0, 1) := by decide +kernel
theorem dX7_clear_11 : decode cX7_clear 11 = .ok (.iconst 0, 1) := by decide +kernel
theorem dX7_clear_12 : decode cX7_clear 12 = .ok (.putfield 88, 3) := by decide +kernel
theorem dX7_clear_15 : decode cX7_clear 15 = .ok (.iconst 0, 1) := by decide +kernel
theorem dX7_clear_16 : decode cX7_clear 16 = .ok (.istore_n 1, 1) := by decide +kernel
theorem dX7_clear_17 : decode cX7_clear 17 = .ok (.iload_n 1, 1) := by decide +kernel
theorem dX7_clear_18 : decode cX7_clear 18 = .ok (.bipush 8, 2) := by decide +kernel
theorem dX7_clear_20 : decode cX7_clear 20 = .ok (.if_icmp .ge 31, 3) := by decide +kernel
theorem dX7_clear_23 : decode cX7_clear 23 = .ok (.aload_n 0, 1) := by decide +kernel
theorem dX7_clear_24 : decode cX7_clear 24 = .ok (.getfield 13, 3) := by decide +kernel
theorem dX7_clear_27 : decode cX7_clear 27 = .ok (.iload_n 1, 1) := by decide +kernel
theorem dX7_clear_28 : decode cX7_clear 28 = .ok (.iconst 0, 1) := by decide +kernel
theorem dX7_clear_29 : decode cX7_clear 29 = .ok (.iastore, 1) := by decide +kernel
theorem dX7_clear_30 : decode cX7_clear 30 = .ok (.aload_n 0, 1) := by decide +kernel
theorem dX7_clear_31 : decode cX7_clear 31 = .ok (.getfield 17, 3) := by decide +kernel
theorem dX7_clear_34 : decode cX7_clear 34 = .ok (.iload_n 1, 1) := by decide +kernel
theorem dX7_clear_35 : decode cX7_clear 35 = .ok (.bipush 20, 2) := by decide +kernel
theorem dX7_clear_37 : decode cX7_clear 37 = .ok (.iastore, 1) := by decide +kernel
theorem dX7_clear_38 : decode cX7_clear 38 = .ok (.aload_n 0, 1) := by decide +kernel
theorem dX7_clear_39 : decode cX7_clear 39 = .ok (.getfield 20, 3) := by decide +kernel
theorem dX7_clear_42 : decode cX7_clear 42 = .ok (.iload_n 1, 1) := by decide +kernel
theorem dX7_clear_43 : decode cX7_clear 43 = .ok (.iconst 0, 1) := by decide +kernel
theorem dX7_clear_44 : decode cX7_clear 44 = .ok (.iastore, 1) := by decide +kernel
theorem dX7_clear_45 : decode cX7_clear 45 = .ok (.iinc 1 1, 3) := by decide +kernel
theorem dX7_clear_48 : decode cX7_clear 48 = .ok (.goto (-31), 3) := by decide +kernel
theorem dX7_clear_51 : decode cX7_clear 51 = .ok (.iconst 0, 1) := by decide +kernel
theorem dX7_clear_52 : decode cX7_clear 52 = .ok (.istore_n 1, 1) := by decide +kernel
theorem dX7_clear_53 : decode cX7_clear 53 = .ok (.iload_n 1, 1) := by decide +kernel
theorem dX7_clear_54 : decode cX7_clear 54 = .ok (.bipush 64, 2) := by decide +kernel
theorem dX7_clear_56 : decode cX7_clear 56 = .ok (.if_icmp .ge 16, 3) := by decide +kernel
theorem dX7_clear_59 : decode cX7_clear 59 = .ok (.aload_n 0, 1) := by decide +kernel
theorem dX7_clear_60 : decode cX7_clear 60 = .ok (.getfield 23, 3) := by decide +kernel
theorem dX7_clear_63 : decode cX7_clear 63 = .ok (.iload_n 1, 1) := by decide +kernel
theorem dX7_clear_64 : decode cX7_clear 64 = .ok (.iconst 0, 1) := by decide +kernel
theorem dX7_clear_65 : decode cX7_clear 65 = .ok (.iastore, 1) := by decide +kernel
theorem dX7_clear_66 : decode cX7_clear 66 = .ok (.iinc 1 1, 3) := by decide +kernel
theorem dX7_clear_69 : decode cX7_clear 69 = .ok (.goto (-16), 3) := by decide +kernel
theorem dX7_clear_72 : decode cX7_clear 72 = .ok (.return_, 1) := by decide +kernel
theorem dX7_cleared_0 : decode cX7_cleared 0 = .ok (.iload_n 1, 1) := by decide +kernel
theorem dX7_cleared_1 : decode cX7_cleared 1 = .ok (.iconst 0, 1) := by decide +kernel
theorem dX7_cleared_2 : decode cX7_cleared 2 = .ok (.sipush 999, 3) := by decide +kernel
theorem dX7_cleared_5 : decode cX7_cleared 5 = .ok (.invokestatic 91, 3) := by decide +kernel
theorem dX7_cleared_8 : decode cX7_cleared 8 = .ok (.ifCond .ne 6, 3) := by decide +kernel
theorem dX7_cleared_11 : decode cX7_cleared 11 = .ok (.bipush (-2), 2) := by decide +kernel
theorem dX7_cleared_13 : decode cX7_cleared 13 = .ok (.ireturn, 1) := by decide +kernel
theorem dX7_cleared_14 : decode cX7_cleared 14 = .ok (.iconst 0, 1) := by decide +kernel
theorem dX7_cleared_15 : decode cX7_cleared 15 = .ok (.istore_n 2, 1) := by decide +kernel
theorem dX7_cleared_16 : decode cX7_cleared 16 = .ok (.iconst 0, 1) := by decide +kernel
theorem dX7_cleared_17 : decode cX7_cleared 17 = .ok (.istore_n 3, 1) := by decide +kernel
theorem dX7_cleared_18 : decode cX7_cleared 18 = .ok (.iload_n 3, 1) := by decide +kernel
theorem dX7_cleared_19 : decode cX7_cleared 19 = .ok (.aload_n 0, 1) := by decide +kernel
theorem dX7_cleared_20 : decode cX7_cleared 20 = .ok (.getfield 7, 3) := by decide +kernel
theorem dX7_cleared_23 : decode cX7_cleared 23 = .ok (.if_icmp .ge 38, 3) := by decide +kernel
theorem dX7_cleared_26 : decode cX7_cleared 26 = .ok (.aload_n 0, 1) := by decide +kernel
theorem dX7_cleared_27 : decode cX7_cleared 27 = .ok (.getfield 13, 3) := by decide +kernel
theorem dX7_cleared_30 : decode cX7_cleared 30 = .ok (.iload_n 3, 1) := by decide +kernel
theorem dX7_cleared_31 : decode cX7_cleared 31 = .ok (.iaload, 1) := by decide +kernel
theorem dX7_cleared_32 : decode cX7_cleared 32 = .ok (.iload_n 1, 1) := by decide +kernel
theorem dX7_cleared_33 : decode cX7_cleared 33 = .ok (.invokestatic 129, 3) := by decide +kernel
theorem dX7_cleared_36 : decode cX7_cleared 36 = .ok (.istore 4, 2) := by decide +kernel
theorem dX7_cleared_38 : decode cX7_cleared 38 = .ok (.iload_n 2, 1) := by decide +kernel
theorem dX7_cleared_39 : decode cX7_cleared 39 = .ok (.iload 4, 2) := by decide +kernel
theorem dX7_cleared_41 : decode cX7_cleared 41 = .ok (.aload_n 0, 1) := by decide +kernel
theorem dX7_cleared_42 : decode cX7_cleared 42 = .ok (.getfield 35, 3) := by decide +kernel
theorem dX7_cleared_45 : decode cX7_cleared 45 = .ok (.iadd, 1) := by decide +kernel
theorem dX7_cleared_46 : decode cX7_cleared 46 = .ok (.iconst 1, 1) := by decide +kernel
theorem dX7_cleared_47 : decode cX7_cleared 47 = .ok (.isub, 1) := by decide +kernel
theorem dX7_cleared_48 : decode cX7_cleared 48 = .ok (.aload_n 0, 1) := by decide +kernel
theorem dX7_cleared_49 : decode cX7_cleared 49 = .ok (.getfield 35, 3) := by decide +kernel
theorem dX7_cleared_52 : decode cX7_cleared 52 = .ok (.idiv, 1) := by decide +kernel
theorem dX7_cleared_53 : decode cX7_cleared 53 = .ok (.iadd, 1) := by decide +kernel
theorem dX7_cleared_54 : decode cX7_cleared 54 = .ok (.istore_n 2, 1) := by decide +kernel
theorem dX7_cleared_55 : decode cX7_cleared 55 = .ok (.iinc 3 1, 3) := by decide +kernel
theorem dX7_cleared_58 : decode cX7_cleared 58 = .ok (.goto (-40), 3) := by decide +kernel
theorem dX7_cleared_61 : decode cX7_cleared 61 = .ok (.iload_n 2, 1) := by decide +kernel
theorem dX7_cleared_62 : decode cX7_cleared 62 = .ok (.ireturn, 1) := by decide +kernel
theorem dX7_collapse_0 : decode cX7_collapse 0 = .ok (.iconst 0, 1) := by decide +kernel
theorem dX7_collapse_1 : decode cX7_collapse 1 = .ok (.istore_n 1, 1) := by decide +kernel
theorem dX7_collapse_2 : decode cX7_collapse 2 = .ok (.iload_n 1, 1) := by decide +kernel
theorem dX7_collapse_3 : decode cX7_collapse 3 = .ok (.aload_n 0, 1) := by decide +kernel
theorem dX7_collapse_4 : decode cX7_collapse 4 = .ok (.getfield 7, 3) := by decide +kernel
theorem dX7_collapse_7 : decode cX7_collapse 7 = .ok (.if_icmp .ge 40, 3) := by decide +kernel
theorem dX7_collapse_10 : decode cX7_collapse 10 = .ok (.aload_n 0, 1) := by decide +kernel
theorem dX7_collapse_11 : decode cX7_collapse 11 = .ok (.dup, 1) := by decide +kernel
theorem dX7_collapse_12 : decode cX7_collapse 12 = .ok (.getfield 106, 3) := by decide +kernel
theorem dX7_collapse_15 : decode cX7_collapse 15 = .ok (.aload_n 0, 1) := by decide +kernel
theorem dX7_collapse_16 : decode cX7_collapse 16 = .ok (.getfield 44, 3) := by decide +kernel
theorem dX7_collapse_19 : decode cX7_collapse 19 = .ok (.iload_n 1, 1) := by decide +kernel
theorem dX7_collapse_20 : decode cX7_collapse 20 = .ok (.iaload, 1) := by decide +kernel
theorem dX7_collapse_21 : decode cX7_collapse 21 = .ok (.aload_n 0, 1) := by decide +kernel
theorem dX7_collapse_22 : decode cX7_collapse 22 = .ok (.getfield 17, 3) := by decide +kernel
theorem dX7_collapse_25 : decode cX7_collapse 25 = .ok (.iload_n 1, 1) := by decide +kernel
theorem dX7_collapse_26 : decode cX7_collapse 26 = .ok (.iaload, 1) := by decide +kernel
theorem dX7_collapse_27 : decode cX7_collapse 27 = .ok (.if_icmp .le 9, 3) := by decide +kernel
theorem dX7_collapse_30 : decode cX7_collapse 30 = .ok (.iconst 1, 1) := by decide +kernel
theorem dX7_collapse_31 : decode cX7_collapse 31 = .ok (.iload_n 1, 1) := by decide +kernel
theorem dX7_collapse_32 : decode cX7_collapse 32 = .ok (.ishl, 1) := by decide +kernel
theorem dX7_collapse_33 : decode cX7_collapse 33 = .ok (.goto 4, 3) := by decide +kernel
theorem dX7_collapse_36 : decode cX7_collapse 36 = .ok (.iconst 0, 1) := by decide +kernel
theorem dX7_collapse_37 : decode cX7_collapse 37 = .ok (.ior, 1) := by decide +kernel
theorem dX7_collapse_38 : decode cX7_collapse 38 = .ok (.putfield 106, 3) := by decide +kernel
theorem dX7_collapse_41 : decode cX7_collapse 41 = .ok (.iinc 1 1, 3) := by decide +kernel
theorem dX7_collapse_44 : decode cX7_collapse 44 = .ok (.goto (-42), 3) := by decide +kernel
theorem dX7_collapse_47 : decode cX7_collapse 47 = .ok (.return_, 1) := by decide +kernel
theorem dX7_done_0 : decode cX7_done 0 = .ok (.aload_n 0, 1) := by decide +kernel
theorem dX7_done_1 : decode cX7_done 1 = .ok (.invokevirtual 175, 3) := by decide +kernel
theorem dX7_done_4 : decode cX7_done 4 = .ok (.ifCond .ge 6, 3) := by decide +kernel
theorem dX7_done_7 : decode cX7_done 7 = .ok (.bipush (-5), 2) := by decide +kernel
theorem dX7_done_9 : decode cX7_done 9 = .ok (.ireturn, 1) := by decide +kernel
theorem dX7_done_10 : decode cX7_done 10 = .ok (.aload_n 0, 1) := by decide +kernel
theorem dX7_done_11 : decode cX7_done 11 = .ok (.aload_n 0, 1) := by decide +kernel
theorem dX7_done_12 : decode cX7_done 12 = .ok (.getfield 106, 3) := by decide +kernel
theorem dX7_done_15 : decode cX7_done 15 = .ok (.putfield 82, 3) := by decide +kernel
theorem dX7_done_18 : decode cX7_done 18 = .ok (.aload_n 0, 1) := by decide +kernel
theorem dX7_done_19 : decode cX7_done 19 = .ok (.aload_n 0, 1) := by decide +kernel
theorem dX7_done_20 : decode cX7_done 20 = .ok (.getfield 109, 3) := by decide +kernel
theorem dX7_done_23 : decode cX7_done 23 = .ok (.putfield 85, 3) := by decide +kernel
theorem dX7_done_26 : decode cX7_done 26 = .ok (.iconst 0, 1) := by decide +kernel
theorem dX7_done_27 : decode cX7_done 27 = .ok (.istore_n 1, 1) := by decide +kernel
theorem dX7_done_28 : decode cX7_done 28 = .ok (.iload_n 1, 1) := by decide +kernel
theorem dX7_done_29 : decode cX7_done 29 = .ok (.bipush 8, 2) := by decide +kernel
theorem dX7_done_31 : decode cX7_done 31 = .ok (.if_icmp .ge 33, 3) := by decide +kernel
theorem dX7_done_34 : decode cX7_done 34 = .ok (.aload_n 0, 1) := by decide +kernel
theorem dX7_done_35 : decode cX7_done 35 = .ok (.getfield 13, 3) := by decide +kernel
theorem dX7_done_38 : decode cX7_done 38 = .ok (.iload_n 1, 1) := by decide +kernel
theorem dX7_done_39 : decode cX7_done 39 = .ok (.aload_n 0, 1) := by decide +kernel
theorem dX7_done_40 : decode cX7_done 40 = .ok (.getfield 44, 3) := by decide +kernel
theorem dX7_done_43 : decode cX7_done 43 = .ok (.iload_n 1, 1) := by decide +kernel
theorem dX7_done_44 : decode cX7_done 44 = .ok (.iaload, 1) := by decide +kernel
theorem dX7_done_45 : decode cX7_done 45 = .ok (.iastore, 1) := by decide +kernel
theorem dX7_done_46 : decode cX7_done 46 = .ok (.aload_n 0, 1) := by decide +kernel
theorem dX7_done_47 : decode cX7_done 47 = .ok (.getfield 20, 3) := by decide +kernel
theorem dX7_done_50 : decode cX7_done 50 = .ok (.iload_n 1, 1) := by decide +kernel
theorem dX7_done_51 : decode cX7_done 51 = .ok (.aload_n 0, 1) := by decide +kernel
theorem dX7_done_52 : decode cX7_done 52 = .ok (.getfield 50, 3) := by decide +kernel
theorem dX7_done_55 : decode cX7_done 55 = .ok (.iload_n 1, 1) := by decide +kernel
theorem dX7_done_56 : decode cX7_done 56 = .ok (.iaload, 1) := by decide +kernel
theorem dX7_done_57 : decode cX7_done 57 = .ok (.iastore, 1) := by decide +kernel
theorem dX7_done_58 : decode cX7_done 58 = .ok (.iinc 1 1, 3) := by decide +kernel
theorem dX7_done_61 : decode cX7_done 61 = .ok (.goto (-33), 3) := by decide +kernel
theorem dX7_done_64 : decode cX7_done 64 = .ok (.iconst 0, 1) := by decide +kernel
theorem dX7_done_65 : decode cX7_done 65 = .ok (.istore_n 1, 1) := by decide +kernel
theorem dX7_done_66 : decode cX7_done 66 = .ok (.iload_n 1, 1) := by decide +kernel
theorem dX7_done_67 : decode cX7_done 67 = .ok (.bipush 64, 2) := by decide +kernel
theorem dX7_done_69 : decode cX7_done 69 = .ok (.if_icmp .ge 21, 3) := by decide +kernel
theorem dX7_done_72 : decode cX7_done 72 = .ok (.aload_n 0, 1) := by decide +kernel
theorem dX7_done_73 : decode cX7_done 73 = .ok (.getfield 23, 3) := by decide +kernel
theorem dX7_done_76 : decode cX7_done 76 = .ok (.iload_n 1, 1) := by decide +kernel
theorem dX7_done_77 : decode cX7_done 77 = .ok (.aload_n 0, 1) := by decide +kernel
theorem dX7_done_78 : decode cX7_done 78 = .ok (.getfield 53, 3) := by decide +kernel
theorem dX7_done_81 : decode cX7_done 81 = .ok (.iload_n 1, 1) := by decide +kernel
theorem dX7_done_82 : decode cX7_done 82 = .ok (.iaload, 1) := by decide +kernel
theorem dX7_done_83 : decode cX7_done 83 = .ok (.iastore, 1) := by decide +kernel
theorem dX7_done_84 : decode cX7_done 84 = .ok (.iinc 1 1, 3) := by decide +kernel
theorem dX7_done_87 : decode cX7_done 87 = .ok (.goto (-21), 3) := by decide +kernel
theorem dX7_done_90 : decode cX7_done 90 = .ok (.aload_n 0, 1) := by decide +kernel
theorem dX7_done_91 : decode cX7_done 91 = .ok (.iconst 0, 1) := by decide +kernel
theorem dX7_done_92 : decode cX7_done 92 = .ok (.putfield 99, 3) := by decide +kernel
theorem dX7_done_95 : decode cX7_done 95 = .ok (.aload_n 0, 1) := by decide +kernel
theorem dX7_done_96 : decode cX7_done 96 = .ok (.getfield 137, 3) := by decide +kernel
theorem dX7_done_99 : decode cX7_done 99 = .ok (.ireturn, 1) := by decide +kernel
theorem dX7_elsewhere_0 : decode cX7_elsewhere 0 = .ok (.iload_n 1, 1) := by decide +kernel
theorem dX7_elsewhere_1 : decode cX7_elsewhere 1 = .ok (.iconst (-1), 1) := by decide +kernel
theorem dX7_elsewhere_2 : decode cX7_elsewhere 2 = .ok (.if_icmp .eq 13, 3) := by decide +kernel
theorem dX7_elsewhere_5 : decode cX7_elsewhere 5 = .ok (.aload_n 0, 1) := by decide +kernel
theorem dX7_elsewhere_6 : decode cX7_elsewhere 6 = .ok (.iload_n 1, 1) := by decide +kernel
theorem dX7_elsewhere_7 : decode cX7_elsewhere 7 = .ok (.invokevirtual 95, 3) := by decide +kernel
theorem dX7_elsewhere_10 : decode cX7_elsewhere 10 = .ok (.ifCond .ne 5, 3) := by decide +kernel
theorem dX7_elsewhere_13 : decode cX7_elsewhere 13 = .ok (.iconst (-1), 1) := by decide +kernel
theorem dX7_elsewhere_14 : decode cX7_elsewhere 14 = .ok (.ireturn, 1) := by decide +kernel
theorem dX7_elsewhere_15 : decode cX7_elsewhere 15 = .ok (.iconst 0, 1) := by decide +kernel
theorem dX7_elsewhere_16 : decode cX7_elsewhere 16 = .ok (.istore_n 2, 1) := by decide +kernel
theorem dX7_elsewhere_17 : decode cX7_elsewhere 17 = .ok (.iload_n 2, 1) := by decide +kernel
theorem dX7_elsewhere_18 : decode cX7_elsewhere 18 = .ok (.aload_n 0, 1) := by decide +kernel
theorem dX7_elsewhere_19 : decode cX7_elsewhere 19 = .ok (.getfield 7, 3) := by decide +kernel
theorem dX7_elsewhere_22 : decode cX7_elsewhere 22 = .ok (.if_icmp .ge 34, 3) := by decide +kernel
theorem dX7_elsewhere_25 : decode cX7_elsewhere 25 = .ok (.aload_n 0, 1) := by decide +kernel
theorem dX7_elsewhere_26 : decode cX7_elsewhere 26 = .ok (.getfield 69, 3) := by decide +kernel
theorem dX7_elsewhere_29 : decode cX7_elsewhere 29 = .ok (.iload_n 2, 1) := by decide +kernel
theorem dX7_elsewhere_30 : decode cX7_elsewhere 30 = .ok (.iload_n 2, 1) := by decide +kernel
theorem dX7_elsewhere_31 : decode cX7_elsewhere 31 = .ok (.aload_n 0, 1) := by decide +kernel
theorem dX7_elsewhere_32 : decode cX7_elsewhere 32 = .ok (.getfield 7, 3) := by decide +kernel
theorem dX7_elsewhere_35 : decode cX7_elsewhere 35 = .ok (.iconst 1, 1) := by decide +kernel
theorem dX7_elsewhere_36 : decode cX7_elsewhere 36 = .ok (.isub, 1) := by decide +kernel
theorem dX7_elsewhere_37 : decode cX7_elsewhere 37 = .ok (.if_icmp .ne 9, 3) := by decide +kernel
theorem dX7_elsewhere_40 : decode cX7_elsewhere 40 = .ok (.iload_n 2, 1) := by decide +kernel
theorem dX7_elsewhere_41 : decode cX7_elsewhere 41 = .ok (.iconst 1, 1) := by decide +kernel
theorem dX7_elsewhere_42 : decode cX7_elsewhere 42 = .ok (.isub, 1) := by decide +kernel
theorem dX7_elsewhere_43 : decode cX7_elsewhere 43 = .ok (.goto 6, 3) := by decide +kernel
theorem dX7_elsewhere_46 : decode cX7_elsewhere 46 = .ok (.iload_n 2, 1) := by decide +kernel
theorem dX7_elsewhere_47 : decode cX7_elsewhere 47 = .ok (.iconst 1, 1) := by decide +kernel
theorem dX7_elsewhere_48 : decode cX7_elsewhere 48 = .ok (.iadd, 1) := by decide +kernel
theorem dX7_elsewhere_49 : decode cX7_elsewhere 49 = .ok (.iastore, 1) := by decide +kernel
theorem dX7_elsewhere_50 : decode cX7_elsewhere 50 = .ok (.iinc 2 1, 3) := by decide +kernel
theorem dX7_elsewhere_53 : decode cX7_elsewhere 53 = .ok (.goto (-36), 3) := by decide +kernel
theorem dX7_elsewhere_56 : decode cX7_elsewhere 56 = .ok (.iconst 0, 1) := by decide +kernel
theorem dX7_elsewhere_57 : decode cX7_elsewhere 57 = .ok (.istore_n 2, 1) := by decide +kernel
theorem dX7_elsewhere_58 : decode cX7_elsewhere 58 = .ok (.iconst 1, 1) := by decide +kernel
theorem dX7_elsewhere_59 : decode cX7_elsewhere 59 = .ok (.istore_n 3, 1) := by decide +kernel
theorem dX7_elsewhere_60 : decode cX7_elsewhere 60 = .ok (.iload_n 3, 1) := by decide +kernel
theorem dX7_elsewhere_61 : decode cX7_elsewhere 61 = .ok (.ifCond .eq 135, 3) := by decide +kernel
theorem dX7_elsewhere_64 : decode cX7_elsewhere 64 = .ok (.iload_n 2, 1) := by decide +kernel
theorem dX7_elsewhere_65 : decode cX7_elsewhere 65 = .ok (.bipush 50, 2) := by decide +kernel
theorem dX7_elsewhere_67 : decode cX7_elsewhere 67 = .ok (.if_icmp .ge 129, 3) := by decide +kernel
theorem dX7_elsewhere_70 : decode cX7_elsewhere 70 = .ok (.iconst 0, 1) := by decide +kernel
theorem dX7_elsewhere_71 : decode cX7_elsewhere 71 = .ok (.istore_n 3, 1) := by decide +kernel
theorem dX7_elsewhere_72 : decode cX7_elsewhere 72 = .ok (.iconst 0, 1) := by decide +kernel
theorem dX7_elsewhere_73 : decode cX7_elsewhere 73 = .ok (.istore 4, 2) := by decide +kernel
theorem dX7_elsewhere_75 : decode cX7_elsewhere 75 = .ok (.iload 4, 2) := by decide +kernel
theorem dX7_elsewhere_77 : decode cX7_elsewhere 77 = .ok (.aload_n 0, 1) := by decide +kernel
theorem dX7_elsewhere_78 : decode cX7_elsewhere 78 = .ok (.getfield 7, 3) := by decide +kernel
theorem dX7_elsewhere_81 : decode cX7_elsewhere 81 = .ok (.if_icmp .ge 109, 3) := by decide +kernel
theorem dX7_elsewhere_84 : decode cX7_elsewhere 84 = .ok (.aload_n 0, 1) := by decide +kernel
theorem dX7_elsewhere_85 : decode cX7_elsewhere 85 = .ok (.getfield 69, 3) := by decide +kernel
theorem dX7_elsewhere_88 : decode cX7_elsewhere 88 = .ok (.iload 4, 2) := by decide +kernel
theorem dX7_elsewhere_90 : decode cX7_elsewhere 90 = .ok (.iaload, 1) := by decide +kernel
theorem dX7_elsewhere_91 : decode cX7_elsewhere 91 = .ok (.istore 5, 2) := by decide +kernel
theorem dX7_elsewhere_93 : decode cX7_elsewhere 93 = .ok (.aload_n 0, 1) := by decide +kernel
theorem dX7_elsewhere_94 : decode cX7_elsewhere 94 = .ok (.iload 4, 2) := by decide +kernel
theorem dX7_elsewhere_96 : decode cX7_elsewhere 96 = .ok (.iload 5, 2) := by decide +kernel
theorem dX7_elsewhere_98 : decode cX7_elsewhere 98 = .ok (.invokevirtual 230, 3) := by decide +kernel
theorem dX7_elsewhere_101 : decode cX7_elsewhere 101 = .ok (.istore 6, 2) := by decide +kernel
theorem dX7_elsewhere_103 : decode cX7_elsewhere 103 = .ok (.iconst 0, 1) := by decide +kernel
theorem dX7_elsewhere_104 : decode cX7_elsewhere 104 = .ok (.istore 7, 2) := by decide +kernel
theorem dX7_elsewhere_106 : decode cX7_elsewhere 106 = .ok (.iload 7, 2) := by decide +kernel
theorem dX7_elsewhere_108 : decode cX7_elsewhere 108 = .ok (.aload_n 0, 1) := by decide +kernel
theorem dX7_elsewhere_109 : decode cX7_elsewhere 109 = .ok (.getfield 7, 3) := by decide +kernel
theorem dX7_elsewhere_112 : decode cX7_elsewhere 112 = .ok (.if_icmp .ge 41, 3) := by decide +kernel
theorem dX7_elsewhere_115 : decode cX7_elsewhere 115 = .ok (.aload_n 0, 1) := by decide +kernel
theorem dX7_elsewhere_116 : decode cX7_elsewhere 116 = .ok (.iload 4, 2) := by decide +kernel
theorem dX7_elsewhere_118 : decode cX7_elsewhere 118 = .ok (.iload 7, 2) := by decide +kernel
theorem dX7_elsewhere_120 : decode cX7_elsewhere 120 = .ok (.invokevirtual 230, 3) := by decide +kernel
theorem dX7_elsewhere_123 : decode cX7_elsewhere 123 = .ok (.istore 8, 2) := by decide +kernel
theorem dX7_elsewhere_125 : decode cX7_elsewhere 125 = .ok (.iload 7, 2) := by decide +kernel
theorem dX7_elsewhere_127 : decode cX7_elsewhere 127 = .ok (.iload 4, 2) := by decide +kernel
theorem dX7_elsewhere_129 : decode cX7_elsewhere 129 = .ok (.if_icmp .eq 18, 3) := by decide +kernel
theorem dX7_elsewhere_132 : decode cX7_elsewhere 132 = .ok (.iload 8, 2) := by decide +kernel
theorem dX7_elsewhere_134 : decode cX7_elsewhere 134 = .ok (.iload 6, 2) := by decide +kernel
theorem dX7_elsewhere_136 : decode cX7_elsewhere 136 = .ok (.if_icmp .ge 11, 3) := by decide +kernel
theorem dX7_elsewhere_139 : decode cX7_elsewhere 139 = .ok (.iload 7, 2) := by decide +kernel
theorem dX7_elsewhere_141 : decode cX7_elsewhere 141 = .ok (.istore 5, 2) := by decide +kernel
theorem dX7_elsewhere_143 : decode cX7_elsewhere 143 = .ok (.iload 8, 2) := by decide +kernel
theorem dX7_elsewhere_145 : decode cX7_elsewhere 145 = .ok (.istore 6, 2) := by decide +kernel
theorem dX7_elsewhere_147 : decode cX7_elsewhere 147 = .ok (.iinc 7 1, 3) := by decide +kernel
theorem dX7_elsewhere_150 : decode cX7_elsewhere 150 = .ok (.goto (-44), 3) := by decide +kernel
theorem dX7_elsewhere_153 : decode cX7_elsewhere 153 = .ok (.iload_n 3, 1) := by decide +kernel
theorem dX7_elsewhere_154 : decode cX7_elsewhere 154 = .ok (.ifCond .ne 15, 3) := by decide +kernel
theorem dX7_elsewhere_157 : decode cX7_elsewhere 157 = .ok (.iload 5, 2) := by decide +kernel
theorem dX7_elsewhere_159 : decode cX7_elsewhere 159 = .ok (.aload_n 0, 1) := by decide +kernel
theorem dX7_elsewhere_160 : decode cX7_elsewhere 160 = .ok (.getfield 69, 3) := by decide +kernel
theorem dX7_elsewhere_163 : decode cX7_elsewhere 163 = .ok (.iload 4, 2) := by decide +kernel
theorem dX7_elsewhere_165 : decode cX7_elsewhere 165 = .ok (.iaload, 1) := by decide +kernel
theorem dX7_elsewhere_166 : decode cX7_elsewhere 166 = .ok (.if_icmp .eq 7, 3) := by decide +kernel
theorem dX7_elsewhere_169 : decode cX7_elsewhere 169 = .ok (.iconst 1, 1) := by decide +kernel
theorem dX7_elsewhere_170 : decode cX7_elsewhere 170 = .ok (.goto 4, 3) := by decide +kernel
theorem dX7_elsewhere_173 : decode cX7_elsewhere 173 = .ok (.iconst 0, 1) := by decide +kernel
theorem dX7_elsewhere_174 : decode cX7_elsewhere 174 = .ok (.istore_n 3, 1) := by decide +kernel
theorem dX7_elsewhere_175 : decode cX7_elsewhere 175 = .ok (.aload_n 0, 1) := by decide +kernel
theorem dX7_elsewhere_176 : decode cX7_elsewhere 176 = .ok (.getfield 69, 3) := by decide +kernel
theorem dX7_elsewhere_179 : decode cX7_elsewhere 179 = .ok (.iload 4, 2) := by decide +kernel
theorem dX7_elsewhere_181 : decode cX7_elsewhere 181 = .ok (.iload 5, 2) := by decide +kernel
theorem dX7_elsewhere_183 : decode cX7_elsewhere 183 = .ok (.iastore, 1) := by decide +kernel
theorem dX7_elsewhere_184 : decode cX7_elsewhere 184 = .ok (.iinc 4 1, 3) := by decide +kernel
theorem dX7_elsewhere_187 : decode cX7_elsewhere 187 = .ok (.goto (-112), 3) := by decide +kernel
theorem dX7_elsewhere_190 : decode cX7_elsewhere 190 = .ok (.iinc 2 1, 3) := by decide +kernel
theorem dX7_elsewhere_193 : decode cX7_elsewhere 193 = .ok (.goto (-133), 3) := by decide +kernel
theorem dX7_elsewhere_196 : decode cX7_elsewhere 196 = .ok (.iconst 0, 1) := by decide +kernel
theorem dX7_elsewhere_197 : decode cX7_elsewhere 197 = .ok (.istore 4, 2) := by decide +kernel
theorem dX7_elsewhere_199 : decode cX7_elsewhere 199 = .ok (.iconst 0, 1) := by decide +kernel
theorem dX7_elsewhere_200 : decode cX7_elsewhere 200 = .ok (.istore 5, 2) := by decide +kernel
theorem dX7_elsewhere_202 : decode cX7_elsewhere 202 = .ok (.iload 5, 2) := by decide +kernel
theorem dX7_elsewhere_204 : decode cX7_elsewhere 204 = .ok (.aload_n 0, 1) := by decide +kernel
theorem dX7_elsewhere_205 : decode cX7_elsewhere 205 = .ok (.getfield 7, 3) := by decide +kernel
theorem dX7_elsewhere_208 : decode cX7_elsewhere 208 = .ok (.if_icmp .ge 30, 3) := by decide +kernel
theorem dX7_elsewhere_211 : decode cX7_elsewhere 211 = .ok (.iload 4, 2) := by decide +kernel
theorem dX7_elsewhere_213 : decode cX7_elsewhere 213 = .ok (.aload_n 0, 1) := by decide +kernel
theorem dX7_elsewhere_214 : decode cX7_elsewhere 214 = .ok (.getfield 69, 3) := by decide +kernel
theorem dX7_elsewhere_217 : decode cX7_elsewhere 217 = .ok (.iload 5, 2) := by decide +kernel
theorem dX7_elsewhere_219 : decode cX7_elsewhere 219 = .ok (.iaload, 1) := by decide +kernel
theorem dX7_elsewhere_220 : decode cX7_elsewhere 220 = .ok (.iload_n 1, 1) := by decide +kernel
theorem dX7_elsewhere_221 : decode cX7_elsewhere 221 = .ok (.if_icmp .ne 7, 3) := by decide +kernel
theorem dX7_elsewhere_224 : decode cX7_elsewhere 224 = .ok (.iconst 1, 1) := by decide +kernel
theorem dX7_elsewhere_225 : decode cX7_elsewhere 225 = .ok (.goto 4, 3) := by decide +kernel
theorem dX7_elsewhere_228 : decode cX7_elsewhere 228 = .ok (.iconst 0, 1) := by decide +kernel
theorem dX7_elsewhere_229 : decode cX7_elsewhere 229 = .ok (.iadd, 1) := by decide +kernel
theorem dX7_elsewhere_230 : decode cX7_elsewhere 230 = .ok (.istore 4, 2) := by decide +kernel
theorem dX7_elsewhere_232 : decode cX7_elsewhere 232 = .ok (.iinc 5 1, 3) := by decide +kernel
theorem dX7_elsewhere_235 : decode cX7_elsewhere 235 = .ok (.goto (-33), 3) := by decide +kernel
theorem dX7_elsewhere_238 : decode cX7_elsewhere 238 = .ok (.iload_n 1, 1) := by decide +kernel
theorem dX7_elsewhere_239 : decode cX7_elsewhere 239 = .ok (.ifCond .lt 8, 3) := by decide +kernel
theorem dX7_elsewhere_242 : decode cX7_elsewhere 242 = .ok (.iload 4, 2) := by decide +kernel
theorem dX7_elsewhere_244 : decode cX7_elsewhere 244 = .ok (.goto 13, 3) := by decide +kernel
theorem dX7_elsewhere_247 : decode cX7_elsewhere 247 = .ok (.iload_n 3, 1) := by decide +kernel
theorem dX7_elsewhere_248 : decode cX7_elsewhere 248 = .ok (.ifCond .eq 8, 3) := by decide +kernel
theorem dX7_elsewhere_251 : decode cX7_elsewhere 251 = .ok (.bipush (-6), 2) := by decide +kernel
theorem dX7_elsewhere_253 : decode cX7_elsewhere 253 = .ok (.goto 4, 3) := by decide +kernel
theorem dX7_elsewhere_256 : decode cX7_elsewhere 256 = .ok (.iload_n 2, 1) := by decide +kernel
theorem dX7_elsewhere_257 : decode cX7_elsewhere 257 = .ok (.ireturn, 1) := by decide +kernel
theorem dX7_fault_0 : decode cX7_fault 0 = .ok (.aload_n 0, 1) := by decide +kernel
theorem dX7_fault_1 : decode cX7_fault 1 = .ok (.invokevirtual 102, 3) := by decide +kernel
theorem dX7_fault_4 : decode cX7_fault 4 = .ok (.ireturn, 1) := by decide +kernel
theorem dX7_faultOf_0 : decode cX7_faultOf 0 = .ok (.iconst 0, 1) := by decide +kernel
theorem dX7_faultOf_1 : decode cX7_faultOf 1 = .ok (.istore_n 1, 1) := by decide +kernel
theorem dX7_faultOf_2 : decode cX7_faultOf 2 = .ok (.iconst 0, 1) := by decide +kernel
theorem dX7_faultOf_3 : decode cX7_faultOf 3 = .ok (.istore_n 2, 1) := by decide +kernel
theorem dX7_faultOf_4 : decode cX7_faultOf 4 = .ok (.iload_n 2, 1) := by decide +kernel
theorem dX7_faultOf_5 : decode cX7_faultOf 5 = .ok (.aload_n 0, 1) := by decide +kernel
theorem dX7_faultOf_6 : decode cX7_faultOf 6 = .ok (.getfield 99, 3) := by decide +kernel
theorem dX7_faultOf_9 : decode cX7_faultOf 9 = .ok (.if_icmp .ge 153, 3) := by decide +kernel
theorem dX7_faultOf_12 : decode cX7_faultOf 12 = .ok (.aload_n 0, 1) := by decide +kernel
theorem dX7_faultOf_13 : decode cX7_faultOf 13 = .ok (.getfield 41, 3) := by decide +kernel
theorem dX7_faultOf_16 : decode cX7_faultOf 16 = .ok (.iload_n 2, 1) := by decide +kernel
theorem dX7_faultOf_17 : decode cX7_faultOf 17 = .ok (.iaload, 1) := by decide +kernel
theorem dX7_faultOf_18 : decode cX7_faultOf 18 = .ok (.istore_n 3, 1) := by decide +kernel
theorem dX7_faultOf_19 : decode cX7_faultOf 19 = .ok (.iload_n 1, 1) := by decide +kernel
theorem dX7_faultOf_20 : decode cX7_faultOf 20 = .ok (.ifCond .ne 34, 3) := by decide +kernel
theorem dX7_faultOf_23 : decode cX7_faultOf 23 = .ok (.aload_n 0, 1) := by decide +kernel
theorem dX7_faultOf_24 : decode cX7_faultOf 24 = .ok (.iload_n 3, 1) := by decide +kernel
theorem dX7_faultOf_25 : decode cX7_faultOf 25 = .ok (.bipush 97, 2) := by decide +kernel
theorem dX7_faultOf_27 : decode cX7_faultOf 27 = .ok (.isub, 1) := by decide +kernel
theorem dX7_faultOf_28 : decode cX7_faultOf 28 = .ok (.invokevirtual 95, 3) := by decide +kernel
theorem dX7_faultOf_31 : decode cX7_faultOf 31 = .ok (.ifCond .ne 15, 3) := by decide +kernel
theorem dX7_faultOf_34 : decode cX7_faultOf 34 = .ok (.iload_n 3, 1) := by decide +kernel
theorem dX7_faultOf_35 : decode cX7_faultOf 35 = .ok (.bipush 46, 2) := by decide +kernel
theorem dX7_faultOf_37 : decode cX7_faultOf 37 = .ok (.if_icmp .eq 9, 3) := by decide +kernel
theorem dX7_faultOf_40 : decode cX7_faultOf 40 = .ok (.iload_n 3, 1) := by decide +kernel
theorem dX7_faultOf_41 : decode cX7_faultOf 41 = .ok (.bipush 119, 2) := by decide +kernel
theorem dX7_faultOf_43 : decode cX7_faultOf 43 = .ok (.if_icmp .ne 7, 3) := by decide +kernel
theorem dX7_faultOf_46 : decode cX7_faultOf 46 = .ok (.iconst 1, 1) := by decide +kernel
theorem dX7_faultOf_47 : decode cX7_faultOf 47 = .ok (.goto 60, 3) := by decide +kernel
theorem dX7_faultOf_50 : decode cX7_faultOf 50 = .ok (.iconst 0, 1) := by decide +kernel
theorem dX7_faultOf_51 : decode cX7_faultOf 51 = .ok (.goto 56, 3) := by decide +kernel
theorem dX7_faultOf_54 : decode cX7_faultOf 54 = .ok (.iload_n 1, 1) := by decide +kernel
theorem dX7_faultOf_55 : decode cX7_faultOf 55 = .ok (.iconst 1, 1) := by decide +kernel
theorem dX7_faultOf_56 : decode cX7_faultOf 56 = .ok (.if_icmp .ne 28, 3) := by decide +kernel
theorem dX7_faultOf_59 : decode cX7_faultOf 59 = .ok (.aload_n 0, 1) := by decide +kernel
theorem dX7_faultOf_60 : decode cX7_faultOf 60 = .ok (.iload_n 3, 1) := by decide +kernel
theorem dX7_faultOf_61 : decode cX7_faultOf 61 = .ok (.bipush 65, 2) := by decide +kernel
theorem dX7_faultOf_63 : decode cX7_faultOf 63 = .ok (.isub, 1) := by decide +kernel
theorem dX7_faultOf_64 : decode cX7_faultOf 64 = .ok (.invokevirtual 95, 3) := by decide +kernel
theorem dX7_faultOf_67 : decode cX7_faultOf 67 = .ok (.ifCond .ne 9, 3) := by decide +kernel
theorem dX7_faultOf_70 : decode cX7_faultOf 70 = .ok (.iload_n 3, 1) := by decide +kernel
theorem dX7_faultOf_71 : decode cX7_faultOf 71 = .ok (.bipush 42, 2) := by decide +kernel
theorem dX7_faultOf_73 : decode cX7_faultOf 73 = .ok (.if_icmp .ne 7, 3) := by decide +kernel
theorem dX7_faultOf_76 : decode cX7_faultOf 76 = .ok (.iconst 1, 1) := by decide +kernel
theorem dX7_faultOf_77 : decode cX7_faultOf 77 = .ok (.goto 30, 3) := by decide +kernel
theorem dX7_faultOf_80 : decode cX7_faultOf 80 = .ok (.iconst 0, 1) := by decide +kernel
theorem dX7_faultOf_81 : decode cX7_faultOf 81 = .ok (.goto 26, 3) := by decide +kernel
theorem dX7_faultOf_84 : decode cX7_faultOf 84 = .ok (.iload_n 3, 1) := by decide +kernel
theorem dX7_faultOf_85 : decode cX7_faultOf 85 = .ok (.bipush 116, 2) := by decide +kernel
theorem dX7_faultOf_87 : decode cX7_faultOf 87 = .ok (.if_icmp .eq 15, 3) := by decide +kernel
theorem dX7_faultOf_90 : decode cX7_faultOf 90 = .ok (.iload_n 3, 1) := by decide +kernel
theorem dX7_faultOf_91 : decode cX7_faultOf 91 = .ok (.bipush 108, 2) := by decide +kernel
theorem dX7_faultOf_93 : decode cX7_faultOf 93 = .ok (.if_icmp .eq 9, 3) := by decide +kernel
theorem dX7_faultOf_96 : decode cX7_faultOf 96 = .ok (.iload_n 3, 1) := by decide +kernel
theorem dX7_faultOf_97 : decode cX7_faultOf 97 = .ok (.bipush 43, 2) := by decide +kernel
theorem dX7_faultOf_99 : decode cX7_faultOf 99 = .ok (.if_icmp .ne 7, 3) := by decide +kernel
theorem dX7_faultOf_102 : decode cX7_faultOf 102 = .ok (.iconst 1, 1) := by decide +kernel
theorem dX7_faultOf_103 : decode cX7_faultOf 103 = .ok (.goto 4, 3) := by decide +kernel
theorem dX7_faultOf_106 : decode cX7_faultOf 106 = .ok (.iconst 0, 1) := by decide +kernel
theorem dX7_faultOf_107 : decode cX7_faultOf 107 = .ok (.istore 4, 2) := by decide +kernel
theorem dX7_faultOf_109 : decode cX7_faultOf 109 = .ok (.iload 4, 2) := by decide +kernel
theorem dX7_faultOf_111 : decode cX7_faultOf 111 = .ok (.ifCond .ne 5, 3) := by decide +kernel
theorem dX7_faultOf_114 : decode cX7_faultOf 114 = .ok (.iload_n 2, 1) := by decide +kernel
theorem dX7_faultOf_115 : decode cX7_faultOf 115 = .ok (.ireturn, 1) := by decide +kernel
theorem dX7_faultOf_116 : decode cX7_faultOf 116 = .ok (.iload_n 1, 1) := by decide +kernel
theorem dX7_faultOf_117 : decode cX7_faultOf 117 = .ok (.ifCond .ne 22, 3) := by decide +kernel
theorem dX7_faultOf_120 : decode cX7_faultOf 120 = .ok (.aload_n 0, 1) := by decide +kernel
theorem dX7_faultOf_121 : decode cX7_faultOf 121 = .ok (.iload_n 3, 1) := by decide +kernel
theorem dX7_faultOf_122 : decode cX7_faultOf 122 = .ok (.bipush 97, 2) := by decide +kernel
theorem dX7_faultOf_124 : decode cX7_faultOf 124 = .ok (.isub, 1) := by decide +kernel
theorem dX7_faultOf_125 : decode cX7_faultOf 125 = .ok (.invokevirtual 95, 3) := by decide +kernel
theorem dX7_faultOf_128 : decode cX7_faultOf 128 = .ok (.ifCond .eq 7, 3) := by decide +kernel
theorem dX7_faultOf_131 : decode cX7_faultOf 131 = .ok (.iconst 1, 1) := by decide +kernel
theorem dX7_faultOf_132 : decode cX7_faultOf 132 = .ok (.goto 23, 3) := by decide +kernel
theorem dX7_faultOf_135 : decode cX7_faultOf 135 = .ok (.iconst 0, 1) := by decide +kernel
theorem dX7_faultOf_136 : decode cX7_faultOf 136 = .ok (.goto 19, 3) := by decide +kernel
theorem dX7_faultOf_139 : decode cX7_faultOf 139 = .ok (.iload_n 1, 1) := by decide +kernel
theorem dX7_faultOf_140 : decode cX7_faultOf 140 = .ok (.iconst 1, 1) := by decide +kernel
theorem dX7_faultOf_141 : decode cX7_faultOf 141 = .ok (.if_icmp .ne 13, 3) := by decide +kernel
theorem dX7_faultOf_144 : decode cX7_faultOf 144 = .ok (.iload_n 3, 1) := by decide +kernel
theorem dX7_faultOf_145 : decode cX7_faultOf 145 = .ok (.bipush 42, 2) := by decide +kernel
theorem dX7_faultOf_147 : decode cX7_faultOf 147 = .ok (.if_icmp .eq 7, 3) := by decide +kernel
theorem dX7_faultOf_150 : decode cX7_faultOf 150 = .ok (.iconst 2, 1) := by decide +kernel
theorem dX7_faultOf_151 : decode cX7_faultOf 151 = .ok (.goto 4, 3) := by decide +kernel
theorem dX7_faultOf_154 : decode cX7_faultOf 154 = .ok (.iconst 0, 1) := by decide +kernel
theorem dX7_faultOf_155 : decode cX7_faultOf 155 = .ok (.istore_n 1, 1) := by decide +kernel
theorem dX7_faultOf_156 : decode cX7_faultOf 156 = .ok (.iinc 2 1, 3) := by decide +kernel
theorem dX7_faultOf_159 : decode cX7_faultOf 159 = .ok (.goto (-155), 3) := by decide +kernel
theorem dX7_faultOf_162 : decode cX7_faultOf 162 = .ok (.iload_n 1, 1) := by decide +kernel
theorem dX7_faultOf_163 : decode cX7_faultOf 163 = .ok (.ifCond .ne 8, 3) := by decide +kernel
theorem dX7_faultOf_166 : decode cX7_faultOf 166 = .ok (.bipush (-6), 2) := by decide +kernel
theorem dX7_faultOf_168 : decode cX7_faultOf 168 = .ok (.goto 7, 3) := by decide +kernel
theorem dX7_faultOf_171 : decode cX7_faultOf 171 = .ok (.aload_n 0, 1) := by decide +kernel
theorem dX7_faultOf_172 : decode cX7_faultOf 172 = .ok (.getfield 99, 3) := by decide +kernel
theorem dX7_faultOf_175 : decode cX7_faultOf 175 = .ok (.ireturn, 1) := by decide +kernel
theorem dX7_first_0 : decode cX7_first 0 = .ok (.aload_n 0, 1) := by decide +kernel
theorem dX7_first_1 : decode cX7_first 1 = .ok (.invokevirtual 175, 3) := by decide +kernel
theorem dX7_first_4 : decode cX7_first 4 = .ok (.ifCond .ge 8, 3) := by decide +kernel
theorem dX7_first_7 : decode cX7_first 7 = .ok (.bipush (-5), 2) := by decide +kernel
theorem dX7_first_9 : decode cX7_first 9 = .ok (.goto 7, 3) := by decide +kernel
theorem dX7_first_12 : decode cX7_first 12 = .ok (.aload_n 0, 1) := by decide +kernel
theorem dX7_first_13 : decode cX7_first 13 = .ok (.getfield 140, 3) := by decide +kernel
theorem dX7_first_16 : decode cX7_first 16 = .ok (.ireturn, 1) := by decide +kernel
theorem dX7_flakesOf_0 : decode cX7_flakesOf 0 = .ok (.iload_n 3, 1) := by decide +kernel
theorem dX7_flakesOf_1 : decode cX7_flakesOf 1 = .ok (.bipush 116, 2) := by decide +kernel
theorem dX7_flakesOf_3 : decode cX7_flakesOf 3 = .ok (.if_icmp .ne 10, 3) := by decide +kernel
theorem dX7_flakesOf_6 : decode cX7_flakesOf 6 = .ok (.aload_n 0, 1) := by decide +kernel
theorem dX7_flakesOf_7 : decode cX7_flakesOf 7 = .ok (.getfield 112, 3) := by decide +kernel
theorem dX7_flakesOf_10 : decode cX7_flakesOf 10 = .ok (.goto 7, 3) := by decide +kernel
theorem dX7_flakesOf_13 : decode cX7_flakesOf 13 = .ok (.aload_n 0, 1) := by decide +kernel
theorem dX7_flakesOf_14 : decode cX7_flakesOf 14 = .ok (.getfield 115, 3) := by decide +kernel
theorem dX7_flakesOf_17 : decode cX7_flakesOf 17 = .ok (.aload_n 0, 1) := by decide +kernel
theorem dX7_flakesOf_18 : decode cX7_flakesOf 18 = .ok (.getfield 50, 3) := by decide +kernel
theorem dX7_flakesOf_21 : decode cX7_flakesOf 21 = .ok (.iload_n 1, 1) := by decide +kernel
theorem dX7_flakesOf_22 : decode cX7_flakesOf 22 = .ok (.iaload, 1) := by decide +kernel
theorem dX7_flakesOf_23 : decode cX7_flakesOf 23 = .ok (.iload_n 2, 1) := by decide +kernel
theorem dX7_flakesOf_24 : decode cX7_flakesOf 24 = .ok (.invokestatic 121, 3) := by decide +kernel
theorem dX7_flakesOf_27 : decode cX7_flakesOf 27 = .ok (.ifCond .eq 10, 3) := by decide +kernel
theorem dX7_flakesOf_30 : decode cX7_flakesOf 30 = .ok (.aload_n 0, 1) := by decide +kernel
theorem dX7_flakesOf_31 : decode cX7_flakesOf 31 = .ok (.getfield 118, 3) := by decide +kernel
theorem dX7_flakesOf_34 : decode cX7_flakesOf 34 = .ok (.goto 4, 3) := by decide +kernel
theorem dX7_flakesOf_37 : decode cX7_flakesOf 37 = .ok (.iconst 0, 1) := by decide +kernel
theorem dX7_flakesOf_38 : decode cX7_flakesOf 38 = .ok (.iadd, 1) := by decide +kernel
theorem dX7_flakesOf_39 : decode cX7_flakesOf 39 = .ok (.ireturn, 1) := by decide +kernel
theorem dX7_forget_0 : decode cX7_forget 0 = .ok (.aload_n 0, 1) := by decide +kernel
theorem dX7_forget_1 : decode cX7_forget 1 = .ok (.getfield 88, 3) := by decide +kernel
theorem dX7_forget_4 : decode cX7_forget 4 = .ok (.istore_n 1, 1) := by decide +kernel
theorem dX7_forget_5 : decode cX7_forget 5 = .ok (.aload_n 0, 1) := by decide +kernel
theorem dX7_forget_6 : decode cX7_forget 6 = .ok (.iconst 0, 1) := by decide +kernel
theorem dX7_forget_7 : decode cX7_forget 7 = .ok (.putfield 88, 3) := by decide +kernel
theorem dX7_forget_10 : decode cX7_forget 10 = .ok (.iload_n 1, 1) := by decide +kernel
theorem dX7_forget_11 : decode cX7_forget 11 = .ok (.ireturn, 1) := by decide +kernel
theorem dX7_garden_0 : decode cX7_garden 0 = .ok (.aload_n 0, 1) := by decide +kernel
theorem dX7_garden_1 : decode cX7_garden 1 = .ok (.iload_n 1, 1) := by decide +kernel
theorem dX7_garden_2 : decode cX7_garden 2 = .ok (.invokevirtual 95, 3) := by decide +kernel
theorem dX7_garden_5 : decode cX7_garden 5 = .ok (.ifCond .ne 5, 3) := by decide +kernel
theorem dX7_garden_8 : decode cX7_garden 8 = .ok (.iconst (-1), 1) := by decide +kernel
theorem dX7_garden_9 : decode cX7_garden 9 = .ok (.ireturn, 1) := by decide +kernel
theorem dX7_garden_10 : decode cX7_garden 10 = .ok (.iload_n 2, 1) := by decide +kernel
theorem dX7_garden_11 : decode cX7_garden 11 = .ok (.iconst 0, 1) := by decide +kernel
theorem dX7_garden_12 : decode cX7_garden 12 = .ok (.iconst 1, 1) := by decide +kernel
theorem dX7_garden_13 : decode cX7_garden 13 = .ok (.invokestatic 91, 3) := by decide +kernel
theorem dX7_garden_16 : decode cX7_garden 16 = .ok (.ifCond .eq 14, 3) := by decide +kernel
theorem dX7_garden_19 : decode cX7_garden 19 = .ok (.iload_n 3, 1) := by decide +kernel
theorem dX7_garden_20 : decode cX7_garden 20 = .ok (.iconst 0, 1) := by decide +kernel
theorem dX7_garden_21 : decode cX7_garden 21 = .ok (.sipush 999, 3) := by decide +kernel
theorem dX7_garden_24 : decode cX7_garden 24 = .ok (.invokestatic 91, 3) := by decide +kernel
theorem dX7_garden_27 : decode cX7_garden 27 = .ok (.ifCond .ne 6, 3) := by decide +kernel
theorem dX7_garden_30 : decode cX7_garden 30 = .ok (.bipush (-2), 2) := by decide +kernel
theorem dX7_garden_32 : decode cX7_garden 32 = .ok (.ireturn, 1) := by decide +kernel
theorem dX7_garden_33 : decode cX7_garden 33 = .ok (.iload_n 2, 1) := by decide +kernel
theorem dX7_garden_34 : decode cX7_garden 34 = .ok (.ifCond .ne 12, 3) := by decide +kernel
theorem dX7_garden_37 : decode cX7_garden 37 = .ok (.aload_n 0, 1) := by decide +kernel
theorem dX7_garden_38 : decode cX7_garden 38 = .ok (.getfield 13, 3) := by decide +kernel
theorem dX7_garden_41 : decode cX7_garden 41 = .ok (.iload_n 1, 1) := by decide +kernel
theorem dX7_garden_42 : decode cX7_garden 42 = .ok (.iaload, 1) := by decide +kernel
theorem dX7_garden_43 : decode cX7_garden 43 = .ok (.goto 9, 3) := by decide +kernel
theorem dX7_garden_46 : decode cX7_garden 46 = .ok (.aload_n 0, 1) := by decide +kernel
theorem dX7_garden_47 : decode cX7_garden 47 = .ok (.getfield 17, 3) := by decide +kernel
theorem dX7_garden_50 : decode cX7_garden 50 = .ok (.iload_n 1, 1) := by decide +kernel
theorem dX7_garden_51 : decode cX7_garden 51 = .ok (.iaload, 1) := by decide +kernel
theorem dX7_garden_52 : decode cX7_garden 52 = .ok (.istore 4, 2) := by decide +kernel
theorem dX7_garden_54 : decode cX7_garden 54 = .ok (.iload_n 2, 1) := by decide +kernel
theorem dX7_garden_55 : decode cX7_garden 55 = .ok (.ifCond .ne 13, 3) := by decide +kernel
theorem dX7_garden_58 : decode cX7_garden 58 = .ok (.aload_n 0, 1) := by decide +kernel
theorem dX7_garden_59 : decode cX7_garden 59 = .ok (.getfield 13, 3) := by decide +kernel
theorem dX7_garden_62 : decode cX7_garden 62 = .ok (.iload_n 1, 1) := by decide +kernel
theorem dX7_garden_63 : decode cX7_garden 63 = .ok (.iload_n 3, 1) := by decide +kernel
theorem dX7_garden_64 : decode cX7_garden 64 = .ok (.iastore, 1) := by decide +kernel
theorem dX7_garden_65 : decode cX7_garden 65 = .ok (.goto 24, 3) := by decide +kernel
theorem dX7_garden_68 : decode cX7_garden 68 = .ok (.aload_n 0, 1) := by decide +kernel
theorem dX7_garden_69 : decode cX7_garden 69 = .ok (.getfield 17, 3) := by decide +kernel
theorem dX7_garden_72 : decode cX7_garden 72 = .ok (.iload_n 1, 1) := by decide +kernel
theorem dX7_garden_73 : decode cX7_garden 73 = .ok (.iload_n 3, 1) := by decide +kernel
theorem dX7_garden_74 : decode cX7_garden 74 = .ok (.iastore, 1) := by decide +kernel
theorem dX7_garden_75 : decode cX7_garden 75 = .ok (.aload_n 0, 1) := by decide +kernel
theorem dX7_garden_76 : decode cX7_garden 76 = .ok (.dup, 1) := by decide +kernel
theorem dX7_garden_77 : decode cX7_garden 77 = .ok (.getfield 82, 3) := by decide +kernel
theorem dX7_garden_80 : decode cX7_garden 80 = .ok (.iconst 1, 1) := by decide +kernel
theorem dX7_garden_81 : decode cX7_garden 81 = .ok (.iload_n 1, 1) := by decide +kernel
theorem dX7_garden_82 : decode cX7_garden 82 = .ok (.ishl, 1) := by decide +kernel
theorem dX7_garden_83 : decode cX7_garden 83 = .ok (.iconst (-1), 1) := by decide +kernel
theorem dX7_garden_84 : decode cX7_garden 84 = .ok (.ixor, 1) := by decide +kernel
theorem dX7_garden_85 : decode cX7_garden 85 = .ok (.iand, 1) := by decide +kernel
theorem dX7_garden_86 : decode cX7_garden 86 = .ok (.putfield 82, 3) := by decide +kernel
theorem dX7_garden_89 : decode cX7_garden 89 = .ok (.iload 4, 2) := by decide +kernel
theorem dX7_garden_91 : decode cX7_garden 91 = .ok (.ireturn, 1) := by decide +kernel
theorem dX7_gardens_0 : decode cX7_gardens 0 = .ok (.iload_n 1, 1) := by decide +kernel
theorem dX7_gardens_1 : decode cX7_gardens 1 = .ok (.iconst 2, 1) := by decide +kernel
theorem dX7_gardens_2 : decode cX7_gardens 2 = .ok (.bipush 8, 2) := by decide +kernel
theorem dX7_gardens_4 : decode cX7_gardens 4 = .ok (.invokestatic 91, 3) := by decide +kernel
theorem dX7_gardens_7 : decode cX7_gardens 7 = .ok (.ifCond .ne 6, 3) := by decide +kernel
theorem dX7_gardens_10 : decode cX7_gardens 10 = .ok (.bipush (-2), 2) := by decide +kernel
theorem dX7_gardens_12 : decode cX7_gardens 12 = .ok (.ireturn, 1) := by decide +kernel
theorem dX7_gardens_13 : decode cX7_gardens 13 = .ok (.aload_n 0, 1) := by decide +kernel
theorem dX7_gardens_14 : decode cX7_gardens 14 = .ok (.getfield 7, 3) := by decide +kernel
theorem dX7_gardens_17 : decode cX7_gardens 17 = .ok (.istore_n 2, 1) := by decide +kernel
theorem dX7_gardens_18 : decode cX7_gardens 18 = .ok (.aload_n 0, 1) := by decide +kernel
theorem dX7_gardens_19 : decode cX7_gardens 19 = .ok (.iload_n 1, 1) := by decide +kernel
theorem dX7_gardens_20 : decode cX7_gardens 20 = .ok (.putfield 7, 3) := by decide +kernel
theorem dX7_gardens_23 : decode cX7_gardens 23 = .ok (.aload_n 0, 1) := by decide +kernel
theorem dX7_gardens_24 : decode cX7_gardens 24 = .ok (.invokevirtual 79, 3) := by decide +kernel
theorem dX7_gardens_27 : decode cX7_gardens 27 = .ok (.iload_n 2, 1) := by decide +kernel
theorem dX7_gardens_28 : decode cX7_gardens 28 = .ok (.ireturn, 1) := by decide +kernel
theorem dX7_goTalk_0 : decode cX7_goTalk 0 = .ok (.aload_n 0, 1) := by decide +kernel
theorem dX7_goTalk_1 : decode cX7_goTalk 1 = .ok (.iconst 0, 1) := by decide +kernel
theorem dX7_goTalk_2 : decode cX7_goTalk 2 = .ok (.putfield 137, 3) := by decide +kernel
theorem dX7_goTalk_5 : decode cX7_goTalk 5 = .ok (.aload_n 0, 1) := by decide +kernel
theorem dX7_goTalk_6 : decode cX7_goTalk 6 = .ok (.bipush (-6), 2) := by decide +kernel
theorem dX7_goTalk_8 : decode cX7_goTalk 8 = .ok (.putfield 140, 3) := by decide +kernel
theorem dX7_goTalk_11 : decode cX7_goTalk 11 = .ok (.iconst 0, 1) := by decide +kernel
theorem dX7_goTalk_12 : decode cX7_goTalk 12 = .ok (.istore_n 2, 1) := by decide +kernel
theorem dX7_goTalk_13 : decode cX7_goTalk 13 = .ok (.iload_n 2, 1) := by decide +kernel
theorem dX7_goTalk_14 : decode cX7_goTalk 14 = .ok (.aload_n 0, 1) := by decide +kernel
theorem dX7_goTalk_15 : decode cX7_goTalk 15 = .ok (.getfield 99, 3) := by decide +kernel
theorem dX7_goTalk_18 : decode cX7_goTalk 18 = .ok (.if_icmp .ge 251, 3) := by decide +kernel
theorem dX7_goTalk_21 : decode cX7_goTalk 21 = .ok (.aload_n 0, 1) := by decide +kernel
theorem dX7_goTalk_22 : decode cX7_goTalk 22 = .ok (.getfield 41, 3) := by decide +kernel
theorem dX7_goTalk_25 : decode cX7_goTalk 25 = .ok (.iload_n 2, 1) := by decide +kernel
theorem dX7_goTalk_26 : decode cX7_goTalk 26 = .ok (.iaload, 1) := by decide +kernel
theorem dX7_goTalk_27 : decode cX7_goTalk 27 = .ok (.istore_n 3, 1) := by decide +kernel
theorem dX7_goTalk_28 : decode cX7_goTalk 28 = .ok (.aload_n 0, 1) := by decide +kernel
theorem dX7_goTalk_29 : decode cX7_goTalk 29 = .ok (.getfield 106, 3) := by decide +kernel
theorem dX7_goTalk_32 : decode cX7_goTalk 32 = .ok (.istore 4, 2) := by decide +kernel
theorem dX7_goTalk_34 : decode cX7_goTalk 34 = .ok (.aload_n 0, 1) := by decide +kernel
theorem dX7_goTalk_35 : decode cX7_goTalk 35 = .ok (.iconst 0, 1) := by decide +kernel
theorem dX7_goTalk_36 : decode cX7_goTalk 36 = .ok (.putfield 143, 3) := by decide +kernel
theorem dX7_goTalk_39 : decode cX7_goTalk 39 = .ok (.iload_n 3, 1) := by decide +kernel
theorem dX7_goTalk_40 : decode cX7_goTalk 40 = .ok (.bipush 46, 2) := by decide +kernel
theorem dX7_goTalk_42 : decode cX7_goTalk 42 = .ok (.if_icmp .ne 13, 3) := by decide +kernel
theorem dX7_goTalk_45 : decode cX7_goTalk 45 = .ok (.aload_n 0, 1) := by decide +kernel
theorem dX7_goTalk_46 : decode cX7_goTalk 46 = .ok (.invokevirtual 146, 3) := by decide +kernel
theorem dX7_goTalk_49 : decode cX7_goTalk 49 = .ok (.iinc 2 1, 3) := by decide +kernel
theorem dX7_goTalk_52 : decode cX7_goTalk 52 = .ok (.goto 153, 3) := by decide +kernel
theorem dX7_goTalk_55 : decode cX7_goTalk 55 = .ok (.iload_n 3, 1) := by decide +kernel
theorem dX7_goTalk_56 : decode cX7_goTalk 56 = .ok (.bipush 119, 2) := by decide +kernel
theorem dX7_goTalk_58 : decode cX7_goTalk 58 = .ok (.if_icmp .ne 13, 3) := by decide +kernel
theorem dX7_goTalk_61 : decode cX7_goTalk 61 = .ok (.aload_n 0, 1) := by decide +kernel
theorem dX7_goTalk_62 : decode cX7_goTalk 62 = .ok (.invokevirtual 149, 3) := by decide +kernel
theorem dX7_goTalk_65 : decode cX7_goTalk 65 = .ok (.iinc 2 1, 3) := by decide +kernel
theorem dX7_goTalk_68 : decode cX7_goTalk 68 = .ok (.goto 137, 3) := by decide +kernel
theorem dX7_goTalk_71 : decode cX7_goTalk 71 = .ok (.aload_n 0, 1) := by decide +kernel
theorem dX7_goTalk_72 : decode cX7_goTalk 72 = .ok (.getfield 41, 3) := by decide +kernel
theorem dX7_goTalk_75 : decode cX7_goTalk 75 = .ok (.iload_n 2, 1) := by decide +kernel
theorem dX7_goTalk_76 : decode cX7_goTalk 76 = .ok (.iconst 1, 1) := by decide +kernel
theorem dX7_goTalk_77 : decode cX7_goTalk 77 = .ok (.iadd, 1) := by decide +kernel
theorem dX7_goTalk_78 : decode cX7_goTalk 78 = .ok (.iaload, 1) := by decide +kernel
theorem dX7_goTalk_79 : decode cX7_goTalk 79 = .ok (.bipush 42, 2) := by decide +kernel
theorem dX7_goTalk_81 : decode cX7_goTalk 81 = .ok (.if_icmp .ne 48, 3) := by decide +kernel
theorem dX7_goTalk_84 : decode cX7_goTalk 84 = .ok (.aload_n 0, 1) := by decide +kernel
theorem dX7_goTalk_85 : decode cX7_goTalk 85 = .ok (.iload_n 1, 1) := by decide +kernel
theorem dX7_goTalk_86 : decode cX7_goTalk 86 = .ok (.ifCond .ne 18, 3) := by decide +kernel
theorem dX7_goTalk_89 : decode cX7_goTalk 89 = .ok (.aload_n 0, 1) := by decide +kernel
theorem dX7_goTalk_90 : decode cX7_goTalk 90 = .ok (.iload_n 3, 1) := by decide +kernel
theorem dX7_goTalk_91 : decode cX7_goTalk 91 = .ok (.bipush 97, 2) := by decide +kernel
theorem dX7_goTalk_93 : decode cX7_goTalk 93 = .ok (.isub, 1) := by decide +kernel
theorem dX7_goTalk_94 : decode cX7_goTalk 94 = .ok (.invokevirtual 152, 3) := by decide +kernel
theorem dX7_goTalk_97 : decode cX7_goTalk 97 = .ok (.ifCond .eq 7, 3) := by decide +kernel
theorem dX7_goTalk_100 : decode cX7_goTalk 100 = .ok (.iconst 2, 1) := by decide +kernel
theorem dX7_goTalk_101 : decode cX7_goTalk 101 = .ok (.goto 4, 3) := by decide +kernel
theorem dX7_goTalk_104 : decode cX7_goTalk 104 = .ok (.iconst 0, 1) := by decide +kernel
theorem dX7_goTalk_105 : decode cX7_goTalk 105 = .ok (.putfield 143, 3) := by decide +kernel
theorem dX7_goTalk_108 : decode cX7_goTalk 108 = .ok (.aload_n 0, 1) := by decide +kernel
theorem dX7_goTalk_109 : decode cX7_goTalk 109 = .ok (.getfield 143, 3) := by decide +kernel
theorem dX7_goTalk_112 : decode cX7_goTalk 112 = .ok (.ifCond .ne 11, 3) := by decide +kernel
theorem dX7_goTalk_115 : decode cX7_goTalk 115 = .ok (.aload_n 0, 1) := by decide +kernel
theorem dX7_goTalk_116 : decode cX7_goTalk 116 = .ok (.iload_n 3, 1) := by decide +kernel
theorem dX7_goTalk_117 : decode cX7_goTalk 117 = .ok (.bipush 97, 2) := by decide +kernel
theorem dX7_goTalk_119 : decode cX7_goTalk 119 = .ok (.isub, 1) := by decide +kernel
theorem dX7_goTalk_120 : decode cX7_goTalk 120 = .ok (.invokevirtual 155, 3) := by decide +kernel
theorem dX7_goTalk_123 : decode cX7_goTalk 123 = .ok (.iinc 2 2, 3) := by decide +kernel
theorem dX7_goTalk_126 : decode cX7_goTalk 126 = .ok (.goto 79, 3) := by decide +kernel
theorem dX7_goTalk_129 : decode cX7_goTalk 129 = .ok (.aload_n 0, 1) := by decide +kernel
theorem dX7_goTalk_130 : decode cX7_goTalk 130 = .ok (.iload_n 1, 1) := by decide +kernel
theorem dX7_goTalk_131 : decode cX7_goTalk 131 = .ok (.ifCond .eq 7, 3) := by decide +kernel
theorem dX7_goTalk_134 : decode cX7_goTalk 134 = .ok (.iconst 0, 1) := by decide +kernel
theorem dX7_goTalk_135 : decode cX7_goTalk 135 = .ok (.goto 30, 3) := by decide +kernel
theorem dX7_goTalk_138 : decode cX7_goTalk 138 = .ok (.aload_n 0, 1) := by decide +kernel
theorem dX7_goTalk_139 : decode cX7_goTalk 139 = .ok (.iload_n 3, 1) := by decide +kernel
theorem dX7_goTalk_140 : decode cX7_goTalk 140 = .ok (.bipush 97, 2) := by decide +kernel
theorem dX7_goTalk_142 : decode cX7_goTalk 142 = .ok (.isub, 1) := by decide +kernel
theorem dX7_goTalk_143 : decode cX7_goTalk 143 = .ok (.aload_n 0, 1) := by decide +kernel
theorem dX7_goTalk_144 : decode cX7_goTalk 144 = .ok (.getfield 41, 3) := by decide +kernel
theorem dX7_goTalk_147 : decode cX7_goTalk 147 = .ok (.iload_n 2, 1) := by decide +kernel
theorem dX7_goTalk_148 : decode cX7_goTalk 148 = .ok (.iconst 1, 1) := by decide +kernel
theorem dX7_goTalk_149 : decode cX7_goTalk 149 = .ok (.iadd, 1) := by decide +kernel
theorem dX7_goTalk_150 : decode cX7_goTalk 150 = .ok (.iaload, 1) := by decide +kernel
theorem dX7_goTalk_151 : decode cX7_goTalk 151 = .ok (.bipush 65, 2) := by decide +kernel
theorem dX7_goTalk_153 : decode cX7_goTalk 153 = .ok (.isub, 1) := by decide +kernel
theorem dX7_goTalk_154 : decode cX7_goTalk 154 = .ok (.aload_n 0, 1) := by decide +kernel
theorem dX7_goTalk_155 : decode cX7_goTalk 155 = .ok (.getfield 41, 3) := by decide +kernel
theorem dX7_goTalk_158 : decode cX7_goTalk 158 = .ok (.iload_n 2, 1) := by decide +kernel
theorem dX7_goTalk_159 : decode cX7_goTalk 159 = .ok (.iconst 2, 1) := by decide +kernel
theorem dX7_goTalk_160 : decode cX7_goTalk 160 = .ok (.iadd, 1) := by decide +kernel
theorem dX7_goTalk_161 : decode cX7_goTalk 161 = .ok (.iaload, 1) := by decide +kernel
theorem dX7_goTalk_162 : decode cX7_goTalk 162 = .ok (.invokevirtual 159, 3) := by decide +kernel
theorem dX7_goTalk_165 : decode cX7_goTalk 165 = .ok (.putfield 143, 3) := by decide +kernel
theorem dX7_goTalk_168 : decode cX7_goTalk 168 = .ok (.aload_n 0, 1) := by decide +kernel
theorem dX7_goTalk_169 : decode cX7_goTalk 169 = .ok (.getfield 143, 3) := by decide +kernel
theorem dX7_goTalk_172 : decode cX7_goTalk 172 = .ok (.ifCond .ne 30, 3) := by decide +kernel
theorem dX7_goTalk_175 : decode cX7_goTalk 175 = .ok (.aload_n 0, 1) := by decide +kernel
theorem dX7_goTalk_176 : decode cX7_goTalk 176 = .ok (.iload_n 3, 1) := by decide +kernel
theorem dX7_goTalk_177 : decode cX7_goTalk 177 = .ok (.bipush 97, 2) := by decide +kernel
theorem dX7_goTalk_179 : decode cX7_goTalk 179 = .ok (.isub, 1) := by decide +kernel
theorem dX7_goTalk_180 : decode cX7_goTalk 180 = .ok (.aload_n 0, 1) := by decide +kernel
theorem dX7_goTalk_181 : decode cX7_goTalk 181 = .ok (.getfield 41, 3) := by decide +kernel
theorem dX7_goTalk_184 : decode cX7_goTalk 184 = .ok (.iload_n 2, 1) := by decide +kernel
theorem dX7_goTalk_185 : decode cX7_goTalk 185 = .ok (.iconst 1, 1) := by decide +kernel
theorem dX7_goTalk_186 : decode cX7_goTalk 186 = .ok (.iadd, 1) := by decide +kernel
theorem dX7_goTalk_187 : decode cX7_goTalk 187 = .ok (.iaload, 1) := by decide +kernel
theorem dX7_goTalk_188 : decode cX7_goTalk 188 = .ok (.bipush 65, 2) := by decide +kernel
theorem dX7_goTalk_190 : decode cX7_goTalk 190 = .ok (.isub, 1) := by decide +kernel
theorem dX7_goTalk_191 : decode cX7_goTalk 191 = .ok (.aload_n 0, 1) := by decide +kernel
theorem dX7_goTalk_192 : decode cX7_goTalk 192 = .ok (.getfield 41, 3) := by decide +kernel
theorem dX7_goTalk_195 : decode cX7_goTalk 195 = .ok (.iload_n 2, 1) := by decide +kernel
theorem dX7_goTalk_196 : decode cX7_goTalk 196 = .ok (.iconst 2, 1) := by decide +kernel
theorem dX7_goTalk_197 : decode cX7_goTalk 197 = .ok (.iadd, 1) := by decide +kernel
theorem dX7_goTalk_198 : decode cX7_goTalk 198 = .ok (.iaload, 1) := by decide +kernel
theorem dX7_goTalk_199 : decode cX7_goTalk 199 = .ok (.invokevirtual 162, 3) := by decide +kernel
theorem dX7_goTalk_202 : decode cX7_goTalk 202 = .ok (.iinc 2 3, 3) := by decide +kernel
theorem dX7_goTalk_205 : decode cX7_goTalk 205 = .ok (.aload_n 0, 1) := by decide +kernel
theorem dX7_goTalk_206 : decode cX7_goTalk 206 = .ok (.getfield 143, 3) := by decide +kernel
theorem dX7_goTalk_209 : decode cX7_goTalk 209 = .ok (.ifCond .le 8, 3) := by decide +kernel
theorem dX7_goTalk_212 : decode cX7_goTalk 212 = .ok (.aload_n 0, 1) := by decide +kernel
theorem dX7_goTalk_213 : decode cX7_goTalk 213 = .ok (.getfield 137, 3) := by decide +kernel
theorem dX7_goTalk_216 : decode cX7_goTalk 216 = .ok (.ireturn, 1) := by decide +kernel
theorem dX7_goTalk_217 : decode cX7_goTalk 217 = .ok (.iload_n 1, 1) := by decide +kernel
theorem dX7_goTalk_218 : decode cX7_goTalk 218 = .ok (.ifCond .ne 7, 3) := by decide +kernel
theorem dX7_goTalk_221 : decode cX7_goTalk 221 = .ok (.aload_n 0, 1) := by decide +kernel
theorem dX7_goTalk_222 : decode cX7_goTalk 222 = .ok (.invokevirtual 165, 3) := by decide +kernel
theorem dX7_goTalk_225 : decode cX7_goTalk 225 = .ok (.aload_n 0, 1) := by decide +kernel
theorem dX7_goTalk_226 : decode cX7_goTalk 226 = .ok (.aload_n 0, 1) := by decide +kernel
theorem dX7_goTalk_227 : decode cX7_goTalk 227 = .ok (.getfield 140, 3) := by decide +kernel
theorem dX7_goTalk_230 : decode cX7_goTalk 230 = .ok (.ifCond .ge 19, 3) := by decide +kernel
theorem dX7_goTalk_233 : decode cX7_goTalk 233 = .ok (.aload_n 0, 1) := by decide +kernel
theorem dX7_goTalk_234 : decode cX7_goTalk 234 = .ok (.getfield 106, 3) := by decide +kernel
theorem dX7_goTalk_237 : decode cX7_goTalk 237 = .ok (.iload 4, 2) := by decide +kernel
theorem dX7_goTalk_239 : decode cX7_goTalk 239 = .ok (.if_icmp .eq 10, 3) := by decide +kernel
theorem dX7_goTalk_242 : decode cX7_goTalk 242 = .ok (.aload_n 0, 1) := by decide +kernel
theorem dX7_goTalk_243 : decode cX7_goTalk 243 = .ok (.getfield 137, 3) := by decide +kernel
theorem dX7_goTalk_246 : decode cX7_goTalk 246 = .ok (.goto 7, 3) := by decide +kernel
theorem dX7_goTalk_249 : decode cX7_goTalk 249 = .ok (.aload_n 0, 1) := by decide +kernel
theorem dX7_goTalk_250 : decode cX7_goTalk 250 = .ok (.getfield 140, 3) := by decide +kernel
theorem dX7_goTalk_253 : decode cX7_goTalk 253 = .ok (.putfield 140, 3) := by decide +kernel
theorem dX7_goTalk_256 : decode cX7_goTalk 256 = .ok (.aload_n 0, 1) := by decide +kernel
theorem dX7_goTalk_257 : decode cX7_goTalk 257 = .ok (.dup, 1) := by decide +kernel
theorem dX7_goTalk_258 : decode cX7_goTalk 258 = .ok (.getfield 137, 3) := by decide +kernel
theorem dX7_goTalk_261 : decode cX7_goTalk 261 = .ok (.iconst 1, 1) := by decide +kernel
theorem dX7_goTalk_262 : decode cX7_goTalk 262 = .ok (.iadd, 1) := by decide +kernel
theorem dX7_goTalk_263 : decode cX7_goTalk 263 = .ok (.putfield 137, 3) := by decide +kernel
theorem dX7_goTalk_266 : decode cX7_goTalk 266 = .ok (.goto (-253), 3) := by decide +kernel
theorem dX7_goTalk_269 : decode cX7_goTalk 269 = .ok (.bipush (-6), 2) := by decide +kernel
theorem dX7_goTalk_271 : decode cX7_goTalk 271 = .ok (.ireturn, 1) := by decide +kernel
theorem dX7_guests_0 : decode cX7_guests 0 = .ok (.aload_n 0, 1) := by decide +kernel
theorem dX7_guests_1 : decode cX7_guests 1 = .ok (.iload_n 1, 1) := by decide +kernel
theorem dX7_guests_2 : decode cX7_guests 2 = .ok (.invokevirtual 95, 3) := by decide +kernel
theorem dX7_guests_5 : decode cX7_guests 5 = .ok (.ifCond .ne 7, 3) := by decide +kernel
theorem dX7_guests_8 : decode cX7_guests 8 = .ok (.ldc2_w 218, 3) := by decide +kernel
theorem dX7_guests_11 : decode cX7_guests 11 = .ok (.lreturn, 1) := by decide +kernel
theorem dX7_guests_12 : decode cX7_guests 12 = .ok (.iload_n 2, 1) := by decide +kernel
theorem dX7_guests_13 : decode cX7_guests 13 = .ok (.iconst 0, 1) := by decide +kernel
theorem dX7_guests_14 : decode cX7_guests 14 = .ok (.bipush 10, 2) := by decide +kernel
theorem dX7_guests_16 : decode cX7_guests 16 = .ok (.invokestatic 91, 3) := by decide +kernel
theorem dX7_guests_19 : decode cX7_guests 19 = .ok (.ifCond .eq 23, 3) := by decide +kernel
theorem dX7_guests_22 : decode cX7_guests 22 = .ok (.iload_n 3, 1) := by decide +kernel
theorem dX7_guests_23 : decode cX7_guests 23 = .ok (.iconst 0, 1) := by decide +kernel
theorem dX7_guests_24 : decode cX7_guests 24 = .ok (.bipush 12, 2) := by decide +kernel
theorem dX7_guests_26 : decode cX7_guests 26 = .ok (.invokestatic 91, 3) := by decide +kernel
theorem dX7_guests_29 : decode cX7_guests 29 = .ok (.ifCond .eq 13, 3) := by decide +kernel
theorem dX7_guests_32 : decode cX7_guests 32 = .ok (.iload 4, 2) := by decide +kernel
theorem dX7_guests_34 : decode cX7_guests 34 = .ok (.iconst 0, 1) := by decide +kernel
theorem dX7_guests_35 : decode cX7_guests 35 = .ok (.iconst 1, 1) := by decide +kernel
theorem dX7_guests_36 : decode cX7_guests 36 = .ok (.invokestatic 91, 3) := by decide +kernel
theorem dX7_guests_39 : decode cX7_guests 39 = .ok (.ifCond .ne 7, 3) := by decide +kernel
theorem dX7_guests_42 : decode cX7_guests 42 = .ok (.ldc2_w 220, 3) := by decide +kernel
theorem dX7_guests_45 : decode cX7_guests 45 = .ok (.lreturn, 1) := by decide +kernel
theorem dX7_guests_46 : decode cX7_guests 46 = .ok (.aload_n 0, 1) := by decide +kernel
theorem dX7_guests_47 : decode cX7_guests 47 = .ok (.getfield 82, 3) := by decide +kernel
theorem dX7_guests_50 : decode cX7_guests 50 = .ok (.iload_n 1, 1) := by decide +kernel
theorem dX7_guests_51 : decode cX7_guests 51 = .ok (.invokestatic 121, 3) := by decide +kernel
theorem dX7_guests_54 : decode cX7_guests 54 = .ok (.ifCond .eq 7, 3) := by decide +kernel
theorem dX7_guests_57 : decode cX7_guests 57 = .ok (.lconst 0, 1) := by decide +kernel
theorem dX7_guests_58 : decode cX7_guests 58 = .ok (.goto 16, 3) := by decide +kernel
theorem dX7_guests_61 : decode cX7_guests 61 = .ok (.aload_n 0, 1) := by decide +kernel
theorem dX7_guests_62 : decode cX7_guests 62 = .ok (.iload_n 1, 1) := by decide +kernel
theorem dX7_guests_63 : decode cX7_guests 63 = .ok (.iload_n 2, 1) := by decide +kernel
theorem dX7_guests_64 : decode cX7_guests 64 = .ok (.iload_n 3, 1) := by decide +kernel
theorem dX7_guests_65 : decode cX7_guests 65 = .ok (.aload_n 0, 1) := by decide +kernel
theorem dX7_guests_66 : decode cX7_guests 66 = .ok (.getfield 17, 3) := by decide +kernel
theorem dX7_guests_69 : decode cX7_guests 69 = .ok (.iload_n 1, 1) := by decide +kernel
theorem dX7_guests_70 : decode cX7_guests 70 = .ok (.iaload, 1) := by decide +kernel
theorem dX7_guests_71 : decode cX7_guests 71 = .ok (.invokevirtual 222, 3) := by decide +kernel
theorem dX7_guests_74 : decode cX7_guests 74 = .ok (.lstore 5, 2) := by decide +kernel
theorem dX7_guests_76 : decode cX7_guests 76 = .ok (.iload_n 3, 1) := by decide +kernel
theorem dX7_guests_77 : decode cX7_guests 77 = .ok (.invokestatic 226, 3) := by decide +kernel
theorem dX7_guests_80 : decode cX7_guests 80 = .ok (.lstore 7, 2) := by decide +kernel
theorem dX7_guests_82 : decode cX7_guests 82 = .ok (.lload 5, 2) := by decide +kernel
theorem dX7_guests_84 : decode cX7_guests 84 = .ok (.lstore 9, 2) := by decide +kernel
theorem dX7_guests_86 : decode cX7_guests 86 = .ok (.lload 7, 2) := by decide +kernel
theorem dX7_guests_88 : decode cX7_guests 88 = .ok (.lstore 11, 2) := by decide +kernel
theorem dX7_guests_90 : decode cX7_guests 90 = .ok (.lload 11, 2) := by decide +kernel
theorem dX7_guests_92 : decode cX7_guests 92 = .ok (.lconst 0, 1) := by decide +kernel
theorem dX7_guests_93 : decode cX7_guests 93 = .ok (.lcmp, 1) := by decide +kernel
theorem dX7_guests_94 : decode cX7_guests 94 = .ok (.ifCond .eq 21, 3) := by decide +kernel
theorem dX7_guests_97 : decode cX7_guests 97 = .ok (.lload 9, 2) := by decide +kernel
theorem dX7_guests_99 : decode cX7_guests 99 = .ok (.lload 11, 2) := by decide +kernel
theorem dX7_guests_101 : decode cX7_guests 101 = .ok (.lrem, 1) := by decide +kernel
theorem dX7_guests_102 : decode cX7_guests 102 = .ok (.lstore 13, 2) := by decide +kernel
theorem dX7_guests_104 : decode cX7_guests 104 = .ok (.lload 11, 2) := by decide +kernel
theorem dX7_guests_106 : decode cX7_guests 106 = .ok (.lstore 9, 2) := by decide +kernel
theorem dX7_guests_108 : decode cX7_guests 108 = .ok (.lload 13, 2) := by decide +kernel
theorem dX7_guests_110 : decode cX7_guests 110 = .ok (.lstore 11, 2) := by decide +kernel
theorem dX7_guests_112 : decode cX7_guests 112 = .ok (.goto (-22), 3) := by decide +kernel
theorem dX7_guests_115 : decode cX7_guests 115 = .ok (.iload 4, 2) := by decide +kernel
theorem dX7_guests_117 : decode cX7_guests 117 = .ok (.ifCond .ne 11, 3) := by decide +kernel
theorem dX7_guests_120 : decode cX7_guests 120 = .ok (.lload 5, 2) := by decide +kernel
theorem dX7_guests_122 : decode cX7_guests 122 = .ok (.lload 9, 2) := by decide +kernel
theorem dX7_guests_124 : decode cX7_guests 124 = .ok (.ldiv, 1) := by decide +kernel
theorem dX7_guests_125 : decode cX7_guests 125 = .ok (.goto 8, 3) := by decide +kernel
theorem dX7_guests_128 : decode cX7_guests 128 = .ok (.lload 7, 2) := by decide +kernel
theorem dX7_guests_130 : decode cX7_guests 130 = .ok (.lload 9, 2) := by decide +kernel
theorem dX7_guests_132 : decode cX7_guests 132 = .ok (.ldiv, 1) := by decide +kernel
theorem dX7_guests_133 : decode cX7_guests 133 = .ok (.lreturn, 1) := by decide +kernel
theorem dX7_has_0 : decode cX7_has 0 = .ok (.iload_n 0, 1) := by decide +kernel
theorem dX7_has_1 : decode cX7_has 1 = .ok (.iload_n 1, 1) := by decide +kernel
theorem dX7_has_2 : decode cX7_has 2 = .ok (.ishr, 1) := by decide +kernel
theorem dX7_has_3 : decode cX7_has 3 = .ok (.iconst 1, 1) := by decide +kernel
theorem dX7_has_4 : decode cX7_has 4 = .ok (.iand, 1) := by decide +kernel
theorem dX7_has_5 : decode cX7_has 5 = .ok (.iconst 1, 1) := by decide +kernel
theorem dX7_has_6 : decode cX7_has 6 = .ok (.if_icmp .ne 7, 3) := by decide +kernel
theorem dX7_has_9 : decode cX7_has 9 = .ok (.iconst 1, 1) := by decide +kernel
theorem dX7_has_10 : decode cX7_has 10 = .ok (.goto 4, 3) := by decide +kernel
theorem dX7_has_13 : decode cX7_has 13 = .ok (.iconst 0, 1) := by decide +kernel
theorem dX7_has_14 : decode cX7_has 14 = .ok (.ireturn, 1) := by decide +kernel
theorem dX7_holds_0 : decode cX7_holds 0 = .ok (.aload_n 0, 1) := by decide +kernel
theorem dX7_holds_1 : decode cX7_holds 1 = .ok (.iload_n 1, 1) := by decide +kernel
theorem dX7_holds_2 : decode cX7_holds 2 = .ok (.invokevirtual 95, 3) := by decide +kernel
theorem dX7_holds_5 : decode cX7_holds 5 = .ok (.ifCond .ne 5, 3) := by decide +kernel
theorem dX7_holds_8 : decode cX7_holds 8 = .ok (.iconst (-1), 1) := by decide +kernel
theorem dX7_holds_9 : decode cX7_holds 9 = .ok (.ireturn, 1) := by decide +kernel
theorem dX7_holds_10 : decode cX7_holds 10 = .ok (.aload_n 0, 1) := by decide +kernel
theorem dX7_holds_11 : decode cX7_holds 11 = .ok (.getfield 13, 3) := by decide +kernel
theorem dX7_holds_14 : decode cX7_holds 14 = .ok (.iload_n 1, 1) := by decide +kernel
theorem dX7_holds_15 : decode cX7_holds 15 = .ok (.iaload, 1) := by decide +kernel
theorem dX7_holds_16 : decode cX7_holds 16 = .ok (.ifCond .ne 6, 3) := by decide +kernel
theorem dX7_holds_19 : decode cX7_holds 19 = .ok (.bipush (-3), 2) := by decide +kernel
theorem dX7_holds_21 : decode cX7_holds 21 = .ok (.ireturn, 1) := by decide +kernel
theorem dX7_holds_22 : decode cX7_holds 22 = .ok (.iconst 1, 1) := by decide +kernel
theorem dX7_holds_23 : decode cX7_holds 23 = .ok (.istore_n 2, 1) := by decide +kernel
theorem dX7_holds_24 : decode cX7_holds 24 = .ok (.iload_n 2, 1) := by decide +kernel
theorem dX7_holds_25 : decode cX7_holds 25 = .ok (.aload_n 0, 1) := by decide +kernel
theorem dX7_holds_26 : decode cX7_holds 26 = .ok (.getfield 13, 3) := by decide +kernel
theorem dX7_holds_29 : decode cX7_holds 29 = .ok (.iload_n 1, 1) := by decide +kernel
theorem dX7_holds_30 : decode cX7_holds 30 = .ok (.iaload, 1) := by decide +kernel
theorem dX7_holds_31 : decode cX7_holds 31 = .ok (.if_icmp .gt 20, 3) := by decide +kernel
theorem dX7_holds_34 : decode cX7_holds 34 = .ok (.aload_n 0, 1) := by decide +kernel
theorem dX7_holds_35 : decode cX7_holds 35 = .ok (.iload_n 1, 1) := by decide +kernel
theorem dX7_holds_36 : decode cX7_holds 36 = .ok (.iload_n 2, 1) := by decide +kernel
theorem dX7_holds_37 : decode cX7_holds 37 = .ok (.invokevirtual 192, 3) := by decide +kernel
theorem dX7_holds_40 : decode cX7_holds 40 = .ok (.ifCond .lt 5, 3) := by decide +kernel
theorem dX7_holds_43 : decode cX7_holds 43 = .ok (.iload_n 2, 1) := by decide +kernel
theorem dX7_holds_44 : decode cX7_holds 44 = .ok (.ireturn, 1) := by decide +kernel
theorem dX7_holds_45 : decode cX7_holds 45 = .ok (.iinc 2 1, 3) := by decide +kernel
theorem dX7_holds_48 : decode cX7_holds 48 = .ok (.goto (-24), 3) := by decide +kernel
theorem dX7_holds_51 : decode cX7_holds 51 = .ok (.bipush (-6), 2) := by decide +kernel
theorem dX7_holds_53 : decode cX7_holds 53 = .ok (.ireturn, 1) := by decide +kernel
theorem dX7_holdsNow_0 : decode cX7_holdsNow 0 = .ok (.iconst 1, 1) := by decide +kernel
theorem dX7_holdsNow_1 : decode cX7_holdsNow 1 = .ok (.istore_n 1, 1) := by decide +kernel
theorem dX7_holdsNow_2 : decode cX7_holdsNow 2 = .ok (.iconst 0, 1) := by decide +kernel
theorem dX7_holdsNow_3 : decode cX7_holdsNow 3 = .ok (.istore_n 2, 1) := by decide +kernel
theorem dX7_holdsNow_4 : decode cX7_holdsNow 4 = .ok (.iload_n 2, 1) := by decide +kernel
theorem dX7_holdsNow_5 : decode cX7_holdsNow 5 = .ok (.aload_n 0, 1) := by decide +kernel
theorem dX7_holdsNow_6 : decode cX7_holdsNow 6 = .ok (.getfield 88, 3) := by decide +kernel
theorem dX7_holdsNow_9 : decode cX7_holdsNow 9 = .ok (.if_icmp .ge 45, 3) := by decide +kernel
theorem dX7_holdsNow_12 : decode cX7_holdsNow 12 = .ok (.iload_n 1, 1) := by decide +kernel
theorem dX7_holdsNow_13 : decode cX7_holdsNow 13 = .ok (.ifCond .eq 33, 3) := by decide +kernel
theorem dX7_holdsNow_16 : decode cX7_holdsNow 16 = .ok (.aload_n 0, 1) := by decide +kernel
theorem dX7_holdsNow_17 : decode cX7_holdsNow 17 = .ok (.getfield 44, 3) := by decide +kernel
theorem dX7_holdsNow_20 : decode cX7_holdsNow 20 = .ok (.aload_n 0, 1) := by decide +kernel
theorem dX7_holdsNow_21 : decode cX7_holdsNow 21 = .ok (.getfield 38, 3) := by decide +kernel
theorem dX7_holdsNow_24 : decode cX7_holdsNow 24 = .ok (.iconst 2, 1) := by decide +kernel
theorem dX7_holdsNow_25 : decode cX7_holdsNow 25 = .ok (.iload_n 2, 1) := by decide +kernel
theorem dX7_holdsNow_26 : decode cX7_holdsNow 26 = .ok (.imul, 1) := by decide +kernel
theorem dX7_holdsNow_27 : decode cX7_holdsNow 27 = .ok (.iaload, 1) := by decide +kernel
theorem dX7_holdsNow_28 : decode cX7_holdsNow 28 = .ok (.iaload, 1) := by decide +kernel
theorem dX7_holdsNow_29 : decode cX7_holdsNow 29 = .ok (.aload_n 0, 1) := by decide +kernel
theorem dX7_holdsNow_30 : decode cX7_holdsNow 30 = .ok (.getfield 38, 3) := by decide +kernel
theorem dX7_holdsNow_33 : decode cX7_holdsNow 33 = .ok (.iconst 2, 1) := by decide +kernel
theorem dX7_holdsNow_34 : decode cX7_holdsNow 34 = .ok (.iload_n 2, 1) := by decide +kernel
theorem dX7_holdsNow_35 : decode cX7_holdsNow 35 = .ok (.imul, 1) := by decide +kernel
theorem dX7_holdsNow_36 : decode cX7_holdsNow 36 = .ok (.iconst 1, 1) := by decide +kernel
theorem dX7_holdsNow_37 : decode cX7_holdsNow 37 = .ok (.iadd, 1) := by decide +kernel
theorem dX7_holdsNow_38 : decode cX7_holdsNow 38 = .ok (.iaload, 1) := by decide +kernel
theorem dX7_holdsNow_39 : decode cX7_holdsNow 39 = .ok (.if_icmp .ne 7, 3) := by decide +kernel
theorem dX7_holdsNow_42 : decode cX7_holdsNow 42 = .ok (.iconst 1, 1) := by decide +kernel
theorem dX7_holdsNow_43 : decode cX7_holdsNow 43 = .ok (.goto 4, 3) := by decide +kernel
theorem dX7_holdsNow_46 : decode cX7_holdsNow 46 = .ok (.iconst 0, 1) := by decide +kernel
theorem dX7_holdsNow_47 : decode cX7_holdsNow 47 = .ok (.istore_n 1, 1) := by decide +kernel
theorem dX7_holdsNow_48 : decode cX7_holdsNow 48 = .ok (.iinc 2 1, 3) := by decide +kernel
theorem dX7_holdsNow_51 : decode cX7_holdsNow 51 = .ok (.goto (-47), 3) := by decide +kernel
theorem dX7_holdsNow_54 : decode cX7_holdsNow 54 = .ok (.iload_n 1, 1) := by decide +kernel
theorem dX7_holdsNow_55 : decode cX7_holdsNow 55 = .ok (.ireturn, 1) := by decide +kernel
theorem dX7_image_0 : decode cX7_image 0 = .ok (.iload_n 1, 1) := by decide +kernel
theorem dX7_image_1 : decode cX7_image 1 = .ok (.iconst 0, 1) := by decide +kernel
theorem dX7_image_2 : decode cX7_image 2 = .ok (.iconst 1, 1) := by decide +kernel
theorem dX7_image_3 : decode cX7_image 3 = .ok (.invokestatic 91, 3) := by decide +kernel
theorem dX7_image_6 : decode cX7_image 6 = .ok (.ifCond .ne 6, 3) := by decide +kernel
theorem dX7_image_9 : decode cX7_image 9 = .ok (.bipush (-2), 2) := by decide +kernel
theorem dX7_image_11 : decode cX7_image 11 = .ok (.ireturn, 1) := by decide +kernel
theorem dX7_image_12 : decode cX7_image 12 = .ok (.sipush 130, 3) := by decide +kernel
theorem dX7_image_15 : decode cX7_image 15 = .ok (.iload_n 1, 1) := by decide +kernel
theorem dX7_image_16 : decode cX7_image 16 = .ok (.imul, 1) := by decide +kernel
theorem dX7_image_17 : decode cX7_image 17 = .ok (.istore_n 2, 1) := by decide +kernel
theorem dX7_image_18 : decode cX7_image 18 = .ok (.iconst 0, 1) := by decide +kernel
theorem dX7_image_19 : decode cX7_image 19 = .ok (.istore_n 3, 1) := by decide +kernel
theorem dX7_image_20 : decode cX7_image 20 = .ok (.iload_n 3, 1) := by decide +kernel
theorem dX7_image_21 : decode cX7_image 21 = .ok (.bipush 8, 2) := by decide +kernel
theorem dX7_image_23 : decode cX7_image 23 = .ok (.if_icmp .ge 57, 3) := by decide +kernel
theorem dX7_image_26 : decode cX7_image 26 = .ok (.aload_n 0, 1) := by decide +kernel
theorem dX7_image_27 : decode cX7_image 27 = .ok (.getfield 72, 3) := by decide +kernel
theorem dX7_image_30 : decode cX7_image 30 = .ok (.iload_n 2, 1) := by decide +kernel
theorem dX7_image_31 : decode cX7_image 31 = .ok (.iload_n 3, 1) := by decide +kernel
theorem dX7_image_32 : decode cX7_image 32 = .ok (.iadd, 1) := by decide +kernel
theorem dX7_image_33 : decode cX7_image 33 = .ok (.aload_n 0, 1) := by decide +kernel
theorem dX7_image_34 : decode cX7_image 34 = .ok (.getfield 13, 3) := by decide +kernel
theorem dX7_image_37 : decode cX7_image 37 = .ok (.iload_n 3, 1) := by decide +kernel
theorem dX7_image_38 : decode cX7_image 38 = .ok (.iaload, 1) := by decide +kernel
theorem dX7_image_39 : decode cX7_image 39 = .ok (.iastore, 1) := by decide +kernel
theorem dX7_image_40 : decode cX7_image 40 = .ok (.aload_n 0, 1) := by decide +kernel
theorem dX7_image_41 : decode cX7_image 41 = .ok (.getfield 72, 3) := by decide +kernel
theorem dX7_image_44 : decode cX7_image 44 = .ok (.iload_n 2, 1) := by decide +kernel
theorem dX7_image_45 : decode cX7_image 45 = .ok (.bipush 8, 2) := by decide +kernel
theorem dX7_image_47 : decode cX7_image 47 = .ok (.iadd, 1) := by decide +kernel
theorem dX7_image_48 : decode cX7_image 48 = .ok (.iload_n 3, 1) := by decide +kernel
theorem dX7_image_49 : decode cX7_image 49 = .ok (.iadd, 1) := by decide +kernel
theorem dX7_image_50 : decode cX7_image 50 = .ok (.aload_n 0, 1) := by decide +kernel
theorem dX7_image_51 : decode cX7_image 51 = .ok (.getfield 17, 3) := by decide +kernel
theorem dX7_image_54 : decode cX7_image 54 = .ok (.iload_n 3, 1) := by decide +kernel
theorem dX7_image_55 : decode cX7_image 55 = .ok (.iaload, 1) := by decide +kernel
theorem dX7_image_56 : decode cX7_image 56 = .ok (.iastore, 1) := by decide +kernel
theorem dX7_image_57 : decode cX7_image 57 = .ok (.aload_n 0, 1) := by decide +kernel
theorem dX7_image_58 : decode cX7_image 58 = .ok (.getfield 72, 3) := by decide +kernel
theorem dX7_image_61 : decode cX7_image 61 = .ok (.iload_n 2, 1) := by decide +kernel
theorem dX7_image_62 : decode cX7_image 62 = .ok (.bipush 16, 2) := by decide +kernel
theorem dX7_image_64 : decode cX7_image 64 = .ok (.iadd, 1) := by decide +kernel
theorem dX7_image_65 : decode cX7_image 65 = .ok (.iload_n 3, 1) := by decide +kernel
theorem dX7_image_66 : decode cX7_image 66 = .ok (.iadd, 1) := by decide +kernel
theorem dX7_image_67 : decode cX7_image 67 = .ok (.aload_n 0, 1) := by decide +kernel
theorem dX7_image_68 : decode cX7_image 68 = .ok (.getfield 20, 3) := by decide +kernel
theorem dX7_image_71 : decode cX7_image 71 = .ok (.iload_n 3, 1) := by decide +kernel
theorem dX7_image_72 : decode cX7_image 72 = .ok (.iaload, 1) := by decide +kernel
theorem dX7_image_73 : decode cX7_image 73 = .ok (.iastore, 1) := by decide +kernel
theorem dX7_image_74 : decode cX7_image 74 = .ok (.iinc 3 1, 3) := by decide +kernel
theorem dX7_image_77 : decode cX7_image 77 = .ok (.goto (-57), 3) := by decide +kernel
theorem dX7_image_80 : decode cX7_image 80 = .ok (.iconst 0, 1) := by decide +kernel
theorem dX7_image_81 : decode cX7_image 81 = .ok (.istore_n 3, 1) := by decide +kernel
theorem dX7_image_82 : decode cX7_image 82 = .ok (.iload_n 3, 1) := by decide +kernel
theorem dX7_image_83 : decode cX7_image 83 = .ok (.bipush 64, 2) := by decide +kernel
theorem dX7_image_85 : decode cX7_image 85 = .ok (.if_icmp .ge 26, 3) := by decide +kernel
theorem dX7_image_88 : decode cX7_image 88 = .ok (.aload_n 0, 1) := by decide +kernel
theorem dX7_image_89 : decode cX7_image 89 = .ok (.getfield 72, 3) := by decide +kernel
theorem dX7_image_92 : decode cX7_image 92 = .ok (.iload_n 2, 1) := by decide +kernel
theorem dX7_image_93 : decode cX7_image 93 = .ok (.bipush 24, 2) := by decide +kernel
theorem dX7_image_95 : decode cX7_image 95 = .ok (.iadd, 1) := by decide +kernel
theorem dX7_image_96 : decode cX7_image 96 = .ok (.iload_n 3, 1) := by decide +kernel
theorem dX7_image_97 : decode cX7_image 97 = .ok (.iadd, 1) := by decide +kernel
theorem dX7_image_98 : decode cX7_image 98 = .ok (.aload_n 0, 1) := by decide +kernel
theorem dX7_image_99 : decode cX7_image 99 = .ok (.getfield 23, 3) := by decide +kernel
theorem dX7_image_102 : decode cX7_image 102 = .ok (.iload_n 3, 1) := by decide +kernel
theorem dX7_image_103 : decode cX7_image 103 = .ok (.iaload, 1) := by decide +kernel
theorem dX7_image_104 : decode cX7_image 104 = .ok (.iastore, 1) := by decide +kernel
theorem dX7_image_105 : decode cX7_image 105 = .ok (.iinc 3 1, 3) := by decide +kernel
theorem dX7_image_108 : decode cX7_image 108 = .ok (.goto (-26), 3) := by decide +kernel
theorem dX7_image_111 : decode cX7_image 111 = .ok (.iconst 0, 1) := by decide +kernel
theorem dX7_image_112 : decode cX7_image 112 = .ok (.istore_n 3, 1) := by decide +kernel
theorem dX7_image_113 : decode cX7_image 113 = .ok (.iload_n 3, 1) := by decide +kernel
theorem dX7_image_114 : decode cX7_image 114 = .ok (.bipush 16, 2) := by decide +kernel
theorem dX7_image_116 : decode cX7_image 116 = .ok (.if_icmp .ge 26, 3) := by decide +kernel
theorem dX7_image_119 : decode cX7_image 119 = .ok (.aload_n 0, 1) := by decide +kernel
theorem dX7_image_120 : decode cX7_image 120 = .ok (.getfield 72, 3) := by decide +kernel
theorem dX7_image_123 : decode cX7_image 123 = .ok (.iload_n 2, 1) := by decide +kernel
theorem dX7_image_124 : decode cX7_image 124 = .ok (.bipush 88, 2) := by decide +kernel
theorem dX7_image_126 : decode cX7_image 126 = .ok (.iadd, 1) := by decide +kernel
theorem dX7_image_127 : decode cX7_image 127 = .ok (.iload_n 3, 1) := by decide +kernel
theorem dX7_image_128 : decode cX7_image 128 = .ok (.iadd, 1) := by decide +kernel
theorem dX7_image_129 : decode cX7_image 129 = .ok (.aload_n 0, 1) := by decide +kernel
theorem dX7_image_130 : decode cX7_image 130 = .ok (.getfield 38, 3) := by decide +kernel
theorem dX7_image_133 : decode cX7_image 133 = .ok (.iload_n 3, 1) := by decide +kernel
theorem dX7_image_134 : decode cX7_image 134 = .ok (.iaload, 1) := by decide +kernel
theorem dX7_image_135 : decode cX7_image 135 = .ok (.iastore, 1) := by decide +kernel
theorem dX7_image_136 : decode cX7_image 136 = .ok (.iinc 3 1, 3) := by decide +kernel
theorem dX7_image_139 : decode cX7_image 139 = .ok (.goto (-26), 3) := by decide +kernel
theorem dX7_image_142 : decode cX7_image 142 = .ok (.aload_n 0, 1) := by decide +kernel
theorem dX7_image_143 : decode cX7_image 143 = .ok (.getfield 72, 3) := by decide +kernel
theorem dX7_image_146 : decode cX7_image 146 = .ok (.iload_n 2, 1) := by decide +kernel
theorem dX7_image_147 : decode cX7_image 147 = .ok (.bipush 104, 2) := by decide +kernel
theorem dX7_image_149 : decode cX7_image 149 = .ok (.iadd, 1) := by decide +kernel
theorem dX7_image_150 : decode cX7_image 150 = .ok (.aload_n 0, 1) := by decide +kernel
theorem dX7_image_151 : decode cX7_image 151 = .ok (.getfield 7, 3) := by decide +kernel
theorem dX7_image_154 : decode cX7_image 154 = .ok (.iastore, 1) := by decide +kernel
theorem dX7_image_155 : decode cX7_image 155 = .ok (.aload_n 0, 1) := by decide +kernel
theorem dX7_image_156 : decode cX7_image 156 = .ok (.getfield 72, 3) := by decide +kernel
theorem dX7_image_159 : decode cX7_image 159 = .ok (.iload_n 2, 1) := by decide +kernel
theorem dX7_image_160 : decode cX7_image 160 = .ok (.bipush 105, 2) := by decide +kernel
theorem dX7_image_162 : decode cX7_image 162 = .ok (.iadd, 1) := by decide +kernel
theorem dX7_image_163 : decode cX7_image 163 = .ok (.aload_n 0, 1) := by decide +kernel
theorem dX7_image_164 : decode cX7_image 164 = .ok (.getfield 82, 3) := by decide +kernel
theorem dX7_image_167 : decode cX7_image 167 = .ok (.iastore, 1) := by decide +kernel
theorem dX7_image_168 : decode cX7_image 168 = .ok (.aload_n 0, 1) := by decide +kernel
theorem dX7_image_169 : decode cX7_image 169 = .ok (.getfield 72, 3) := by decide +kernel
theorem dX7_image_172 : decode cX7_image 172 = .ok (.iload_n 2, 1) := by decide +kernel
theorem dX7_image_173 : decode cX7_image 173 = .ok (.bipush 106, 2) := by decide +kernel
theorem dX7_image_175 : decode cX7_image 175 = .ok (.iadd, 1) := by decide +kernel
theorem dX7_image_176 : decode cX7_image 176 = .ok (.aload_n 0, 1) := by decide +kernel
theorem dX7_image_177 : decode cX7_image 177 = .ok (.getfield 85, 3) := by decide +kernel
theorem dX7_image_180 : decode cX7_image 180 = .ok (.iastore, 1) := by decide +kernel
theorem dX7_image_181 : decode cX7_image 181 = .ok (.aload_n 0, 1) := by decide +kernel
theorem dX7_image_182 : decode cX7_image 182 = .ok (.getfield 72, 3) := by decide +kernel
theorem dX7_image_185 : decode cX7_image 185 = .ok (.iload_n 2, 1) := by decide +kernel
theorem dX7_image_186 : decode cX7_image 186 = .ok (.bipush 107, 2) := by decide +kernel
theorem dX7_image_188 : decode cX7_image 188 = .ok (.iadd, 1) := by decide +kernel
theorem dX7_image_189 : decode cX7_image 189 = .ok (.aload_n 0, 1) := by decide +kernel
theorem dX7_image_190 : decode cX7_image 190 = .ok (.getfield 26, 3) := by decide +kernel
theorem dX7_image_193 : decode cX7_image 193 = .ok (.iastore, 1) := by decide +kernel
theorem dX7_image_194 : decode cX7_image 194 = .ok (.aload_n 0, 1) := by decide +kernel
theorem dX7_image_195 : decode cX7_image 195 = .ok (.getfield 72, 3) := by decide +kernel
theorem dX7_image_198 : decode cX7_image 198 = .ok (.iload_n 2, 1) := by decide +kernel
theorem dX7_image_199 : decode cX7_image 199 = .ok (.bipush 108, 2) := by decide +kernel
theorem dX7_image_201 : decode cX7_image 201 = .ok (.iadd, 1) := by decide +kernel
theorem dX7_image_202 : decode cX7_image 202 = .ok (.aload_n 0, 1) := by decide +kernel
theorem dX7_image_203 : decode cX7_image 203 = .ok (.getfield 29, 3) := by decide +kernel
theorem dX7_image_206 : decode cX7_image 206 = .ok (.iastore, 1) := by decide +kernel
theorem dX7_image_207 : decode cX7_image 207 = .ok (.aload_n 0, 1) := by decide +kernel
theorem dX7_image_208 : decode cX7_image 208 = .ok (.getfield 72, 3) := by decide +kernel
theorem dX7_image_211 : decode cX7_image 211 = .ok (.iload_n 2, 1) := by decide +kernel
theorem dX7_image_212 : decode cX7_image 212 = .ok (.bipush 109, 2) := by decide +kernel
theorem dX7_image_214 : decode cX7_image 214 = .ok (.iadd, 1) := by decide +kernel
theorem dX7_image_215 : decode cX7_image 215 = .ok (.aload_n 0, 1) := by decide +kernel
theorem dX7_image_216 : decode cX7_image 216 = .ok (.getfield 32, 3) := by decide +kernel
theorem dX7_image_219 : decode cX7_image 219 = .ok (.iastore, 1) := by decide +kernel
theorem dX7_image_220 : decode cX7_image 220 = .ok (.aload_n 0, 1) := by decide +kernel
theorem dX7_image_221 : decode cX7_image 221 = .ok (.getfield 72, 3) := by decide +kernel
theorem dX7_image_224 : decode cX7_image 224 = .ok (.iload_n 2, 1) := by decide +kernel
theorem dX7_image_225 : decode cX7_image 225 = .ok (.bipush 110, 2) := by decide +kernel
theorem dX7_image_227 : decode cX7_image 227 = .ok (.iadd, 1) := by decide +kernel
theorem dX7_image_228 : decode cX7_image 228 = .ok (.aload_n 0, 1) := by decide +kernel
theorem dX7_image_229 : decode cX7_image 229 = .ok (.getfield 35, 3) := by decide +kernel
theorem dX7_image_232 : decode cX7_image 232 = .ok (.iastore, 1) := by decide +kernel
theorem dX7_image_233 : decode cX7_image 233 = .ok (.aload_n 0, 1) := by decide +kernel
theorem dX7_image_234 : decode cX7_image 234 = .ok (.getfield 72, 3) := by decide +kernel
theorem dX7_image_237 : decode cX7_image 237 = .ok (.iload_n 2, 1) := by decide +kernel
theorem dX7_image_238 : decode cX7_image 238 = .ok (.bipush 111, 2) := by decide +kernel
theorem dX7_image_240 : decode cX7_image 240 = .ok (.iadd, 1) := by decide +kernel
theorem dX7_image_241 : decode cX7_image 241 = .ok (.aload_n 0, 1) := by decide +kernel
theorem dX7_image_242 : decode cX7_image 242 = .ok (.getfield 88, 3) := by decide +kernel
theorem dX7_image_245 : decode cX7_image 245 = .ok (.iastore, 1) := by decide +kernel
theorem dX7_image_246 : decode cX7_image 246 = .ok (.aload_n 0, 1) := by decide +kernel
theorem dX7_image_247 : decode cX7_image 247 = .ok (.getfield 75, 3) := by decide +kernel
theorem dX7_image_250 : decode cX7_image 250 = .ok (.iload_n 1, 1) := by decide +kernel
theorem dX7_image_251 : decode cX7_image 251 = .ok (.iconst 1, 1) := by decide +kernel
theorem dX7_image_252 : decode cX7_image 252 = .ok (.bastore, 1) := by decide +kernel
theorem dX7_image_253 : decode cX7_image 253 = .ok (.iconst 1, 1) := by decide +kernel
theorem dX7_image_254 : decode cX7_image 254 = .ok (.ireturn, 1) := by decide +kernel
theorem dX7_in_0 : decode cX7_in 0 = .ok (.iload_n 0, 1) := by decide +kernel
theorem dX7_in_1 : decode cX7_in 1 = .ok (.iload_n 1, 1) := by decide +kernel
theorem dX7_in_2 : decode cX7_in 2 = .ok (.if_icmp .lt 12, 3) := by decide +kernel
theorem dX7_in_5 : decode cX7_in 5 = .ok (.iload_n 0, 1) := by decide +kernel
theorem dX7_in_6 : decode cX7_in 6 = .ok (.iload_n 2, 1) := by decide +kernel
theorem dX7_in_7 : decode cX7_in 7 = .ok (.if_icmp .gt 7, 3) := by decide +kernel
theorem dX7_in_10 : decode cX7_in 10 = .ok (.iconst 1, 1) := by decide +kernel
theorem dX7_in_11 : decode cX7_in 11 = .ok (.goto 4, 3) := by decide +kernel
theorem dX7_in_14 : decode cX7_in 14 = .ok (.iconst 0, 1) := by decide +kernel
theorem dX7_in_15 : decode cX7_in 15 = .ok (.ireturn, 1) := by decide +kernel
theorem dX7_init_0 : decode cX7_init 0 = .ok (.aload_n 0, 1) := by decide +kernel
theorem dX7_init_1 : decode cX7_init 1 = .ok (.invokespecial 1, 3) := by decide +kernel
theorem dX7_init_4 : decode cX7_init 4 = .ok (.aload_n 0, 1) := by decide +kernel
theorem dX7_init_5 : decode cX7_init 5 = .ok (.bipush 6, 2) := by decide +kernel
theorem dX7_init_7 : decode cX7_init 7 = .ok (.putfield 7, 3) := by decide +kernel
theorem dX7_init_10 : decode cX7_init 10 = .ok (.aload_n 0, 1) := by decide +kernel
theorem dX7_init_11 : decode cX7_init 11 = .ok (.bipush 8, 2) := by decide +kernel
theorem dX7_init_13 : decode cX7_init 13 = .ok (.newarray .int, 2) := by decide +kernel
theorem dX7_init_15 : decode cX7_init 15 = .ok (.putfield 13, 3) := by decide +kernel
theorem dX7_init_18 : decode cX7_init 18 = .ok (.aload_n 0, 1) := by decide +kernel
theorem dX7_init_19 : decode cX7_init 19 = .ok (.bipush 8, 2) := by decide +kernel
theorem dX7_init_21 : decode cX7_init 21 = .ok (.newarray .int, 2) := by decide +kernel
theorem dX7_init_23 : decode cX7_init 23 = .ok (.putfield 17, 3) := by decide +kernel
theorem dX7_init_26 : decode cX7_init 26 = .ok (.aload_n 0, 1) := by decide +kernel
theorem dX7_init_27 : decode cX7_init 27 = .ok (.bipush 8, 2) := by decide +kernel
theorem dX7_init_29 : decode cX7_init 29 = .ok (.newarray .int, 2) := by decide +kernel
theorem dX7_init_31 : decode cX7_init 31 = .ok (.putfield 20, 3) := by decide +kernel
theorem dX7_init_34 : decode cX7_init 34 = .ok (.aload_n 0, 1) := by decide +kernel
theorem dX7_init_35 : decode cX7_init 35 = .ok (.bipush 64, 2) := by decide +kernel
theorem dX7_init_37 : decode cX7_init 37 = .ok (.newarray .int, 2) := by decide +kernel
theorem dX7_init_39 : decode cX7_init 39 = .ok (.putfield 23, 3) := by decide +kernel
theorem dX7_init_42 : decode cX7_init 42 = .ok (.aload_n 0, 1) := by decide +kernel
theorem dX7_init_43 : decode cX7_init 43 = .ok (.iconst 1, 1) := by decide +kernel
theorem dX7_init_44 : decode cX7_init 44 = .ok (.putfield 26, 3) := by decide +kernel
theorem dX7_init_47 : decode cX7_init 47 = .ok (.aload_n 0, 1) := by decide +kernel
theorem dX7_init_48 : decode cX7_init 48 = .ok (.iconst 3, 1) := by decide +kernel
theorem dX7_init_49 : decode cX7_init 49 = .ok (.putfield 29, 3) := by decide +kernel
theorem dX7_init_52 : decode cX7_init 52 = .ok (.aload_n 0, 1) := by decide +kernel
theorem dX7_init_53 : decode cX7_init 53 = .ok (.iconst 1, 1) := by decide +kernel
theorem dX7_init_54 : decode cX7_init 54 = .ok (.putfield 32, 3) := by decide +kernel
theorem dX7_init_57 : decode cX7_init 57 = .ok (.aload_n 0, 1) := by decide +kernel
theorem dX7_init_58 : decode cX7_init 58 = .ok (.iconst 4, 1) := by decide +kernel
theorem dX7_init_59 : decode cX7_init 59 = .ok (.putfield 35, 3) := by decide +kernel
theorem dX7_init_62 : decode cX7_init 62 = .ok (.aload_n 0, 1) := by decide +kernel
theorem dX7_init_63 : decode cX7_init 63 = .ok (.bipush 16, 2) := by decide +kernel
theorem dX7_init_65 : decode cX7_init 65 = .ok (.newarray .int, 2) := by decide +kernel
theorem dX7_init_67 : decode cX7_init 67 = .ok (.putfield 38, 3) := by decide +kernel
theorem dX7_init_70 : decode cX7_init 70 = .ok (.aload_n 0, 1) := by decide +kernel
theorem dX7_init_71 : decode cX7_init 71 = .ok (.bipush 60, 2) := by decide +kernel
theorem dX7_init_73 : decode cX7_init 73 = .ok (.newarray .int, 2) := by decide +kernel
theorem dX7_init_75 : decode cX7_init 75 = .ok (.putfield 41, 3) := by decide +kernel
theorem dX7_init_78 : decode cX7_init 78 = .ok (.aload_n 0, 1) := by decide +kernel
theorem dX7_init_79 : decode cX7_init 79 = .ok (.bipush 8, 2) := by decide +kernel
theorem dX7_init_81 : decode cX7_init 81 = .ok (.newarray .int, 2) := by decide +kernel
theorem dX7_init_83 : decode cX7_init 83 = .ok (.putfield 44, 3) := by decide +kernel
theorem dX7_init_86 : decode cX7_init 86 = .ok (.aload_n 0, 1) := by decide +kernel
theorem dX7_init_87 : decode cX7_init 87 = .ok (.bipush 8, 2) := by decide +kernel
theorem dX7_init_89 : decode cX7_init 89 = .ok (.newarray .int, 2) := by decide +kernel
theorem dX7_init_91 : decode cX7_init 91 = .ok (.putfield 47, 3) := by decide +kernel
theorem dX7_init_94 : decode cX7_init 94 = .ok (.aload_n 0, 1) := by decide +kernel
theorem dX7_init_95 : decode cX7_init 95 = .ok (.bipush 8, 2) := by decide +kernel
theorem dX7_init_97 : decode cX7_init 97 = .ok (.newarray .int, 2) := by decide +kernel
theorem dX7_init_99 : decode cX7_init 99 = .ok (.putfield 50, 3) := by decide +kernel
theorem dX7_init_102 : decode cX7_init 102 = .ok (.aload_n 0, 1) := by decide +kernel
theorem dX7_init_103 : decode cX7_init 103 = .ok (.bipush 64, 2) := by decide +kernel
theorem dX7_init_105 : decode cX7_init 105 = .ok (.newarray .int, 2) := by decide +kernel
theorem dX7_init_107 : decode cX7_init 107 = .ok (.putfield 53, 3) := by decide +kernel
theorem dX7_init_110 : decode cX7_init 110 = .ok (.aload_n 0, 1) := by decide +kernel
theorem dX7_init_111 : decode cX7_init 111 = .ok (.iconst 4, 1) := by decide +kernel
theorem dX7_init_112 : decode cX7_init 112 = .ok (.newarray .int, 2) := by decide +kernel
theorem dX7_init_114 : decode cX7_init 114 = .ok (.putfield 56, 3) := by decide +kernel
theorem dX7_init_117 : decode cX7_init 117 = .ok (.aload_n 0, 1) := by decide +kernel
theorem dX7_init_118 : decode cX7_init 118 = .ok (.iconst 4, 1) := by decide +kernel
theorem dX7_init_119 : decode cX7_init 119 = .ok (.newarray .int, 2) := by decide +kernel
theorem dX7_init_121 : decode cX7_init 121 = .ok (.putfield 59, 3) := by decide +kernel
theorem dX7_init_124 : decode cX7_init 124 = .ok (.aload_n 0, 1) := by decide +kernel
theorem dX7_init_125 : decode cX7_init 125 = .ok (.ldc 62, 2) := by decide +kernel
theorem dX7_init_127 : decode cX7_init 127 = .ok (.newarray .int, 2) := by decide +kernel
theorem dX7_init_129 : decode cX7_init 129 = .ok (.putfield 63, 3) := by decide +kernel
theorem dX7_init_132 : decode cX7_init 132 = .ok (.aload_n 0, 1) := by decide +kernel
theorem dX7_init_133 : decode cX7_init 133 = .ok (.sipush 1100, 3) := by decide +kernel
theorem dX7_init_136 : decode cX7_init 136 = .ok (.newarray .int, 2) := by decide +kernel
theorem dX7_init_138 : decode cX7_init 138 = .ok (.putfield 66, 3) := by decide +kernel
theorem dX7_init_141 : decode cX7_init 141 = .ok (.aload_n 0, 1) := by decide +kernel
theorem dX7_init_142 : decode cX7_init 142 = .ok (.bipush 8, 2) := by decide +kernel
theorem dX7_init_144 : decode cX7_init 144 = .ok (.newarray .int, 2) := by decide +kernel
theorem dX7_init_146 : decode cX7_init 146 = .ok (.putfield 69, 3) := by decide +kernel
theorem dX7_init_149 : decode cX7_init 149 = .ok (.aload_n 0, 1) := by decide +kernel
theorem dX7_init_150 : decode cX7_init 150 = .ok (.sipush 260, 3) := by decide +kernel
theorem dX7_init_153 : decode cX7_init 153 = .ok (.newarray .int, 2) := by decide +kernel
theorem dX7_init_155 : decode cX7_init 155 = .ok (.putfield 72, 3) := by decide +kernel
theorem dX7_init_158 : decode cX7_init 158 = .ok (.aload_n 0, 1) := by decide +kernel
theorem dX7_init_159 : decode cX7_init 159 = .ok (.iconst 2, 1) := by decide +kernel
theorem dX7_init_160 : decode cX7_init 160 = .ok (.newarray .boolean, 2) := by decide +kernel
theorem dX7_init_162 : decode cX7_init 162 = .ok (.putfield 75, 3) := by decide +kernel
theorem dX7_init_165 : decode cX7_init 165 = .ok (.aload_n 0, 1) := by decide +kernel
theorem dX7_init_166 : decode cX7_init 166 = .ok (.invokevirtual 79, 3) := by decide +kernel
theorem dX7_init_169 : decode cX7_init 169 = .ok (.return_, 1) := by decide +kernel
theorem dX7_isBare_0 : decode cX7_isBare 0 = .ok (.aload_n 0, 1) := by decide +kernel
theorem dX7_isBare_1 : decode cX7_isBare 1 = .ok (.getfield 44, 3) := by decide +kernel
theorem dX7_isBare_4 : decode cX7_isBare 4 = .ok (.iload_n 1, 1) := by decide +kernel
theorem dX7_isBare_5 : decode cX7_isBare 5 = .ok (.iaload, 1) := by decide +kernel
theorem dX7_isBare_6 : decode cX7_isBare 6 = .ok (.ifCond .ne 43, 3) := by decide +kernel
theorem dX7_isBare_9 : decode cX7_isBare 9 = .ok (.iload_n 1, 1) := by decide +kernel
theorem dX7_isBare_10 : decode cX7_isBare 10 = .ok (.ifCond .eq 14, 3) := by decide +kernel
theorem dX7_isBare_13 : decode cX7_isBare 13 = .ok (.aload_n 0, 1) := by decide +kernel
theorem dX7_isBare_14 : decode cX7_isBare 14 = .ok (.getfield 44, 3) := by decide +kernel
theorem dX7_isBare_17 : decode cX7_isBare 17 = .ok (.iload_n 1, 1) := by decide +kernel
theorem dX7_isBare_18 : decode cX7_isBare 18 = .ok (.iconst 1, 1) := by decide +kernel
theorem dX7_isBare_19 : decode cX7_isBare 19 = .ok (.isub, 1) := by decide +kernel
theorem dX7_isBare_20 : decode cX7_isBare 20 = .ok (.iaload, 1) := by decide +kernel
theorem dX7_isBare_21 : decode cX7_isBare 21 = .ok (.ifCond .ne 28, 3) := by decide +kernel
theorem dX7_isBare_24 : decode cX7_isBare 24 = .ok (.iload_n 1, 1) := by decide +kernel
theorem dX7_isBare_25 : decode cX7_isBare 25 = .ok (.aload_n 0, 1) := by decide +kernel
theorem dX7_isBare_26 : decode cX7_isBare 26 = .ok (.getfield 7, 3) := by decide +kernel
theorem dX7_isBare_29 : decode cX7_isBare 29 = .ok (.iconst 1, 1) := by decide +kernel
theorem dX7_isBare_30 : decode cX7_isBare 30 = .ok (.isub, 1) := by decide +kernel
theorem dX7_isBare_31 : decode cX7_isBare 31 = .ok (.if_icmp .eq 14, 3) := by decide +kernel
theorem dX7_isBare_34 : decode cX7_isBare 34 = .ok (.aload_n 0, 1) := by decide +kernel
theorem dX7_isBare_35 : decode cX7_isBare 35 = .ok (.getfield 44, 3) := by decide +kernel
theorem dX7_isBare_38 : decode cX7_isBare 38 = .ok (.iload_n 1, 1) := by decide +kernel
theorem dX7_isBare_39 : decode cX7_isBare 39 = .ok (.iconst 1, 1) := by decide +kernel
theorem dX7_isBare_40 : decode cX7_isBare 40 = .ok (.iadd, 1) := by decide +kernel
theorem dX7_isBare_41 : decode cX7_isBare 41 = .ok (.iaload, 1) := by decide +kernel
theorem dX7_isBare_42 : decode cX7_isBare 42 = .ok (.ifCond .ne 7, 3) := by decide +kernel
theorem dX7_isBare_45 : decode cX7_isBare 45 = .ok (.iconst 1, 1) := by decide +kernel
theorem dX7_isBare_46 : decode cX7_isBare 46 = .ok (.goto 4, 3) := by decide +kernel
theorem dX7_isBare_49 : decode cX7_isBare 49 = .ok (.iconst 0, 1) := by decide +kernel
theorem dX7_isBare_50 : decode cX7_isBare 50 = .ok (.ireturn, 1) := by decide +kernel
theorem dX7_isGarden_0 : decode cX7_isGarden 0 = .ok (.iload_n 1, 1) := by decide +kernel
theorem dX7_isGarden_1 : decode cX7_isGarden 1 = .ok (.iconst 0, 1) := by decide +kernel
theorem dX7_isGarden_2 : decode cX7_isGarden 2 = .ok (.aload_n 0, 1) := by decide +kernel
theorem dX7_isGarden_3 : decode cX7_isGarden 3 = .ok (.getfield 7, 3) := by decide +kernel
theorem dX7_isGarden_6 : decode cX7_isGarden 6 = .ok (.iconst 1, 1) := by decide +kernel
theorem dX7_isGarden_7 : decode cX7_isGarden 7 = .ok (.isub, 1) := by decide +kernel
theorem dX7_isGarden_8 : decode cX7_isGarden 8 = .ok (.invokestatic 91, 3) := by decide +kernel
theorem dX7_isGarden_11 : decode cX7_isGarden 11 = .ok (.ireturn, 1) := by decide +kernel
theorem dX7_isLaw_0 : decode cX7_isLaw 0 = .ok (.aload_n 0, 1) := by decide +kernel
theorem dX7_isLaw_1 : decode cX7_isLaw 1 = .ok (.invokevirtual 168, 3) := by decide +kernel
theorem dX7_isLaw_4 : decode cX7_isLaw 4 = .ok (.iconst 0, 1) := by decide +kernel
theorem dX7_isLaw_5 : decode cX7_isLaw 5 = .ok (.istore_n 2, 1) := by decide +kernel
theorem dX7_isLaw_6 : decode cX7_isLaw 6 = .ok (.iload_n 2, 1) := by decide +kernel
theorem dX7_isLaw_7 : decode cX7_isLaw 7 = .ok (.bipush 8, 2) := by decide +kernel
theorem dX7_isLaw_9 : decode cX7_isLaw 9 = .ok (.if_icmp .ge 23, 3) := by decide +kernel
theorem dX7_isLaw_12 : decode cX7_isLaw 12 = .ok (.aload_n 0, 1) := by decide +kernel
theorem dX7_isLaw_13 : decode cX7_isLaw 13 = .ok (.getfield 44, 3) := by decide +kernel
theorem dX7_isLaw_16 : decode cX7_isLaw 16 = .ok (.iload_n 2, 1) := by decide +kernel
theorem dX7_isLaw_17 : decode cX7_isLaw 17 = .ok (.iconst 0, 1) := by decide +kernel
theorem dX7_isLaw_18 : decode cX7_isLaw 18 = .ok (.iastore, 1) := by decide +kernel
theorem dX7_isLaw_19 : decode cX7_isLaw 19 = .ok (.aload_n 0, 1) := by decide +kernel
theorem dX7_isLaw_20 : decode cX7_isLaw 20 = .ok (.getfield 50, 3) := by decide +kernel
theorem dX7_isLaw_23 : decode cX7_isLaw 23 = .ok (.iload_n 2, 1) := by decide +kernel
theorem dX7_isLaw_24 : decode cX7_isLaw 24 = .ok (.iconst 0, 1) := by decide +kernel
theorem dX7_isLaw_25 : decode cX7_isLaw 25 = .ok (.iastore, 1) := by decide +kernel
theorem dX7_isLaw_26 : decode cX7_isLaw 26 = .ok (.iinc 2 1, 3) := by decide +kernel
theorem dX7_isLaw_29 : decode cX7_isLaw 29 = .ok (.goto (-23), 3) := by decide +kernel
theorem dX7_isLaw_32 : decode cX7_isLaw 32 = .ok (.aload_n 0, 1) := by decide +kernel
theorem dX7_isLaw_33 : decode cX7_isLaw 33 = .ok (.iload_n 1, 1) := by decide +kernel
theorem dX7_isLaw_34 : decode cX7_isLaw 34 = .ok (.bipush 100, 2) := by decide +kernel
theorem dX7_isLaw_36 : decode cX7_isLaw 36 = .ok (.idiv, 1) := by decide +kernel
theorem dX7_isLaw_37 : decode cX7_isLaw 37 = .ok (.putfield 112, 3) := by decide +kernel
theorem dX7_isLaw_40 : decode cX7_isLaw 40 = .ok (.aload_n 0, 1) := by decide +kernel
theorem dX7_isLaw_41 : decode cX7_isLaw 41 = .ok (.iload_n 1, 1) := by decide +kernel
theorem dX7_isLaw_42 : decode cX7_isLaw 42 = .ok (.bipush 10, 2) := by decide +kernel
theorem dX7_isLaw_44 : decode cX7_isLaw 44 = .ok (.idiv, 1) := by decide +kernel
theorem dX7_isLaw_45 : decode cX7_isLaw 45 = .ok (.bipush 10, 2) := by decide +kernel
theorem dX7_isLaw_47 : decode cX7_isLaw 47 = .ok (.irem, 1) := by decide +kernel
theorem dX7_isLaw_48 : decode cX7_isLaw 48 = .ok (.putfield 115, 3) := by decide +kernel
theorem dX7_isLaw_51 : decode cX7_isLaw 51 = .ok (.aload_n 0, 1) := by decide +kernel
theorem dX7_isLaw_52 : decode cX7_isLaw 52 = .ok (.iload_n 1, 1) := by decide +kernel
theorem dX7_isLaw_53 : decode cX7_isLaw 53 = .ok (.bipush 10, 2) := by decide +kernel
theorem dX7_isLaw_55 : decode cX7_isLaw 55 = .ok (.irem, 1) := by decide +kernel
theorem dX7_isLaw_56 : decode cX7_isLaw 56 = .ok (.putfield 118, 3) := by decide +kernel
theorem dX7_isLaw_59 : decode cX7_isLaw 59 = .ok (.aload_n 0, 1) := by decide +kernel
theorem dX7_isLaw_60 : decode cX7_isLaw 60 = .ok (.iconst 1, 1) := by decide +kernel
theorem dX7_isLaw_61 : decode cX7_isLaw 61 = .ok (.invokevirtual 171, 3) := by decide +kernel
theorem dX7_isLaw_64 : decode cX7_isLaw 64 = .ok (.pop, 1) := by decide +kernel
theorem dX7_isLaw_65 : decode cX7_isLaw 65 = .ok (.aload_n 0, 1) := by decide +kernel
theorem dX7_isLaw_66 : decode cX7_isLaw 66 = .ok (.invokevirtual 204, 3) := by decide +kernel
theorem dX7_isLaw_69 : decode cX7_isLaw 69 = .ok (.ireturn, 1) := by decide +kernel
theorem dX7_isPlain_0 : decode cX7_isPlain 0 = .ok (.aload_n 0, 1) := by decide +kernel
theorem dX7_isPlain_1 : decode cX7_isPlain 1 = .ok (.invokevirtual 102, 3) := by decide +kernel
theorem dX7_isPlain_4 : decode cX7_isPlain 4 = .ok (.ifCond .ge 16, 3) := by decide +kernel
theorem dX7_isPlain_7 : decode cX7_isPlain 7 = .ok (.aload_n 0, 1) := by decide +kernel
theorem dX7_isPlain_8 : decode cX7_isPlain 8 = .ok (.getfield 99, 3) := by decide +kernel
theorem dX7_isPlain_11 : decode cX7_isPlain 11 = .ok (.iconst 3, 1) := by decide +kernel
theorem dX7_isPlain_12 : decode cX7_isPlain 12 = .ok (.irem, 1) := by decide +kernel
theorem dX7_isPlain_13 : decode cX7_isPlain 13 = .ok (.ifCond .ne 7, 3) := by decide +kernel
theorem dX7_isPlain_16 : decode cX7_isPlain 16 = .ok (.iconst 1, 1) := by decide +kernel
theorem dX7_isPlain_17 : decode cX7_isPlain 17 = .ok (.goto 4, 3) := by decide +kernel
theorem dX7_isPlain_20 : decode cX7_isPlain 20 = .ok (.iconst 0, 1) := by decide +kernel
theorem dX7_isPlain_21 : decode cX7_isPlain 21 = .ok (.istore_n 1, 1) := by decide +kernel
theorem dX7_isPlain_22 : decode cX7_isPlain 22 = .ok (.iconst 0, 1) := by decide +kernel
theorem dX7_isPlain_23 : decode cX7_isPlain 23 = .ok (.istore_n 2, 1) := by decide +kernel
theorem dX7_isPlain_24 : decode cX7_isPlain 24 = .ok (.iload_n 2, 1) := by decide +kernel
theorem dX7_isPlain_25 : decode cX7_isPlain 25 = .ok (.aload_n 0, 1) := by decide +kernel
theorem dX7_isPlain_26 : decode cX7_isPlain 26 = .ok (.getfield 99, 3) := by decide +kernel
theorem dX7_isPlain_29 : decode cX7_isPlain 29 = .ok (.if_icmp .ge 97, 3) := by decide +kernel
theorem dX7_isPlain_32 : decode cX7_isPlain 32 = .ok (.iload_n 1, 1) := by decide +kernel
theorem dX7_isPlain_33 : decode cX7_isPlain 33 = .ok (.ifCond .eq 93, 3) := by decide +kernel
theorem dX7_isPlain_36 : decode cX7_isPlain 36 = .ok (.aload_n 0, 1) := by decide +kernel
theorem dX7_isPlain_37 : decode cX7_isPlain 37 = .ok (.aload_n 0, 1) := by decide +kernel
theorem dX7_isPlain_38 : decode cX7_isPlain 38 = .ok (.getfield 41, 3) := by decide +kernel
theorem dX7_isPlain_41 : decode cX7_isPlain 41 = .ok (.iload_n 2, 1) := by decide +kernel
theorem dX7_isPlain_42 : decode cX7_isPlain 42 = .ok (.iaload, 1) := by decide +kernel
theorem dX7_isPlain_43 : decode cX7_isPlain 43 = .ok (.bipush 97, 2) := by decide +kernel
theorem dX7_isPlain_45 : decode cX7_isPlain 45 = .ok (.isub, 1) := by decide +kernel
theorem dX7_isPlain_46 : decode cX7_isPlain 46 = .ok (.invokevirtual 95, 3) := by decide +kernel
theorem dX7_isPlain_49 : decode cX7_isPlain 49 = .ok (.ifCond .eq 69, 3) := by decide +kernel
theorem dX7_isPlain_52 : decode cX7_isPlain 52 = .ok (.aload_n 0, 1) := by decide +kernel
theorem dX7_isPlain_53 : decode cX7_isPlain 53 = .ok (.getfield 41, 3) := by decide +kernel
theorem dX7_isPlain_56 : decode cX7_isPlain 56 = .ok (.iload_n 2, 1) := by decide +kernel
theorem dX7_isPlain_57 : decode cX7_isPlain 57 = .ok (.iconst 1, 1) := by decide +kernel
theorem dX7_isPlain_58 : decode cX7_isPlain 58 = .ok (.iadd, 1) := by decide +kernel
theorem dX7_isPlain_59 : decode cX7_isPlain 59 = .ok (.iaload, 1) := by decide +kernel
theorem dX7_isPlain_60 : decode cX7_isPlain 60 = .ok (.bipush 42, 2) := by decide +kernel
theorem dX7_isPlain_62 : decode cX7_isPlain 62 = .ok (.if_icmp .eq 56, 3) := by decide +kernel
theorem dX7_isPlain_65 : decode cX7_isPlain 65 = .ok (.aload_n 0, 1) := by decide +kernel
theorem dX7_isPlain_66 : decode cX7_isPlain 66 = .ok (.getfield 41, 3) := by decide +kernel
theorem dX7_isPlain_69 : decode cX7_isPlain 69 = .ok (.iload_n 2, 1) := by decide +kernel
theorem dX7_isPlain_70 : decode cX7_isPlain 70 = .ok (.iconst 2, 1) := by decide +kernel
theorem dX7_isPlain_71 : decode cX7_isPlain 71 = .ok (.iadd, 1) := by decide +kernel
theorem dX7_isPlain_72 : decode cX7_isPlain 72 = .ok (.iaload, 1) := by decide +kernel
theorem dX7_isPlain_73 : decode cX7_isPlain 73 = .ok (.bipush 116, 2) := by decide +kernel
theorem dX7_isPlain_75 : decode cX7_isPlain 75 = .ok (.if_icmp .eq 16, 3) := by decide +kernel
theorem dX7_isPlain_78 : decode cX7_isPlain 78 = .ok (.aload_n 0, 1) := by decide +kernel
theorem dX7_isPlain_79 : decode cX7_isPlain 79 = .ok (.getfield 41, 3) := by decide +kernel
theorem dX7_isPlain_82 : decode cX7_isPlain 82 = .ok (.iload_n 2, 1) := by decide +kernel
theorem dX7_isPlain_83 : decode cX7_isPlain 83 = .ok (.iconst 2, 1) := by decide +kernel
theorem dX7_isPlain_84 : decode cX7_isPlain 84 = .ok (.iadd, 1) := by decide +kernel
theorem dX7_isPlain_85 : decode cX7_isPlain 85 = .ok (.iaload, 1) := by decide +kernel
theorem dX7_isPlain_86 : decode cX7_isPlain 86 = .ok (.bipush 108, 2) := by decide +kernel
theorem dX7_isPlain_88 : decode cX7_isPlain 88 = .ok (.if_icmp .ne 30, 3) := by decide +kernel
theorem dX7_isPlain_91 : decode cX7_isPlain 91 = .ok (.aload_n 0, 1) := by decide +kernel
theorem dX7_isPlain_92 : decode cX7_isPlain 92 = .ok (.getfield 41, 3) := by decide +kernel
theorem dX7_isPlain_95 : decode cX7_isPlain 95 = .ok (.iload_n 2, 1) := by decide +kernel
theorem dX7_isPlain_96 : decode cX7_isPlain 96 = .ok (.iaload, 1) := by decide +kernel
theorem dX7_isPlain_97 : decode cX7_isPlain 97 = .ok (.bipush 97, 2) := by decide +kernel
theorem dX7_isPlain_99 : decode cX7_isPlain 99 = .ok (.isub, 1) := by decide +kernel
theorem dX7_isPlain_100 : decode cX7_isPlain 100 = .ok (.aload_n 0, 1) := by decide +kernel
theorem dX7_isPlain_101 : decode cX7_isPlain 101 = .ok (.getfield 41, 3) := by decide +kernel
theorem dX7_isPlain_104 : decode cX7_isPlain 104 = .ok (.iload_n 2, 1) := by decide +kernel
theorem dX7_isPlain_105 : decode cX7_isPlain 105 = .ok (.iconst 1, 1) := by decide +kernel
theorem dX7_isPlain_106 : decode cX7_isPlain 106 = .ok (.iadd, 1) := by decide +kernel
theorem dX7_isPlain_107 : decode cX7_isPlain 107 = .ok (.iaload, 1) := by decide +kernel
theorem dX7_isPlain_108 : decode cX7_isPlain 108 = .ok (.bipush 65, 2) := by decide +kernel
theorem dX7_isPlain_110 : decode cX7_isPlain 110 = .ok (.isub, 1) := by decide +kernel
theorem dX7_isPlain_111 : decode cX7_isPlain 111 = .ok (.if_icmp .eq 7, 3) := by decide +kernel
theorem dX7_isPlain_114 : decode cX7_isPlain 114 = .ok (.iconst 1, 1) := by decide +kernel
theorem dX7_isPlain_115 : decode cX7_isPlain 115 = .ok (.goto 4, 3) := by decide +kernel
theorem dX7_isPlain_118 : decode cX7_isPlain 118 = .ok (.iconst 0, 1) := by decide +kernel
theorem dX7_isPlain_119 : decode cX7_isPlain 119 = .ok (.istore_n 1, 1) := by decide +kernel
theorem dX7_isPlain_120 : decode cX7_isPlain 120 = .ok (.iinc 2 3, 3) := by decide +kernel
theorem dX7_isPlain_123 : decode cX7_isPlain 123 = .ok (.goto (-99), 3) := by decide +kernel
theorem dX7_isPlain_126 : decode cX7_isPlain 126 = .ok (.iload_n 1, 1) := by decide +kernel
theorem dX7_isPlain_127 : decode cX7_isPlain 127 = .ok (.ireturn, 1) := by decide +kernel
theorem dX7_isSeen_0 : decode cX7_isSeen 0 = .ok (.iconst 0, 1) := by decide +kernel
theorem dX7_isSeen_1 : decode cX7_isSeen 1 = .ok (.istore_n 2, 1) := by decide +kernel
theorem dX7_isSeen_2 : decode cX7_isSeen 2 = .ok (.iconst 0, 1) := by decide +kernel
theorem dX7_isSeen_3 : decode cX7_isSeen 3 = .ok (.istore_n 3, 1) := by decide +kernel
theorem dX7_isSeen_4 : decode cX7_isSeen 4 = .ok (.iload_n 3, 1) := by decide +kernel
theorem dX7_isSeen_5 : decode cX7_isSeen 5 = .ok (.aload_n 0, 1) := by decide +kernel
theorem dX7_isSeen_6 : decode cX7_isSeen 6 = .ok (.getfield 88, 3) := by decide +kernel
theorem dX7_isSeen_9 : decode cX7_isSeen 9 = .ok (.if_icmp .ge 31, 3) := by decide +kernel
theorem dX7_isSeen_12 : decode cX7_isSeen 12 = .ok (.iload_n 2, 1) := by decide +kernel
theorem dX7_isSeen_13 : decode cX7_isSeen 13 = .ok (.ifCond .ne 15, 3) := by decide +kernel
theorem dX7_isSeen_16 : decode cX7_isSeen 16 = .ok (.aload_n 0, 1) := by decide +kernel
theorem dX7_isSeen_17 : decode cX7_isSeen 17 = .ok (.getfield 38, 3) := by decide +kernel
theorem dX7_isSeen_20 : decode cX7_isSeen 20 = .ok (.iconst 2, 1) := by decide +kernel
theorem dX7_isSeen_21 : decode cX7_isSeen 21 = .ok (.iload_n 3, 1) := by decide +kernel
theorem dX7_isSeen_22 : decode cX7_isSeen 22 = .ok (.imul, 1) := by decide +kernel
theorem dX7_isSeen_23 : decode cX7_isSeen 23 = .ok (.iaload, 1) := by decide +kernel
theorem dX7_isSeen_24 : decode cX7_isSeen 24 = .ok (.iload_n 1, 1) := by decide +kernel
theorem dX7_isSeen_25 : decode cX7_isSeen 25 = .ok (.if_icmp .ne 7, 3) := by decide +kernel
theorem dX7_isSeen_28 : decode cX7_isSeen 28 = .ok (.iconst 1, 1) := by decide +kernel
theorem dX7_isSeen_29 : decode cX7_isSeen 29 = .ok (.goto 4, 3) := by decide +kernel
theorem dX7_isSeen_32 : decode cX7_isSeen 32 = .ok (.iconst 0, 1) := by decide +kernel
theorem dX7_isSeen_33 : decode cX7_isSeen 33 = .ok (.istore_n 2, 1) := by decide +kernel
theorem dX7_isSeen_34 : decode cX7_isSeen 34 = .ok (.iinc 3 1, 3) := by decide +kernel
theorem dX7_isSeen_37 : decode cX7_isSeen 37 = .ok (.goto (-33), 3) := by decide +kernel
theorem dX7_isSeen_40 : decode cX7_isSeen 40 = .ok (.iload_n 2, 1) := by decide +kernel
theorem dX7_isSeen_41 : decode cX7_isSeen 41 = .ok (.ireturn, 1) := by decide +kernel
