theorem dJ7_fill_53178_0 : decode cJ7_fill_53178 0 = .ok (.iconst 0, 1) := by decide +kernel
theorem dJ7_fill_53178_1 : decode cJ7_fill_53178 1 = .ok (.istore_n 2, 1) := by decide +kernel
theorem dJ7_fill_53178_2 : decode cJ7_fill_53178 2 = .ok (.aload_n 0, 1) := by decide +kernel
theorem dJ7_fill_53178_3 : decode cJ7_fill_53178 3 = .ok (.arraylength, 1) := by decide +kernel
theorem dJ7_fill_53178_4 : decode cJ7_fill_53178 4 = .ok (.istore_n 3, 1) := by decide +kernel
theorem dJ7_fill_53178_5 : decode cJ7_fill_53178 5 = .ok (.iload_n 2, 1) := by decide +kernel
theorem dJ7_fill_53178_6 : decode cJ7_fill_53178 6 = .ok (.iload_n 3, 1) := by decide +kernel
theorem dJ7_fill_53178_7 : decode cJ7_fill_53178 7 = .ok (.if_icmp .ge 13, 3) := by decide +kernel
theorem dJ7_fill_53178_10 : decode cJ7_fill_53178 10 = .ok (.aload_n 0, 1) := by decide +kernel
theorem dJ7_fill_53178_11 : decode cJ7_fill_53178 11 = .ok (.iload_n 2, 1) := by decide +kernel
theorem dJ7_fill_53178_12 : decode cJ7_fill_53178 12 = .ok (.iload_n 1, 1) := by decide +kernel
theorem dJ7_fill_53178_13 : decode cJ7_fill_53178 13 = .ok (.iastore, 1) := by decide +kernel
theorem dJ7_fill_53178_14 : decode cJ7_fill_53178 14 = .ok (.iinc 2 1, 3) := by decide +kernel
theorem dJ7_fill_53178_17 : decode cJ7_fill_53178 17 = .ok (.goto (-12), 3) := by decide +kernel
theorem dJ7_fill_53178_20 : decode cJ7_fill_53178 20 = .ok (.return_, 1) := by decide +kernel
theorem dJ7_fill_fda19_0 : decode cJ7_fill_fda19 0 = .ok (.aload_n 0, 1) := by decide +kernel
theorem dJ7_fill_fda19_1 : decode cJ7_fill_fda19 1 = .ok (.arraylength, 1) := by decide +kernel
theorem dJ7_fill_fda19_2 : decode cJ7_fill_fda19 2 = .ok (.iload_n 1, 1) := by decide +kernel
theorem dJ7_fill_fda19_3 : decode cJ7_fill_fda19 3 = .ok (.iload_n 2, 1) := by decide +kernel
theorem dJ7_fill_fda19_4 : decode cJ7_fill_fda19 4 = .ok (.invokestatic 13, 3) := by decide +kernel
theorem dJ7_fill_fda19_7 : decode cJ7_fill_fda19 7 = .ok (.iload_n 1, 1) := by decide +kernel
theorem dJ7_fill_fda19_8 : decode cJ7_fill_fda19 8 = .ok (.istore 4, 2) := by decide +kernel
theorem dJ7_fill_fda19_10 : decode cJ7_fill_fda19 10 = .ok (.iload 4, 2) := by decide +kernel
theorem dJ7_fill_fda19_12 : decode cJ7_fill_fda19 12 = .ok (.iload_n 2, 1) := by decide +kernel
theorem dJ7_fill_fda19_13 : decode cJ7_fill_fda19 13 = .ok (.if_icmp .ge 14, 3) := by decide +kernel
theorem dJ7_fill_fda19_16 : decode cJ7_fill_fda19 16 = .ok (.aload_n 0, 1) := by decide +kernel
theorem dJ7_fill_fda19_17 : decode cJ7_fill_fda19 17 = .ok (.iload 4, 2) := by decide +kernel
theorem dJ7_fill_fda19_19 : decode cJ7_fill_fda19 19 = .ok (.iload_n 3, 1) := by decide +kernel
theorem dJ7_fill_fda19_20 : decode cJ7_fill_fda19 20 = .ok (.iastore, 1) := by decide +kernel
theorem dJ7_fill_fda19_21 : decode cJ7_fill_fda19 21 = .ok (.iinc 4 1, 3) := by decide +kernel
theorem dJ7_fill_fda19_24 : decode cJ7_fill_fda19 24 = .ok (.goto (-14), 3) := by decide +kernel
theorem dJ7_fill_fda19_27 : decode cJ7_fill_fda19 27 = .ok (.return_, 1) := by decide +kernel
theorem dJ7_rangeCheck_23922_0 : decode cJ7_rangeCheck_23922 0 = .ok (.iload_n 1, 1) := by decide +kernel
theorem dJ7_rangeCheck_23922_1 : decode cJ7_rangeCheck_23922 1 = .ok (.iload_n 2, 1) := by decide +kernel
theorem dJ7_rangeCheck_23922_2 : decode cJ7_rangeCheck_23922 2 = .ok (.if_icmp .le 44, 3) := by decide +kernel
theorem dJ7_rangeCheck_23922_5 : decode cJ7_rangeCheck_23922 5 = .ok (.new 43, 3) := by decide +kernel
theorem dJ7_rangeCheck_23922_8 : decode cJ7_rangeCheck_23922 8 = .ok (.dup, 1) := by decide +kernel
theorem dJ7_rangeCheck_23922_9 : decode cJ7_rangeCheck_23922 9 = .ok (.new 45, 3) := by decide +kernel
theorem dJ7_rangeCheck_23922_12 : decode cJ7_rangeCheck_23922 12 = .ok (.dup, 1) := by decide +kernel
theorem dJ7_rangeCheck_23922_13 : decode cJ7_rangeCheck_23922 13 = .ok (.invokespecial 47, 3) := by decide +kernel
theorem dJ7_rangeCheck_23922_16 : decode cJ7_rangeCheck_23922 16 = .ok (.ldc 48, 2) := by decide +kernel
theorem dJ7_rangeCheck_23922_18 : decode cJ7_rangeCheck_23922 18 = .ok (.invokevirtual 50, 3) := by decide +kernel
theorem dJ7_rangeCheck_23922_21 : decode cJ7_rangeCheck_23922 21 = .ok (.iload_n 1, 1) := by decide +kernel
theorem dJ7_rangeCheck_23922_22 : decode cJ7_rangeCheck_23922 22 = .ok (.invokevirtual 54, 3) := by decide +kernel
theorem dJ7_rangeCheck_23922_25 : decode cJ7_rangeCheck_23922 25 = .ok (.ldc 57, 2) := by decide +kernel
theorem dJ7_rangeCheck_23922_27 : decode cJ7_rangeCheck_23922 27 = .ok (.invokevirtual 50, 3) := by decide +kernel
theorem dJ7_rangeCheck_23922_30 : decode cJ7_rangeCheck_23922 30 = .ok (.iload_n 2, 1) := by decide +kernel
theorem dJ7_rangeCheck_23922_31 : decode cJ7_rangeCheck_23922 31 = .ok (.invokevirtual 54, 3) := by decide +kernel
theorem dJ7_rangeCheck_23922_34 : decode cJ7_rangeCheck_23922 34 = .ok (.ldc 59, 2) := by decide +kernel
theorem dJ7_rangeCheck_23922_36 : decode cJ7_rangeCheck_23922 36 = .ok (.invokevirtual 50, 3) := by decide +kernel
theorem dJ7_rangeCheck_23922_39 : decode cJ7_rangeCheck_23922 39 = .ok (.invokevirtual 61, 3) := by decide +kernel
theorem dJ7_rangeCheck_23922_42 : decode cJ7_rangeCheck_23922 42 = .ok (.invokespecial 65, 3) := by decide +kernel
theorem dJ7_rangeCheck_23922_45 : decode cJ7_rangeCheck_23922 45 = .ok (.athrow, 1) := by decide +kernel
theorem dJ7_rangeCheck_23922_46 : decode cJ7_rangeCheck_23922 46 = .ok (.iload_n 1, 1) := by decide +kernel
theorem dJ7_rangeCheck_23922_47 : decode cJ7_rangeCheck_23922 47 = .ok (.ifCond .ge 12, 3) := by decide +kernel
theorem dJ7_rangeCheck_23922_50 : decode cJ7_rangeCheck_23922 50 = .ok (.new 68, 3) := by decide +kernel
theorem dJ7_rangeCheck_23922_53 : decode cJ7_rangeCheck_23922 53 = .ok (.dup, 1) := by decide +kernel
theorem dJ7_rangeCheck_23922_54 : decode cJ7_rangeCheck_23922 54 = .ok (.iload_n 1, 1) := by decide +kernel
theorem dJ7_rangeCheck_23922_55 : decode cJ7_rangeCheck_23922 55 = .ok (.invokespecial 70, 3) := by decide +kernel
theorem dJ7_rangeCheck_23922_58 : decode cJ7_rangeCheck_23922 58 = .ok (.athrow, 1) := by decide +kernel
theorem dJ7_rangeCheck_23922_59 : decode cJ7_rangeCheck_23922 59 = .ok (.iload_n 2, 1) := by decide +kernel
theorem dJ7_rangeCheck_23922_60 : decode cJ7_rangeCheck_23922 60 = .ok (.iload_n 0, 1) := by decide +kernel
theorem dJ7_rangeCheck_23922_61 : decode cJ7_rangeCheck_23922 61 = .ok (.if_icmp .le 12, 3) := by decide +kernel
theorem dJ7_rangeCheck_23922_64 : decode cJ7_rangeCheck_23922 64 = .ok (.new 68, 3) := by decide +kernel
theorem dJ7_rangeCheck_23922_67 : decode cJ7_rangeCheck_23922 67 = .ok (.dup, 1) := by decide +kernel
theorem dJ7_rangeCheck_23922_68 : decode cJ7_rangeCheck_23922 68 = .ok (.iload_n 2, 1) := by decide +kernel
theorem dJ7_rangeCheck_23922_69 : decode cJ7_rangeCheck_23922 69 = .ok (.invokespecial 70, 3) := by decide +kernel
theorem dJ7_rangeCheck_23922_72 : decode cJ7_rangeCheck_23922 72 = .ok (.athrow, 1) := by decide +kernel
theorem dJ7_rangeCheck_23922_73 : decode cJ7_rangeCheck_23922 73 = .ok (.return_, 1) := by decide +kernel
theorem dX6_behind_0 : decode cX6_behind 0 = .ok (.aload_n 0, 1) := by decide +kernel
theorem dX6_behind_1 : decode cX6_behind 1 = .ok (.getfield 10, 3) := by decide +kernel
theorem dX6_behind_4 : decode cX6_behind 4 = .ok (.iload_n 1, 1) := by decide +kernel
theorem dX6_behind_5 : decode cX6_behind 5 = .ok (.invokevirtual 66, 3) := by decide +kernel
theorem dX6_behind_8 : decode cX6_behind 8 = .ok (.ifCond .ne 5, 3) := by decide +kernel
theorem dX6_behind_11 : decode cX6_behind 11 = .ok (.iconst (-1), 1) := by decide +kernel
theorem dX6_behind_12 : decode cX6_behind 12 = .ok (.ireturn, 1) := by decide +kernel
theorem dX6_behind_13 : decode cX6_behind 13 = .ok (.iload_n 2, 1) := by decide +kernel
theorem dX6_behind_14 : decode cX6_behind 14 = .ok (.iconst 0, 1) := by decide +kernel
theorem dX6_behind_15 : decode cX6_behind 15 = .ok (.iconst 1, 1) := by decide +kernel
theorem dX6_behind_16 : decode cX6_behind 16 = .ok (.invokestatic 70, 3) := by decide +kernel
theorem dX6_behind_19 : decode cX6_behind 19 = .ok (.ifCond .eq 6, 3) := by decide +kernel
theorem dX6_behind_22 : decode cX6_behind 22 = .ok (.bipush (-2), 2) := by decide +kernel
theorem dX6_behind_24 : decode cX6_behind 24 = .ok (.ireturn, 1) := by decide +kernel
theorem dX6_behind_25 : decode cX6_behind 25 = .ok (.aload_n 0, 1) := by decide +kernel
theorem dX6_behind_26 : decode cX6_behind 26 = .ok (.invokevirtual 108, 3) := by decide +kernel
theorem dX6_behind_29 : decode cX6_behind 29 = .ok (.ifCond .ne 6, 3) := by decide +kernel
theorem dX6_behind_32 : decode cX6_behind 32 = .ok (.bipush (-5), 2) := by decide +kernel
theorem dX6_behind_34 : decode cX6_behind 34 = .ok (.ireturn, 1) := by decide +kernel
theorem dX6_behind_35 : decode cX6_behind 35 = .ok (.aload_n 0, 1) := by decide +kernel
theorem dX6_behind_36 : decode cX6_behind 36 = .ok (.getfield 16, 3) := by decide +kernel
theorem dX6_behind_39 : decode cX6_behind 39 = .ok (.iload_n 1, 1) := by decide +kernel
theorem dX6_behind_40 : decode cX6_behind 40 = .ok (.iload_n 2, 1) := by decide +kernel
theorem dX6_behind_41 : decode cX6_behind 41 = .ok (.invokevirtual 115, 3) := by decide +kernel
theorem dX6_behind_44 : decode cX6_behind 44 = .ok (.ireturn, 1) := by decide +kernel
theorem dX6_build_0 : decode cX6_build 0 = .ok (.aload_n 0, 1) := by decide +kernel
theorem dX6_build_1 : decode cX6_build 1 = .ok (.getfield 10, 3) := by decide +kernel
theorem dX6_build_4 : decode cX6_build 4 = .ok (.iload_n 1, 1) := by decide +kernel
theorem dX6_build_5 : decode cX6_build 5 = .ok (.invokevirtual 66, 3) := by decide +kernel
theorem dX6_build_8 : decode cX6_build 8 = .ok (.ifCond .ne 5, 3) := by decide +kernel
theorem dX6_build_11 : decode cX6_build 11 = .ok (.iconst (-1), 1) := by decide +kernel
theorem dX6_build_12 : decode cX6_build 12 = .ok (.ireturn, 1) := by decide +kernel
theorem dX6_build_13 : decode cX6_build 13 = .ok (.iload_n 2, 1) := by decide +kernel
theorem dX6_build_14 : decode cX6_build 14 = .ok (.iconst 0, 1) := by decide +kernel
theorem dX6_build_15 : decode cX6_build 15 = .ok (.bipush 10, 2) := by decide +kernel
theorem dX6_build_17 : decode cX6_build 17 = .ok (.invokestatic 70, 3) := by decide +kernel
theorem dX6_build_20 : decode cX6_build 20 = .ok (.ifCond .ne 35, 3) := by decide +kernel
theorem dX6_build_23 : decode cX6_build 23 = .ok (.iload_n 3, 1) := by decide +kernel
theorem dX6_build_24 : decode cX6_build 24 = .ok (.iconst 0, 1) := by decide +kernel
theorem dX6_build_25 : decode cX6_build 25 = .ok (.bipush 12, 2) := by decide +kernel
theorem dX6_build_27 : decode cX6_build 27 = .ok (.invokestatic 70, 3) := by decide +kernel
theorem dX6_build_30 : decode cX6_build 30 = .ok (.ifCond .ne 25, 3) := by decide +kernel
theorem dX6_build_33 : decode cX6_build 33 = .ok (.iload 5, 2) := by decide +kernel
theorem dX6_build_35 : decode cX6_build 35 = .ok (.iconst 1, 1) := by decide +kernel
theorem dX6_build_36 : decode cX6_build 36 = .ok (.bipush 100, 2) := by decide +kernel
theorem dX6_build_38 : decode cX6_build 38 = .ok (.invokestatic 70, 3) := by decide +kernel
theorem dX6_build_41 : decode cX6_build 41 = .ok (.ifCond .ne 14, 3) := by decide +kernel
theorem dX6_build_44 : decode cX6_build 44 = .ok (.iload 4, 2) := by decide +kernel
theorem dX6_build_46 : decode cX6_build 46 = .ok (.iconst 0, 1) := by decide +kernel
theorem dX6_build_47 : decode cX6_build 47 = .ok (.iload 5, 2) := by decide +kernel
theorem dX6_build_49 : decode cX6_build 49 = .ok (.invokestatic 70, 3) := by decide +kernel
theorem dX6_build_52 : decode cX6_build 52 = .ok (.ifCond .eq 6, 3) := by decide +kernel
theorem dX6_build_55 : decode cX6_build 55 = .ok (.bipush (-2), 2) := by decide +kernel
theorem dX6_build_57 : decode cX6_build 57 = .ok (.ireturn, 1) := by decide +kernel
theorem dX6_build_58 : decode cX6_build 58 = .ok (.iload 4, 2) := by decide +kernel
theorem dX6_build_60 : decode cX6_build 60 = .ok (.ifCond .ne 5, 3) := by decide +kernel
theorem dX6_build_63 : decode cX6_build 63 = .ok (.iconst 0, 1) := by decide +kernel
theorem dX6_build_64 : decode cX6_build 64 = .ok (.ireturn, 1) := by decide +kernel
theorem dX6_build_65 : decode cX6_build 65 = .ok (.iload 4, 2) := by decide +kernel
theorem dX6_build_67 : decode cX6_build 67 = .ok (.i2l, 1) := by decide +kernel
theorem dX6_build_68 : decode cX6_build 68 = .ok (.bipush 10, 2) := by decide +kernel
theorem dX6_build_70 : decode cX6_build 70 = .ok (.iload_n 3, 1) := by decide +kernel
theorem dX6_build_71 : decode cX6_build 71 = .ok (.invokestatic 194, 3) := by decide +kernel
theorem dX6_build_74 : decode cX6_build 74 = .ok (.lmul, 1) := by decide +kernel
theorem dX6_build_75 : decode cX6_build 75 = .ok (.lstore 6, 2) := by decide +kernel
theorem dX6_build_77 : decode cX6_build 77 = .ok (.lconst 0, 1) := by decide +kernel
theorem dX6_build_78 : decode cX6_build 78 = .ok (.lstore 8, 2) := by decide +kernel
theorem dX6_build_80 : decode cX6_build 80 = .ok (.iconst 0, 1) := by decide +kernel
theorem dX6_build_81 : decode cX6_build 81 = .ok (.istore 10, 2) := by decide +kernel
theorem dX6_build_83 : decode cX6_build 83 = .ok (.iload 10, 2) := by decide +kernel
theorem dX6_build_85 : decode cX6_build 85 = .ok (.iload_n 3, 1) := by decide +kernel
theorem dX6_build_86 : decode cX6_build 86 = .ok (.if_icmp .gt 73, 3) := by decide +kernel
theorem dX6_build_89 : decode cX6_build 89 = .ok (.lload 8, 2) := by decide +kernel
theorem dX6_build_91 : decode cX6_build 91 = .ok (.iload 10, 2) := by decide +kernel
theorem dX6_build_93 : decode cX6_build 93 = .ok (.iload_n 2, 1) := by decide +kernel
theorem dX6_build_94 : decode cX6_build 94 = .ok (.iload_n 3, 1) := by decide +kernel
theorem dX6_build_95 : decode cX6_build 95 = .ok (.invokestatic 190, 3) := by decide +kernel
theorem dX6_build_98 : decode cX6_build 98 = .ok (.ladd, 1) := by decide +kernel
theorem dX6_build_99 : decode cX6_build 99 = .ok (.lstore 8, 2) := by decide +kernel
theorem dX6_build_101 : decode cX6_build 101 = .ok (.lload 8, 2) := by decide +kernel
theorem dX6_build_103 : decode cX6_build 103 = .ok (.iload 5, 2) := by decide +kernel
theorem dX6_build_105 : decode cX6_build 105 = .ok (.i2l, 1) := by decide +kernel
theorem dX6_build_106 : decode cX6_build 106 = .ok (.lmul, 1) := by decide +kernel
theorem dX6_build_107 : decode cX6_build 107 = .ok (.lload 6, 2) := by decide +kernel
theorem dX6_build_109 : decode cX6_build 109 = .ok (.lcmp, 1) := by decide +kernel
theorem dX6_build_110 : decode cX6_build 110 = .ok (.ifCond .lt 43, 3) := by decide +kernel
theorem dX6_build_113 : decode cX6_build 113 = .ok (.aload_n 0, 1) := by decide +kernel
theorem dX6_build_114 : decode cX6_build 114 = .ok (.getfield 10, 3) := by decide +kernel
theorem dX6_build_117 : decode cX6_build 117 = .ok (.getfield 74, 3) := by decide +kernel
theorem dX6_build_120 : decode cX6_build 120 = .ok (.iload_n 1, 1) := by decide +kernel
theorem dX6_build_121 : decode cX6_build 121 = .ok (.iaload, 1) := by decide +kernel
theorem dX6_build_122 : decode cX6_build 122 = .ok (.iload 10, 2) := by decide +kernel
theorem dX6_build_124 : decode cX6_build 124 = .ok (.aload_n 0, 1) := by decide +kernel
theorem dX6_build_125 : decode cX6_build 125 = .ok (.getfield 10, 3) := by decide +kernel
theorem dX6_build_128 : decode cX6_build 128 = .ok (.getfield 84, 3) := by decide +kernel
theorem dX6_build_131 : decode cX6_build 131 = .ok (.iconst 1, 1) := by decide +kernel
theorem dX6_build_132 : decode cX6_build 132 = .ok (.iaload, 1) := by decide +kernel
theorem dX6_build_133 : decode cX6_build 133 = .ok (.imul, 1) := by decide +kernel
theorem dX6_build_134 : decode cX6_build 134 = .ok (.iadd, 1) := by decide +kernel
theorem dX6_build_135 : decode cX6_build 135 = .ok (.istore 11, 2) := by decide +kernel
theorem dX6_build_137 : decode cX6_build 137 = .ok (.iload 11, 2) := by decide +kernel
theorem dX6_build_139 : decode cX6_build 139 = .ok (.sipush 999, 3) := by decide +kernel
theorem dX6_build_142 : decode cX6_build 142 = .ok (.if_icmp .gt 8, 3) := by decide +kernel
theorem dX6_build_145 : decode cX6_build 145 = .ok (.iload 11, 2) := by decide +kernel
theorem dX6_build_147 : decode cX6_build 147 = .ok (.goto 5, 3) := by decide +kernel
theorem dX6_build_150 : decode cX6_build 150 = .ok (.bipush (-6), 2) := by decide +kernel
theorem dX6_build_152 : decode cX6_build 152 = .ok (.ireturn, 1) := by decide +kernel
theorem dX6_build_153 : decode cX6_build 153 = .ok (.iinc 10 1, 3) := by decide +kernel
theorem dX6_build_156 : decode cX6_build 156 = .ok (.goto (-73), 3) := by decide +kernel
theorem dX6_build_159 : decode cX6_build 159 = .ok (.bipush (-6), 2) := by decide +kernel
theorem dX6_build_161 : decode cX6_build 161 = .ok (.ireturn, 1) := by decide +kernel
theorem dX6_chanceOf_0 : decode cX6_chanceOf 0 = .ok (.lconst 1, 1) := by decide +kernel
theorem dX6_chanceOf_1 : decode cX6_chanceOf 1 = .ok (.lstore_n 3, 1) := by decide +kernel
theorem dX6_chanceOf_2 : decode cX6_chanceOf 2 = .ok (.iconst 1, 1) := by decide +kernel
theorem dX6_chanceOf_3 : decode cX6_chanceOf 3 = .ok (.istore 5, 2) := by decide +kernel
theorem dX6_chanceOf_5 : decode cX6_chanceOf 5 = .ok (.iload 5, 2) := by decide +kernel
theorem dX6_chanceOf_7 : decode cX6_chanceOf 7 = .ok (.iload_n 0, 1) := by decide +kernel
theorem dX6_chanceOf_8 : decode cX6_chanceOf 8 = .ok (.if_icmp .gt 23, 3) := by decide +kernel
theorem dX6_chanceOf_11 : decode cX6_chanceOf 11 = .ok (.lload_n 3, 1) := by decide +kernel
theorem dX6_chanceOf_12 : decode cX6_chanceOf 12 = .ok (.iload_n 2, 1) := by decide +kernel
theorem dX6_chanceOf_13 : decode cX6_chanceOf 13 = .ok (.iload 5, 2) := by decide +kernel
theorem dX6_chanceOf_15 : decode cX6_chanceOf 15 = .ok (.isub, 1) := by decide +kernel
theorem dX6_chanceOf_16 : decode cX6_chanceOf 16 = .ok (.iconst 1, 1) := by decide +kernel
theorem dX6_chanceOf_17 : decode cX6_chanceOf 17 = .ok (.iadd, 1) := by decide +kernel
theorem dX6_chanceOf_18 : decode cX6_chanceOf 18 = .ok (.i2l, 1) := by decide +kernel
theorem dX6_chanceOf_19 : decode cX6_chanceOf 19 = .ok (.lmul, 1) := by decide +kernel
theorem dX6_chanceOf_20 : decode cX6_chanceOf 20 = .ok (.iload 5, 2) := by decide +kernel
theorem dX6_chanceOf_22 : decode cX6_chanceOf 22 = .ok (.i2l, 1) := by decide +kernel
theorem dX6_chanceOf_23 : decode cX6_chanceOf 23 = .ok (.ldiv, 1) := by decide +kernel
theorem dX6_chanceOf_24 : decode cX6_chanceOf 24 = .ok (.lstore_n 3, 1) := by decide +kernel
theorem dX6_chanceOf_25 : decode cX6_chanceOf 25 = .ok (.iinc 5 1, 3) := by decide +kernel
theorem dX6_chanceOf_28 : decode cX6_chanceOf 28 = .ok (.goto (-23), 3) := by decide +kernel
theorem dX6_chanceOf_31 : decode cX6_chanceOf 31 = .ok (.lload_n 3, 1) := by decide +kernel
theorem dX6_chanceOf_32 : decode cX6_chanceOf 32 = .ok (.iload_n 1, 1) := by decide +kernel
theorem dX6_chanceOf_33 : decode cX6_chanceOf 33 = .ok (.iload_n 0, 1) := by decide +kernel
theorem dX6_chanceOf_34 : decode cX6_chanceOf 34 = .ok (.invokestatic 194, 3) := by decide +kernel
theorem dX6_chanceOf_37 : decode cX6_chanceOf 37 = .ok (.lmul, 1) := by decide +kernel
theorem dX6_chanceOf_38 : decode cX6_chanceOf 38 = .ok (.bipush 10, 2) := by decide +kernel
theorem dX6_chanceOf_40 : decode cX6_chanceOf 40 = .ok (.iload_n 1, 1) := by decide +kernel
theorem dX6_chanceOf_41 : decode cX6_chanceOf 41 = .ok (.isub, 1) := by decide +kernel
theorem dX6_chanceOf_42 : decode cX6_chanceOf 42 = .ok (.iload_n 2, 1) := by decide +kernel
theorem dX6_chanceOf_43 : decode cX6_chanceOf 43 = .ok (.iload_n 0, 1) := by decide +kernel
theorem dX6_chanceOf_44 : decode cX6_chanceOf 44 = .ok (.isub, 1) := by decide +kernel
theorem dX6_chanceOf_45 : decode cX6_chanceOf 45 = .ok (.invokestatic 194, 3) := by decide +kernel
theorem dX6_chanceOf_48 : decode cX6_chanceOf 48 = .ok (.lmul, 1) := by decide +kernel
theorem dX6_chanceOf_49 : decode cX6_chanceOf 49 = .ok (.lreturn, 1) := by decide +kernel
theorem dX6_cleared_0 : decode cX6_cleared 0 = .ok (.iload_n 1, 1) := by decide +kernel
theorem dX6_cleared_1 : decode cX6_cleared 1 = .ok (.iconst 0, 1) := by decide +kernel
theorem dX6_cleared_2 : decode cX6_cleared 2 = .ok (.sipush 999, 3) := by decide +kernel
theorem dX6_cleared_5 : decode cX6_cleared 5 = .ok (.invokestatic 70, 3) := by decide +kernel
theorem dX6_cleared_8 : decode cX6_cleared 8 = .ok (.ifCond .eq 6, 3) := by decide +kernel
theorem dX6_cleared_11 : decode cX6_cleared 11 = .ok (.bipush (-2), 2) := by decide +kernel
theorem dX6_cleared_13 : decode cX6_cleared 13 = .ok (.ireturn, 1) := by decide +kernel
theorem dX6_cleared_14 : decode cX6_cleared 14 = .ok (.aload_n 0, 1) := by decide +kernel
theorem dX6_cleared_15 : decode cX6_cleared 15 = .ok (.getfield 10, 3) := by decide +kernel
theorem dX6_cleared_18 : decode cX6_cleared 18 = .ok (.getfield 84, 3) := by decide +kernel
theorem dX6_cleared_21 : decode cX6_cleared 21 = .ok (.iconst 3, 1) := by decide +kernel
theorem dX6_cleared_22 : decode cX6_cleared 22 = .ok (.iaload, 1) := by decide +kernel
theorem dX6_cleared_23 : decode cX6_cleared 23 = .ok (.istore_n 2, 1) := by decide +kernel
theorem dX6_cleared_24 : decode cX6_cleared 24 = .ok (.iload_n 2, 1) := by decide +kernel
theorem dX6_cleared_25 : decode cX6_cleared 25 = .ok (.iconst 1, 1) := by decide +kernel
theorem dX6_cleared_26 : decode cX6_cleared 26 = .ok (.if_icmp .ge 6, 3) := by decide +kernel
theorem dX6_cleared_29 : decode cX6_cleared 29 = .ok (.bipush (-6), 2) := by decide +kernel
theorem dX6_cleared_31 : decode cX6_cleared 31 = .ok (.ireturn, 1) := by decide +kernel
theorem dX6_cleared_32 : decode cX6_cleared 32 = .ok (.iconst 0, 1) := by decide +kernel
theorem dX6_cleared_33 : decode cX6_cleared 33 = .ok (.istore_n 3, 1) := by decide +kernel
theorem dX6_cleared_34 : decode cX6_cleared 34 = .ok (.iconst 0, 1) := by decide +kernel
theorem dX6_cleared_35 : decode cX6_cleared 35 = .ok (.istore 4, 2) := by decide +kernel
theorem dX6_cleared_37 : decode cX6_cleared 37 = .ok (.iload 4, 2) := by decide +kernel
theorem dX6_cleared_39 : decode cX6_cleared 39 = .ok (.aload_n 0, 1) := by decide +kernel
theorem dX6_cleared_40 : decode cX6_cleared 40 = .ok (.getfield 10, 3) := by decide +kernel
theorem dX6_cleared_43 : decode cX6_cleared 43 = .ok (.getfield 58, 3) := by decide +kernel
theorem dX6_cleared_46 : decode cX6_cleared 46 = .ok (.if_icmp .ge 45, 3) := by decide +kernel
theorem dX6_cleared_49 : decode cX6_cleared 49 = .ok (.iload 4, 2) := by decide +kernel
theorem dX6_cleared_51 : decode cX6_cleared 51 = .ok (.bipush 8, 2) := by decide +kernel
theorem dX6_cleared_53 : decode cX6_cleared 53 = .ok (.if_icmp .ge 38, 3) := by decide +kernel
theorem dX6_cleared_56 : decode cX6_cleared 56 = .ok (.iconst 0, 1) := by decide +kernel
theorem dX6_cleared_57 : decode cX6_cleared 57 = .ok (.aload_n 0, 1) := by decide +kernel
theorem dX6_cleared_58 : decode cX6_cleared 58 = .ok (.getfield 10, 3) := by decide +kernel
theorem dX6_cleared_61 : decode cX6_cleared 61 = .ok (.getfield 74, 3) := by decide +kernel
theorem dX6_cleared_64 : decode cX6_cleared 64 = .ok (.iload 4, 2) := by decide +kernel
theorem dX6_cleared_66 : decode cX6_cleared 66 = .ok (.iaload, 1) := by decide +kernel
theorem dX6_cleared_67 : decode cX6_cleared 67 = .ok (.iload_n 1, 1) := by decide +kernel
theorem dX6_cleared_68 : decode cX6_cleared 68 = .ok (.isub, 1) := by decide +kernel
theorem dX6_cleared_69 : decode cX6_cleared 69 = .ok (.invokestatic 138, 3) := by decide +kernel
theorem dX6_cleared_72 : decode cX6_cleared 72 = .ok (.istore 5, 2) := by decide +kernel
theorem dX6_cleared_74 : decode cX6_cleared 74 = .ok (.iload_n 3, 1) := by decide +kernel
theorem dX6_cleared_75 : decode cX6_cleared 75 = .ok (.iload 5, 2) := by decide +kernel
theorem dX6_cleared_77 : decode cX6_cleared 77 = .ok (.iload_n 2, 1) := by decide +kernel
theorem dX6_cleared_78 : decode cX6_cleared 78 = .ok (.iadd, 1) := by decide +kernel
theorem dX6_cleared_79 : decode cX6_cleared 79 = .ok (.iconst 1, 1) := by decide +kernel
theorem dX6_cleared_80 : decode cX6_cleared 80 = .ok (.isub, 1) := by decide +kernel
theorem dX6_cleared_81 : decode cX6_cleared 81 = .ok (.iload_n 2, 1) := by decide +kernel
theorem dX6_cleared_82 : decode cX6_cleared 82 = .ok (.idiv, 1) := by decide +kernel
theorem dX6_cleared_83 : decode cX6_cleared 83 = .ok (.iadd, 1) := by decide +kernel
theorem dX6_cleared_84 : decode cX6_cleared 84 = .ok (.istore_n 3, 1) := by decide +kernel
theorem dX6_cleared_85 : decode cX6_cleared 85 = .ok (.iinc 4 1, 3) := by decide +kernel
theorem dX6_cleared_88 : decode cX6_cleared 88 = .ok (.goto (-51), 3) := by decide +kernel
theorem dX6_cleared_91 : decode cX6_cleared 91 = .ok (.iload_n 3, 1) := by decide +kernel
theorem dX6_cleared_92 : decode cX6_cleared 92 = .ok (.ireturn, 1) := by decide +kernel
theorem dX6_commonDivisor_0 : decode cX6_commonDivisor 0 = .ok (.lload_n 0, 1) := by decide +kernel
theorem dX6_commonDivisor_1 : decode cX6_commonDivisor 1 = .ok (.lstore 4, 2) := by decide +kernel
theorem dX6_commonDivisor_3 : decode cX6_commonDivisor 3 = .ok (.lload_n 2, 1) := by decide +kernel
theorem dX6_commonDivisor_4 : decode cX6_commonDivisor 4 = .ok (.lstore 6, 2) := by decide +kernel
theorem dX6_commonDivisor_6 : decode cX6_commonDivisor 6 = .ok (.iconst 0, 1) := by decide +kernel
theorem dX6_commonDivisor_7 : decode cX6_commonDivisor 7 = .ok (.istore 8, 2) := by decide +kernel
theorem dX6_commonDivisor_9 : decode cX6_commonDivisor 9 = .ok (.iload 8, 2) := by decide +kernel
theorem dX6_commonDivisor_11 : decode cX6_commonDivisor 11 = .ok (.bipush 100, 2) := by decide +kernel
theorem dX6_commonDivisor_13 : decode cX6_commonDivisor 13 = .ok (.if_icmp .ge 31, 3) := by decide +kernel
theorem dX6_commonDivisor_16 : decode cX6_commonDivisor 16 = .ok (.lload 6, 2) := by decide +kernel
theorem dX6_commonDivisor_18 : decode cX6_commonDivisor 18 = .ok (.lconst 0, 1) := by decide +kernel
theorem dX6_commonDivisor_19 : decode cX6_commonDivisor 19 = .ok (.lcmp, 1) := by decide +kernel
theorem dX6_commonDivisor_20 : decode cX6_commonDivisor 20 = .ok (.ifCond .eq 24, 3) := by decide +kernel
theorem dX6_commonDivisor_23 : decode cX6_commonDivisor 23 = .ok (.lload 4, 2) := by decide +kernel
theorem dX6_commonDivisor_25 : decode cX6_commonDivisor 25 = .ok (.lload 6, 2) := by decide +kernel
theorem dX6_commonDivisor_27 : decode cX6_commonDivisor 27 = .ok (.lrem, 1) := by decide +kernel
theorem dX6_commonDivisor_28 : decode cX6_commonDivisor 28 = .ok (.lstore 9, 2) := by decide +kernel
theorem dX6_commonDivisor_30 : decode cX6_commonDivisor 30 = .ok (.lload 6, 2) := by decide +kernel
theorem dX6_commonDivisor_32 : decode cX6_commonDivisor 32 = .ok (.lstore 4, 2) := by decide +kernel
theorem dX6_commonDivisor_34 : decode cX6_commonDivisor 34 = .ok (.lload 9, 2) := by decide +kernel
theorem dX6_commonDivisor_36 : decode cX6_commonDivisor 36 = .ok (.lstore 6, 2) := by decide +kernel
theorem dX6_commonDivisor_38 : decode cX6_commonDivisor 38 = .ok (.iinc 8 1, 3) := by decide +kernel
theorem dX6_commonDivisor_41 : decode cX6_commonDivisor 41 = .ok (.goto (-32), 3) := by decide +kernel
theorem dX6_commonDivisor_44 : decode cX6_commonDivisor 44 = .ok (.lload 4, 2) := by decide +kernel
theorem dX6_commonDivisor_46 : decode cX6_commonDivisor 46 = .ok (.lreturn, 1) := by decide +kernel
theorem dX6_done_0 : decode cX6_done 0 = .ok (.aload_n 0, 1) := by decide +kernel
theorem dX6_done_1 : decode cX6_done 1 = .ok (.invokevirtual 108, 3) := by decide +kernel
theorem dX6_done_4 : decode cX6_done 4 = .ok (.ifCond .ne 6, 3) := by decide +kernel
theorem dX6_done_7 : decode cX6_done 7 = .ok (.bipush (-5), 2) := by decide +kernel
theorem dX6_done_9 : decode cX6_done 9 = .ok (.ireturn, 1) := by decide +kernel
theorem dX6_done_10 : decode cX6_done 10 = .ok (.aload_n 0, 1) := by decide +kernel
theorem dX6_done_11 : decode cX6_done 11 = .ok (.getfield 10, 3) := by decide +kernel
theorem dX6_done_14 : decode cX6_done 14 = .ok (.aload_n 0, 1) := by decide +kernel
theorem dX6_done_15 : decode cX6_done 15 = .ok (.getfield 16, 3) := by decide +kernel
theorem dX6_done_18 : decode cX6_done 18 = .ok (.invokevirtual 97, 3) := by decide +kernel
theorem dX6_done_21 : decode cX6_done 21 = .ok (.aload_n 0, 1) := by decide +kernel
theorem dX6_done_22 : decode cX6_done 22 = .ok (.getfield 26, 3) := by decide +kernel
theorem dX6_done_25 : decode cX6_done 25 = .ok (.iconst 0, 1) := by decide +kernel
theorem dX6_done_26 : decode cX6_done 26 = .ok (.putfield 87, 3) := by decide +kernel
theorem dX6_done_29 : decode cX6_done 29 = .ok (.aload_n 0, 1) := by decide +kernel
theorem dX6_done_30 : decode cX6_done 30 = .ok (.getfield 26, 3) := by decide +kernel
theorem dX6_done_33 : decode cX6_done 33 = .ok (.getfield 112, 3) := by decide +kernel
theorem dX6_done_36 : decode cX6_done 36 = .ok (.ireturn, 1) := by decide +kernel
theorem dX6_elsewhere_0 : decode cX6_elsewhere 0 = .ok (.iload_n 1, 1) := by decide +kernel
theorem dX6_elsewhere_1 : decode cX6_elsewhere 1 = .ok (.iconst (-1), 1) := by decide +kernel
theorem dX6_elsewhere_2 : decode cX6_elsewhere 2 = .ok (.if_icmp .eq 16, 3) := by decide +kernel
theorem dX6_elsewhere_5 : decode cX6_elsewhere 5 = .ok (.aload_n 0, 1) := by decide +kernel
theorem dX6_elsewhere_6 : decode cX6_elsewhere 6 = .ok (.getfield 10, 3) := by decide +kernel
theorem dX6_elsewhere_9 : decode cX6_elsewhere 9 = .ok (.iload_n 1, 1) := by decide +kernel
theorem dX6_elsewhere_10 : decode cX6_elsewhere 10 = .ok (.invokevirtual 66, 3) := by decide +kernel
theorem dX6_elsewhere_13 : decode cX6_elsewhere 13 = .ok (.ifCond .ne 5, 3) := by decide +kernel
theorem dX6_elsewhere_16 : decode cX6_elsewhere 16 = .ok (.iconst (-1), 1) := by decide +kernel
theorem dX6_elsewhere_17 : decode cX6_elsewhere 17 = .ok (.ireturn, 1) := by decide +kernel
theorem dX6_elsewhere_18 : decode cX6_elsewhere 18 = .ok (.aload_n 0, 1) := by decide +kernel
theorem dX6_elsewhere_19 : decode cX6_elsewhere 19 = .ok (.getfield 54, 3) := by decide +kernel
theorem dX6_elsewhere_22 : decode cX6_elsewhere 22 = .ok (.aload_n 0, 1) := by decide +kernel
theorem dX6_elsewhere_23 : decode cX6_elsewhere 23 = .ok (.getfield 10, 3) := by decide +kernel
theorem dX6_elsewhere_26 : decode cX6_elsewhere 26 = .ok (.getfield 58, 3) := by decide +kernel
theorem dX6_elsewhere_29 : decode cX6_elsewhere 29 = .ok (.invokevirtual 202, 3) := by decide +kernel
theorem dX6_elsewhere_32 : decode cX6_elsewhere 32 = .ok (.istore_n 2, 1) := by decide +kernel
theorem dX6_elsewhere_33 : decode cX6_elsewhere 33 = .ok (.iload_n 1, 1) := by decide +kernel
theorem dX6_elsewhere_34 : decode cX6_elsewhere 34 = .ok (.iconst (-1), 1) := by decide +kernel
theorem dX6_elsewhere_35 : decode cX6_elsewhere 35 = .ok (.if_icmp .ne 7, 3) := by decide +kernel
theorem dX6_elsewhere_38 : decode cX6_elsewhere 38 = .ok (.iload_n 2, 1) := by decide +kernel
theorem dX6_elsewhere_39 : decode cX6_elsewhere 39 = .ok (.goto 12, 3) := by decide +kernel
theorem dX6_elsewhere_42 : decode cX6_elsewhere 42 = .ok (.aload_n 0, 1) := by decide +kernel
theorem dX6_elsewhere_43 : decode cX6_elsewhere 43 = .ok (.getfield 54, 3) := by decide +kernel
theorem dX6_elsewhere_46 : decode cX6_elsewhere 46 = .ok (.getfield 205, 3) := by decide +kernel
theorem dX6_elsewhere_49 : decode cX6_elsewhere 49 = .ok (.iload_n 1, 1) := by decide +kernel
theorem dX6_elsewhere_50 : decode cX6_elsewhere 50 = .ok (.iaload, 1) := by decide +kernel
theorem dX6_elsewhere_51 : decode cX6_elsewhere 51 = .ok (.ireturn, 1) := by decide +kernel
theorem dX6_fault_0 : decode cX6_fault 0 = .ok (.aload_n 0, 1) := by decide +kernel
theorem dX6_fault_1 : decode cX6_fault 1 = .ok (.getfield 26, 3) := by decide +kernel
theorem dX6_fault_4 : decode cX6_fault 4 = .ok (.aload_n 0, 1) := by decide +kernel
theorem dX6_fault_5 : decode cX6_fault 5 = .ok (.getfield 10, 3) := by decide +kernel
theorem dX6_fault_8 : decode cX6_fault 8 = .ok (.getfield 58, 3) := by decide +kernel
theorem dX6_fault_11 : decode cX6_fault 11 = .ok (.invokevirtual 93, 3) := by decide +kernel
theorem dX6_fault_14 : decode cX6_fault 14 = .ok (.ireturn, 1) := by decide +kernel
theorem dX6_first_0 : decode cX6_first 0 = .ok (.aload_n 0, 1) := by decide +kernel
theorem dX6_first_1 : decode cX6_first 1 = .ok (.invokevirtual 108, 3) := by decide +kernel
theorem dX6_first_4 : decode cX6_first 4 = .ok (.ifCond .ne 6, 3) := by decide +kernel
theorem dX6_first_7 : decode cX6_first 7 = .ok (.bipush (-5), 2) := by decide +kernel
theorem dX6_first_9 : decode cX6_first 9 = .ok (.ireturn, 1) := by decide +kernel
theorem dX6_first_10 : decode cX6_first 10 = .ok (.aload_n 0, 1) := by decide +kernel
theorem dX6_first_11 : decode cX6_first 11 = .ok (.getfield 26, 3) := by decide +kernel
theorem dX6_first_14 : decode cX6_first 14 = .ok (.getfield 119, 3) := by decide +kernel
theorem dX6_first_17 : decode cX6_first 17 = .ok (.ireturn, 1) := by decide +kernel
theorem dX6_forget_0 : decode cX6_forget 0 = .ok (.aload_n 0, 1) := by decide +kernel
theorem dX6_forget_1 : decode cX6_forget 1 = .ok (.getfield 10, 3) := by decide +kernel
theorem dX6_forget_4 : decode cX6_forget 4 = .ok (.getfield 150, 3) := by decide +kernel
theorem dX6_forget_7 : decode cX6_forget 7 = .ok (.istore_n 1, 1) := by decide +kernel
theorem dX6_forget_8 : decode cX6_forget 8 = .ok (.aload_n 0, 1) := by decide +kernel
theorem dX6_forget_9 : decode cX6_forget 9 = .ok (.getfield 10, 3) := by decide +kernel
theorem dX6_forget_12 : decode cX6_forget 12 = .ok (.iconst 0, 1) := by decide +kernel
theorem dX6_forget_13 : decode cX6_forget 13 = .ok (.putfield 150, 3) := by decide +kernel
theorem dX6_forget_16 : decode cX6_forget 16 = .ok (.iload_n 1, 1) := by decide +kernel
theorem dX6_forget_17 : decode cX6_forget 17 = .ok (.ireturn, 1) := by decide +kernel
theorem dX6_garden_0 : decode cX6_garden 0 = .ok (.aload_n 0, 1) := by decide +kernel
theorem dX6_garden_1 : decode cX6_garden 1 = .ok (.getfield 10, 3) := by decide +kernel
theorem dX6_garden_4 : decode cX6_garden 4 = .ok (.iload_n 1, 1) := by decide +kernel
theorem dX6_garden_5 : decode cX6_garden 5 = .ok (.invokevirtual 66, 3) := by decide +kernel
theorem dX6_garden_8 : decode cX6_garden 8 = .ok (.ifCond .ne 5, 3) := by decide +kernel
theorem dX6_garden_11 : decode cX6_garden 11 = .ok (.iconst (-1), 1) := by decide +kernel
theorem dX6_garden_12 : decode cX6_garden 12 = .ok (.ireturn, 1) := by decide +kernel
theorem dX6_garden_13 : decode cX6_garden 13 = .ok (.iload_n 2, 1) := by decide +kernel
theorem dX6_garden_14 : decode cX6_garden 14 = .ok (.iconst 0, 1) := by decide +kernel
theorem dX6_garden_15 : decode cX6_garden 15 = .ok (.iconst 1, 1) := by decide +kernel
theorem dX6_garden_16 : decode cX6_garden 16 = .ok (.invokestatic 70, 3) := by decide +kernel
theorem dX6_garden_19 : decode cX6_garden 19 = .ok (.ifCond .ne 14, 3) := by decide +kernel
theorem dX6_garden_22 : decode cX6_garden 22 = .ok (.iload_n 3, 1) := by decide +kernel
theorem dX6_garden_23 : decode cX6_garden 23 = .ok (.iconst 0, 1) := by decide +kernel
theorem dX6_garden_24 : decode cX6_garden 24 = .ok (.sipush 999, 3) := by decide +kernel
theorem dX6_garden_27 : decode cX6_garden 27 = .ok (.invokestatic 70, 3) := by decide +kernel
theorem dX6_garden_30 : decode cX6_garden 30 = .ok (.ifCond .eq 6, 3) := by decide +kernel
theorem dX6_garden_33 : decode cX6_garden 33 = .ok (.bipush (-2), 2) := by decide +kernel
theorem dX6_garden_35 : decode cX6_garden 35 = .ok (.ireturn, 1) := by decide +kernel
theorem dX6_garden_36 : decode cX6_garden 36 = .ok (.iload_n 2, 1) := by decide +kernel
theorem dX6_garden_37 : decode cX6_garden 37 = .ok (.ifCond .ne 27, 3) := by decide +kernel
theorem dX6_garden_40 : decode cX6_garden 40 = .ok (.aload_n 0, 1) := by decide +kernel
theorem dX6_garden_41 : decode cX6_garden 41 = .ok (.getfield 10, 3) := by decide +kernel
theorem dX6_garden_44 : decode cX6_garden 44 = .ok (.getfield 74, 3) := by decide +kernel
theorem dX6_garden_47 : decode cX6_garden 47 = .ok (.iload_n 1, 1) := by decide +kernel
theorem dX6_garden_48 : decode cX6_garden 48 = .ok (.iaload, 1) := by decide +kernel
theorem dX6_garden_49 : decode cX6_garden 49 = .ok (.istore 4, 2) := by decide +kernel
theorem dX6_garden_51 : decode cX6_garden 51 = .ok (.aload_n 0, 1) := by decide +kernel
theorem dX6_garden_52 : decode cX6_garden 52 = .ok (.getfield 10, 3) := by decide +kernel
theorem dX6_garden_55 : decode cX6_garden 55 = .ok (.getfield 74, 3) := by decide +kernel
theorem dX6_garden_58 : decode cX6_garden 58 = .ok (.iload_n 1, 1) := by decide +kernel
theorem dX6_garden_59 : decode cX6_garden 59 = .ok (.iload_n 3, 1) := by decide +kernel
theorem dX6_garden_60 : decode cX6_garden 60 = .ok (.iastore, 1) := by decide +kernel
theorem dX6_garden_61 : decode cX6_garden 61 = .ok (.goto 41, 3) := by decide +kernel
theorem dX6_garden_64 : decode cX6_garden 64 = .ok (.aload_n 0, 1) := by decide +kernel
theorem dX6_garden_65 : decode cX6_garden 65 = .ok (.getfield 10, 3) := by decide +kernel
theorem dX6_garden_68 : decode cX6_garden 68 = .ok (.getfield 78, 3) := by decide +kernel
theorem dX6_garden_71 : decode cX6_garden 71 = .ok (.iload_n 1, 1) := by decide +kernel
theorem dX6_garden_72 : decode cX6_garden 72 = .ok (.iaload, 1) := by decide +kernel
theorem dX6_garden_73 : decode cX6_garden 73 = .ok (.istore 4, 2) := by decide +kernel
theorem dX6_garden_75 : decode cX6_garden 75 = .ok (.aload_n 0, 1) := by decide +kernel
theorem dX6_garden_76 : decode cX6_garden 76 = .ok (.getfield 10, 3) := by decide +kernel
theorem dX6_garden_79 : decode cX6_garden 79 = .ok (.getfield 78, 3) := by decide +kernel
theorem dX6_garden_82 : decode cX6_garden 82 = .ok (.iload_n 1, 1) := by decide +kernel
theorem dX6_garden_83 : decode cX6_garden 83 = .ok (.iload_n 3, 1) := by decide +kernel
theorem dX6_garden_84 : decode cX6_garden 84 = .ok (.iastore, 1) := by decide +kernel
theorem dX6_garden_85 : decode cX6_garden 85 = .ok (.aload_n 0, 1) := by decide +kernel
theorem dX6_garden_86 : decode cX6_garden 86 = .ok (.getfield 10, 3) := by decide +kernel
theorem dX6_garden_89 : decode cX6_garden 89 = .ok (.dup, 1) := by decide +kernel
theorem dX6_garden_90 : decode cX6_garden 90 = .ok (.getfield 81, 3) := by decide +kernel
theorem dX6_garden_93 : decode cX6_garden 93 = .ok (.iconst 1, 1) := by decide +kernel
theorem dX6_garden_94 : decode cX6_garden 94 = .ok (.iload_n 1, 1) := by decide +kernel
theorem dX6_garden_95 : decode cX6_garden 95 = .ok (.ishl, 1) := by decide +kernel
theorem dX6_garden_96 : decode cX6_garden 96 = .ok (.iconst (-1), 1) := by decide +kernel
theorem dX6_garden_97 : decode cX6_garden 97 = .ok (.ixor, 1) := by decide +kernel
theorem dX6_garden_98 : decode cX6_garden 98 = .ok (.iand, 1) := by decide +kernel
theorem dX6_garden_99 : decode cX6_garden 99 = .ok (.putfield 81, 3) := by decide +kernel
theorem dX6_garden_102 : decode cX6_garden 102 = .ok (.iload 4, 2) := by decide +kernel
theorem dX6_garden_104 : decode cX6_garden 104 = .ok (.ireturn, 1) := by decide +kernel
theorem dX6_gardens_0 : decode cX6_gardens 0 = .ok (.iload_n 1, 1) := by decide +kernel
theorem dX6_gardens_1 : decode cX6_gardens 1 = .ok (.iconst 2, 1) := by decide +kernel
theorem dX6_gardens_2 : decode cX6_gardens 2 = .ok (.if_icmp .lt 9, 3) := by decide +kernel
theorem dX6_gardens_5 : decode cX6_gardens 5 = .ok (.iload_n 1, 1) := by decide +kernel
theorem dX6_gardens_6 : decode cX6_gardens 6 = .ok (.bipush 8, 2) := by decide +kernel
theorem dX6_gardens_8 : decode cX6_gardens 8 = .ok (.if_icmp .le 6, 3) := by decide +kernel
theorem dX6_gardens_11 : decode cX6_gardens 11 = .ok (.bipush (-2), 2) := by decide +kernel
theorem dX6_gardens_13 : decode cX6_gardens 13 = .ok (.ireturn, 1) := by decide +kernel
theorem dX6_gardens_14 : decode cX6_gardens 14 = .ok (.aload_n 0, 1) := by decide +kernel
theorem dX6_gardens_15 : decode cX6_gardens 15 = .ok (.getfield 10, 3) := by decide +kernel
theorem dX6_gardens_18 : decode cX6_gardens 18 = .ok (.getfield 58, 3) := by decide +kernel
theorem dX6_gardens_21 : decode cX6_gardens 21 = .ok (.istore_n 2, 1) := by decide +kernel
theorem dX6_gardens_22 : decode cX6_gardens 22 = .ok (.aload_n 0, 1) := by decide +kernel
theorem dX6_gardens_23 : decode cX6_gardens 23 = .ok (.getfield 10, 3) := by decide +kernel
theorem dX6_gardens_26 : decode cX6_gardens 26 = .ok (.iload_n 1, 1) := by decide +kernel
theorem dX6_gardens_27 : decode cX6_gardens 27 = .ok (.invokevirtual 62, 3) := by decide +kernel
theorem dX6_gardens_30 : decode cX6_gardens 30 = .ok (.iload_n 2, 1) := by decide +kernel
theorem dX6_gardens_31 : decode cX6_gardens 31 = .ok (.ireturn, 1) := by decide +kernel
theorem dX6_guests_0 : decode cX6_guests 0 = .ok (.aload_n 0, 1) := by decide +kernel
theorem dX6_guests_1 : decode cX6_guests 1 = .ok (.getfield 10, 3) := by decide +kernel
theorem dX6_guests_4 : decode cX6_guests 4 = .ok (.iload_n 1, 1) := by decide +kernel
theorem dX6_guests_5 : decode cX6_guests 5 = .ok (.invokevirtual 66, 3) := by decide +kernel
theorem dX6_guests_8 : decode cX6_guests 8 = .ok (.ifCond .ne 7, 3) := by decide +kernel
theorem dX6_guests_11 : decode cX6_guests 11 = .ok (.ldc2_w 182, 3) := by decide +kernel
theorem dX6_guests_14 : decode cX6_guests 14 = .ok (.lreturn, 1) := by decide +kernel
theorem dX6_guests_15 : decode cX6_guests 15 = .ok (.iload_n 2, 1) := by decide +kernel
theorem dX6_guests_16 : decode cX6_guests 16 = .ok (.iconst 0, 1) := by decide +kernel
theorem dX6_guests_17 : decode cX6_guests 17 = .ok (.bipush 10, 2) := by decide +kernel
theorem dX6_guests_19 : decode cX6_guests 19 = .ok (.invokestatic 70, 3) := by decide +kernel
theorem dX6_guests_22 : decode cX6_guests 22 = .ok (.ifCond .ne 23, 3) := by decide +kernel
theorem dX6_guests_25 : decode cX6_guests 25 = .ok (.iload_n 3, 1) := by decide +kernel
theorem dX6_guests_26 : decode cX6_guests 26 = .ok (.iconst 0, 1) := by decide +kernel
theorem dX6_guests_27 : decode cX6_guests 27 = .ok (.bipush 12, 2) := by decide +kernel
theorem dX6_guests_29 : decode cX6_guests 29 = .ok (.invokestatic 70, 3) := by decide +kernel
theorem dX6_guests_32 : decode cX6_guests 32 = .ok (.ifCond .ne 13, 3) := by decide +kernel
theorem dX6_guests_35 : decode cX6_guests 35 = .ok (.iload 4, 2) := by decide +kernel
theorem dX6_guests_37 : decode cX6_guests 37 = .ok (.iconst 0, 1) := by decide +kernel
theorem dX6_guests_38 : decode cX6_guests 38 = .ok (.iconst 1, 1) := by decide +kernel
theorem dX6_guests_39 : decode cX6_guests 39 = .ok (.invokestatic 70, 3) := by decide +kernel
theorem dX6_guests_42 : decode cX6_guests 42 = .ok (.ifCond .eq 7, 3) := by decide +kernel
theorem dX6_guests_45 : decode cX6_guests 45 = .ok (.ldc2_w 184, 3) := by decide +kernel
theorem dX6_guests_48 : decode cX6_guests 48 = .ok (.lreturn, 1) := by decide +kernel
theorem dX6_guests_49 : decode cX6_guests 49 = .ok (.lconst 0, 1) := by decide +kernel
theorem dX6_guests_50 : decode cX6_guests 50 = .ok (.lstore 5, 2) := by decide +kernel
theorem dX6_guests_52 : decode cX6_guests 52 = .ok (.iconst 0, 1) := by decide +kernel
theorem dX6_guests_53 : decode cX6_guests 53 = .ok (.istore 7, 2) := by decide +kernel
theorem dX6_guests_55 : decode cX6_guests 55 = .ok (.iload 7, 2) := by decide +kernel
theorem dX6_guests_57 : decode cX6_guests 57 = .ok (.iload_n 3, 1) := by decide +kernel
theorem dX6_guests_58 : decode cX6_guests 58 = .ok (.if_icmp .gt 34, 3) := by decide +kernel
theorem dX6_guests_61 : decode cX6_guests 61 = .ok (.aload_n 0, 1) := by decide +kernel
theorem dX6_guests_62 : decode cX6_guests 62 = .ok (.getfield 10, 3) := by decide +kernel
theorem dX6_guests_65 : decode cX6_guests 65 = .ok (.iload_n 1, 1) := by decide +kernel
theorem dX6_guests_66 : decode cX6_guests 66 = .ok (.iload 7, 2) := by decide +kernel
theorem dX6_guests_68 : decode cX6_guests 68 = .ok (.invokevirtual 186, 3) := by decide +kernel
theorem dX6_guests_71 : decode cX6_guests 71 = .ok (.ifCond .eq 15, 3) := by decide +kernel
theorem dX6_guests_74 : decode cX6_guests 74 = .ok (.lload 5, 2) := by decide +kernel
theorem dX6_guests_76 : decode cX6_guests 76 = .ok (.iload 7, 2) := by decide +kernel
theorem dX6_guests_78 : decode cX6_guests 78 = .ok (.iload_n 2, 1) := by decide +kernel
theorem dX6_guests_79 : decode cX6_guests 79 = .ok (.iload_n 3, 1) := by decide +kernel
theorem dX6_guests_80 : decode cX6_guests 80 = .ok (.invokestatic 190, 3) := by decide +kernel
theorem dX6_guests_83 : decode cX6_guests 83 = .ok (.ladd, 1) := by decide +kernel
theorem dX6_guests_84 : decode cX6_guests 84 = .ok (.lstore 5, 2) := by decide +kernel
theorem dX6_guests_86 : decode cX6_guests 86 = .ok (.iinc 7 1, 3) := by decide +kernel
theorem dX6_guests_89 : decode cX6_guests 89 = .ok (.goto (-34), 3) := by decide +kernel
theorem dX6_guests_92 : decode cX6_guests 92 = .ok (.bipush 10, 2) := by decide +kernel
theorem dX6_guests_94 : decode cX6_guests 94 = .ok (.iload_n 3, 1) := by decide +kernel
theorem dX6_guests_95 : decode cX6_guests 95 = .ok (.invokestatic 194, 3) := by decide +kernel
theorem dX6_guests_98 : decode cX6_guests 98 = .ok (.lstore 7, 2) := by decide +kernel
theorem dX6_guests_100 : decode cX6_guests 100 = .ok (.lload 5, 2) := by decide +kernel
theorem dX6_guests_102 : decode cX6_guests 102 = .ok (.lload 7, 2) := by decide +kernel
theorem dX6_guests_104 : decode cX6_guests 104 = .ok (.invokestatic 198, 3) := by decide +kernel
theorem dX6_guests_107 : decode cX6_guests 107 = .ok (.lstore 9, 2) := by decide +kernel
theorem dX6_guests_109 : decode cX6_guests 109 = .ok (.lload 9, 2) := by decide +kernel
theorem dX6_guests_111 : decode cX6_guests 111 = .ok (.lconst 1, 1) := by decide +kernel
theorem dX6_guests_112 : decode cX6_guests 112 = .ok (.lcmp, 1) := by decide +kernel
theorem dX6_guests_113 : decode cX6_guests 113 = .ok (.ifCond .ge 7, 3) := by decide +kernel
theorem dX6_guests_116 : decode cX6_guests 116 = .ok (.ldc2_w 184, 3) := by decide +kernel
theorem dX6_guests_119 : decode cX6_guests 119 = .ok (.lreturn, 1) := by decide +kernel
theorem dX6_guests_120 : decode cX6_guests 120 = .ok (.iload 4, 2) := by decide +kernel
theorem dX6_guests_122 : decode cX6_guests 122 = .ok (.ifCond .ne 8, 3) := by decide +kernel
theorem dX6_guests_125 : decode cX6_guests 125 = .ok (.lload 5, 2) := by decide +kernel
theorem dX6_guests_127 : decode cX6_guests 127 = .ok (.goto 5, 3) := by decide +kernel
theorem dX6_guests_130 : decode cX6_guests 130 = .ok (.lload 7, 2) := by decide +kernel
theorem dX6_guests_132 : decode cX6_guests 132 = .ok (.lload 9, 2) := by decide +kernel
theorem dX6_guests_134 : decode cX6_guests 134 = .ok (.ldiv, 1) := by decide +kernel
theorem dX6_guests_135 : decode cX6_guests 135 = .ok (.lreturn, 1) := by decide +kernel
theorem dX6_holds_0 : decode cX6_holds 0 = .ok (.aload_n 0, 1) := by decide +kernel
theorem dX6_holds_1 : decode cX6_holds 1 = .ok (.getfield 10, 3) := by decide +kernel
theorem dX6_holds_4 : decode cX6_holds 4 = .ok (.iload_n 1, 1) := by decide +kernel
theorem dX6_holds_5 : decode cX6_holds 5 = .ok (.invokevirtual 66, 3) := by decide +kernel
theorem dX6_holds_8 : decode cX6_holds 8 = .ok (.ifCond .ne 5, 3) := by decide +kernel
theorem dX6_holds_11 : decode cX6_holds 11 = .ok (.iconst (-1), 1) := by decide +kernel
theorem dX6_holds_12 : decode cX6_holds 12 = .ok (.ireturn, 1) := by decide +kernel
theorem dX6_holds_13 : decode cX6_holds 13 = .ok (.aload_n 0, 1) := by decide +kernel
theorem dX6_holds_14 : decode cX6_holds 14 = .ok (.getfield 10, 3) := by decide +kernel
theorem dX6_holds_17 : decode cX6_holds 17 = .ok (.getfield 74, 3) := by decide +kernel
theorem dX6_holds_20 : decode cX6_holds 20 = .ok (.iload_n 1, 1) := by decide +kernel
theorem dX6_holds_21 : decode cX6_holds 21 = .ok (.iaload, 1) := by decide +kernel
theorem dX6_holds_22 : decode cX6_holds 22 = .ok (.ifCond .ne 6, 3) := by decide +kernel
theorem dX6_holds_25 : decode cX6_holds 25 = .ok (.bipush (-3), 2) := by decide +kernel
theorem dX6_holds_27 : decode cX6_holds 27 = .ok (.ireturn, 1) := by decide +kernel
theorem dX6_holds_28 : decode cX6_holds 28 = .ok (.sipush 1000, 3) := by decide +kernel
theorem dX6_holds_31 : decode cX6_holds 31 = .ok (.istore_n 2, 1) := by decide +kernel
theorem dX6_holds_32 : decode cX6_holds 32 = .ok (.iload_n 1, 1) := by decide +kernel
theorem dX6_holds_33 : decode cX6_holds 33 = .ok (.iconst 1, 1) := by decide +kernel
theorem dX6_holds_34 : decode cX6_holds 34 = .ok (.iadd, 1) := by decide +kernel
theorem dX6_holds_35 : decode cX6_holds 35 = .ok (.istore_n 3, 1) := by decide +kernel
theorem dX6_holds_36 : decode cX6_holds 36 = .ok (.iload_n 3, 1) := by decide +kernel
theorem dX6_holds_37 : decode cX6_holds 37 = .ok (.aload_n 0, 1) := by decide +kernel
theorem dX6_holds_38 : decode cX6_holds 38 = .ok (.getfield 10, 3) := by decide +kernel
theorem dX6_holds_41 : decode cX6_holds 41 = .ok (.getfield 58, 3) := by decide +kernel
theorem dX6_holds_44 : decode cX6_holds 44 = .ok (.if_icmp .ge 31, 3) := by decide +kernel
theorem dX6_holds_47 : decode cX6_holds 47 = .ok (.iload_n 3, 1) := by decide +kernel
theorem dX6_holds_48 : decode cX6_holds 48 = .ok (.bipush 8, 2) := by decide +kernel
theorem dX6_holds_50 : decode cX6_holds 50 = .ok (.if_icmp .ge 25, 3) := by decide +kernel
theorem dX6_holds_53 : decode cX6_holds 53 = .ok (.iload_n 2, 1) := by decide +kernel
theorem dX6_holds_54 : decode cX6_holds 54 = .ok (.aload_n 0, 1) := by decide +kernel
theorem dX6_holds_55 : decode cX6_holds 55 = .ok (.getfield 10, 3) := by decide +kernel
theorem dX6_holds_58 : decode cX6_holds 58 = .ok (.getfield 74, 3) := by decide +kernel
theorem dX6_holds_61 : decode cX6_holds 61 = .ok (.iload_n 3, 1) := by decide +kernel
theorem dX6_holds_62 : decode cX6_holds 62 = .ok (.iaload, 1) := by decide +kernel
theorem dX6_holds_63 : decode cX6_holds 63 = .ok (.iconst 1, 1) := by decide +kernel
theorem dX6_holds_64 : decode cX6_holds 64 = .ok (.iadd, 1) := by decide +kernel
theorem dX6_holds_65 : decode cX6_holds 65 = .ok (.invokestatic 147, 3) := by decide +kernel
theorem dX6_holds_68 : decode cX6_holds 68 = .ok (.istore_n 2, 1) := by decide +kernel
theorem dX6_holds_69 : decode cX6_holds 69 = .ok (.iinc 3 1, 3) := by decide +kernel
theorem dX6_holds_72 : decode cX6_holds 72 = .ok (.goto (-36), 3) := by decide +kernel
theorem dX6_holds_75 : decode cX6_holds 75 = .ok (.iload_n 2, 1) := by decide +kernel
theorem dX6_holds_76 : decode cX6_holds 76 = .ok (.aload_n 0, 1) := by decide +kernel
theorem dX6_holds_77 : decode cX6_holds 77 = .ok (.getfield 10, 3) := by decide +kernel
theorem dX6_holds_80 : decode cX6_holds 80 = .ok (.getfield 74, 3) := by decide +kernel
theorem dX6_holds_83 : decode cX6_holds 83 = .ok (.iload_n 1, 1) := by decide +kernel
theorem dX6_holds_84 : decode cX6_holds 84 = .ok (.iaload, 1) := by decide +kernel
theorem dX6_holds_85 : decode cX6_holds 85 = .ok (.if_icmp .gt 7, 3) := by decide +kernel
theorem dX6_holds_88 : decode cX6_holds 88 = .ok (.iload_n 2, 1) := by decide +kernel
theorem dX6_holds_89 : decode cX6_holds 89 = .ok (.goto 5, 3) := by decide +kernel
theorem dX6_holds_92 : decode cX6_holds 92 = .ok (.bipush (-6), 2) := by decide +kernel
theorem dX6_holds_94 : decode cX6_holds 94 = .ok (.ireturn, 1) := by decide +kernel
theorem dX6_image_0 : decode cX6_image 0 = .ok (.iload_n 1, 1) := by decide +kernel
theorem dX6_image_1 : decode cX6_image 1 = .ok (.iconst 0, 1) := by decide +kernel
theorem dX6_image_2 : decode cX6_image 2 = .ok (.iconst 1, 1) := by decide +kernel
theorem dX6_image_3 : decode cX6_image 3 = .ok (.invokestatic 70, 3) := by decide +kernel
theorem dX6_image_6 : decode cX6_image 6 = .ok (.ifCond .eq 6, 3) := by decide +kernel
theorem dX6_image_9 : decode cX6_image 9 = .ok (.bipush (-2), 2) := by decide +kernel
theorem dX6_image_11 : decode cX6_image 11 = .ok (.ireturn, 1) := by decide +kernel
theorem dX6_image_12 : decode cX6_image 12 = .ok (.aload_n 0, 1) := by decide +kernel
theorem dX6_image_13 : decode cX6_image 13 = .ok (.getfield 19, 3) := by decide +kernel
theorem dX6_image_16 : decode cX6_image 16 = .ok (.iload_n 1, 1) := by decide +kernel
theorem dX6_image_17 : decode cX6_image 17 = .ok (.aaload, 1) := by decide +kernel
theorem dX6_image_18 : decode cX6_image 18 = .ok (.ifnonnull 16, 3) := by decide +kernel
theorem dX6_image_21 : decode cX6_image 21 = .ok (.aload_n 0, 1) := by decide +kernel
theorem dX6_image_22 : decode cX6_image 22 = .ok (.getfield 19, 3) := by decide +kernel
theorem dX6_image_25 : decode cX6_image 25 = .ok (.iload_n 1, 1) := by decide +kernel
theorem dX6_image_26 : decode cX6_image 26 = .ok (.new 7, 3) := by decide +kernel
theorem dX6_image_29 : decode cX6_image 29 = .ok (.dup, 1) := by decide +kernel
theorem dX6_image_30 : decode cX6_image 30 = .ok (.invokespecial 9, 3) := by decide +kernel
theorem dX6_image_33 : decode cX6_image 33 = .ok (.aastore, 1) := by decide +kernel
theorem dX6_image_34 : decode cX6_image 34 = .ok (.aload_n 0, 1) := by decide +kernel
theorem dX6_image_35 : decode cX6_image 35 = .ok (.getfield 19, 3) := by decide +kernel
theorem dX6_image_38 : decode cX6_image 38 = .ok (.iload_n 1, 1) := by decide +kernel
theorem dX6_image_39 : decode cX6_image 39 = .ok (.aaload, 1) := by decide +kernel
theorem dX6_image_40 : decode cX6_image 40 = .ok (.aload_n 0, 1) := by decide +kernel
theorem dX6_image_41 : decode cX6_image 41 = .ok (.getfield 10, 3) := by decide +kernel
theorem dX6_image_44 : decode cX6_image 44 = .ok (.invokevirtual 97, 3) := by decide +kernel
theorem dX6_image_47 : decode cX6_image 47 = .ok (.iconst 1, 1) := by decide +kernel
theorem dX6_image_48 : decode cX6_image 48 = .ok (.ireturn, 1) := by decide +kernel
theorem dX6_init_0 : decode cX6_init 0 = .ok (.aload_n 0, 1) := by decide +kernel
theorem dX6_init_1 : decode cX6_init 1 = .ok (.invokespecial 1, 3) := by decide +kernel
theorem dX6_init_4 : decode cX6_init 4 = .ok (.aload_n 0, 1) := by decide +kernel
theorem dX6_init_5 : decode cX6_init 5 = .ok (.new 7, 3) := by decide +kernel
theorem dX6_init_8 : decode cX6_init 8 = .ok (.dup, 1) := by decide +kernel
theorem dX6_init_9 : decode cX6_init 9 = .ok (.invokespecial 9, 3) := by decide +kernel
theorem dX6_init_12 : decode cX6_init 12 = .ok (.putfield 10, 3) := by decide +kernel
theorem dX6_init_15 : decode cX6_init 15 = .ok (.aload_n 0, 1) := by decide +kernel
theorem dX6_init_16 : decode cX6_init 16 = .ok (.new 7, 3) := by decide +kernel
theorem dX6_init_19 : decode cX6_init 19 = .ok (.dup, 1) := by decide +kernel
theorem dX6_init_20 : decode cX6_init 20 = .ok (.invokespecial 9, 3) := by decide +kernel
theorem dX6_init_23 : decode cX6_init 23 = .ok (.putfield 16, 3) := by decide +kernel
theorem dX6_init_26 : decode cX6_init 26 = .ok (.aload_n 0, 1) := by decide +kernel
theorem dX6_init_27 : decode cX6_init 27 = .ok (.iconst 2, 1) := by decide +kernel
theorem dX6_init_28 : decode cX6_init 28 = .ok (.anewarray 7, 3) := by decide +kernel
theorem dX6_init_31 : decode cX6_init 31 = .ok (.putfield 19, 3) := by decide +kernel
theorem dX6_init_34 : decode cX6_init 34 = .ok (.aload_n 0, 1) := by decide +kernel
theorem dX6_init_35 : decode cX6_init 35 = .ok (.new 23, 3) := by decide +kernel
theorem dX6_init_38 : decode cX6_init 38 = .ok (.dup, 1) := by decide +kernel
theorem dX6_init_39 : decode cX6_init 39 = .ok (.invokespecial 25, 3) := by decide +kernel
theorem dX6_init_42 : decode cX6_init 42 = .ok (.putfield 26, 3) := by decide +kernel
theorem dX6_init_45 : decode cX6_init 45 = .ok (.aload_n 0, 1) := by decide +kernel
theorem dX6_init_46 : decode cX6_init 46 = .ok (.new 30, 3) := by decide +kernel
theorem dX6_init_49 : decode cX6_init 49 = .ok (.dup, 1) := by decide +kernel
theorem dX6_init_50 : decode cX6_init 50 = .ok (.invokespecial 32, 3) := by decide +kernel
theorem dX6_init_53 : decode cX6_init 53 = .ok (.putfield 33, 3) := by decide +kernel
theorem dX6_init_56 : decode cX6_init 56 = .ok (.aload_n 0, 1) := by decide +kernel
theorem dX6_init_57 : decode cX6_init 57 = .ok (.new 37, 3) := by decide +kernel
theorem dX6_init_60 : decode cX6_init 60 = .ok (.dup, 1) := by decide +kernel
theorem dX6_init_61 : decode cX6_init 61 = .ok (.invokespecial 39, 3) := by decide +kernel
theorem dX6_init_64 : decode cX6_init 64 = .ok (.putfield 40, 3) := by decide +kernel
theorem dX6_init_67 : decode cX6_init 67 = .ok (.aload_n 0, 1) := by decide +kernel
theorem dX6_init_68 : decode cX6_init 68 = .ok (.new 44, 3) := by decide +kernel
theorem dX6_init_71 : decode cX6_init 71 = .ok (.dup, 1) := by decide +kernel
theorem dX6_init_72 : decode cX6_init 72 = .ok (.invokespecial 46, 3) := by decide +kernel
theorem dX6_init_75 : decode cX6_init 75 = .ok (.putfield 47, 3) := by decide +kernel
theorem dX6_init_78 : decode cX6_init 78 = .ok (.aload_n 0, 1) := by decide +kernel
theorem dX6_init_79 : decode cX6_init 79 = .ok (.new 51, 3) := by decide +kernel
theorem dX6_init_82 : decode cX6_init 82 = .ok (.dup, 1) := by decide +kernel
theorem dX6_init_83 : decode cX6_init 83 = .ok (.invokespecial 53, 3) := by decide +kernel
theorem dX6_init_86 : decode cX6_init 86 = .ok (.putfield 54, 3) := by decide +kernel
theorem dX6_init_89 : decode cX6_init 89 = .ok (.return_, 1) := by decide +kernel
theorem dX6_isOutside_0 : decode cX6_isOutside 0 = .ok (.iload_n 0, 1) := by decide +kernel
theorem dX6_isOutside_1 : decode cX6_isOutside 1 = .ok (.iload_n 1, 1) := by decide +kernel
theorem dX6_isOutside_2 : decode cX6_isOutside 2 = .ok (.if_icmp .lt 8, 3) := by decide +kernel
theorem dX6_isOutside_5 : decode cX6_isOutside 5 = .ok (.iload_n 0, 1) := by decide +kernel
theorem dX6_isOutside_6 : decode cX6_isOutside 6 = .ok (.iload_n 2, 1) := by decide +kernel
theorem dX6_isOutside_7 : decode cX6_isOutside 7 = .ok (.if_icmp .le 7, 3) := by decide +kernel
theorem dX6_isOutside_10 : decode cX6_isOutside 10 = .ok (.iconst 1, 1) := by decide +kernel
theorem dX6_isOutside_11 : decode cX6_isOutside 11 = .ok (.goto 4, 3) := by decide +kernel
theorem dX6_isOutside_14 : decode cX6_isOutside 14 = .ok (.iconst 0, 1) := by decide +kernel
theorem dX6_isOutside_15 : decode cX6_isOutside 15 = .ok (.ireturn, 1) := by decide +kernel
theorem dX6_judge_0 : decode cX6_judge 0 = .ok (.iload_n 1, 1) := by decide +kernel
theorem dX6_judge_1 : decode cX6_judge 1 = .ok (.iconst 0, 1) := by decide +kernel
theorem dX6_judge_2 : decode cX6_judge 2 = .ok (.iconst 1, 1) := by decide +kernel
theorem dX6_judge_3 : decode cX6_judge 3 = .ok (.invokestatic 70, 3) := by decide +kernel
theorem dX6_judge_6 : decode cX6_judge 6 = .ok (.ifCond .eq 6, 3) := by decide +kernel
theorem dX6_judge_9 : decode cX6_judge 9 = .ok (.bipush (-2), 2) := by decide +kernel
theorem dX6_judge_11 : decode cX6_judge 11 = .ok (.ireturn, 1) := by decide +kernel
theorem dX6_judge_12 : decode cX6_judge 12 = .ok (.aload_n 0, 1) := by decide +kernel
theorem dX6_judge_13 : decode cX6_judge 13 = .ok (.getfield 26, 3) := by decide +kernel
theorem dX6_judge_16 : decode cX6_judge 16 = .ok (.aload_n 0, 1) := by decide +kernel
theorem dX6_judge_17 : decode cX6_judge 17 = .ok (.getfield 10, 3) := by decide +kernel
theorem dX6_judge_20 : decode cX6_judge 20 = .ok (.getfield 58, 3) := by decide +kernel
theorem dX6_judge_23 : decode cX6_judge 23 = .ok (.invokevirtual 93, 3) := by decide +kernel
theorem dX6_judge_26 : decode cX6_judge 26 = .ok (.bipush (-6), 2) := by decide +kernel
theorem dX6_judge_28 : decode cX6_judge 28 = .ok (.if_icmp .eq 6, 3) := by decide +kernel
theorem dX6_judge_31 : decode cX6_judge 31 = .ok (.bipush (-5), 2) := by decide +kernel
theorem dX6_judge_33 : decode cX6_judge 33 = .ok (.ireturn, 1) := by decide +kernel
theorem dX6_judge_34 : decode cX6_judge 34 = .ok (.aload_n 0, 1) := by decide +kernel
theorem dX6_judge_35 : decode cX6_judge 35 = .ok (.getfield 16, 3) := by decide +kernel
theorem dX6_judge_38 : decode cX6_judge 38 = .ok (.aload_n 0, 1) := by decide +kernel
theorem dX6_judge_39 : decode cX6_judge 39 = .ok (.getfield 10, 3) := by decide +kernel
theorem dX6_judge_42 : decode cX6_judge 42 = .ok (.invokevirtual 97, 3) := by decide +kernel
theorem dX6_judge_45 : decode cX6_judge 45 = .ok (.aload_n 0, 1) := by decide +kernel
theorem dX6_judge_46 : decode cX6_judge 46 = .ok (.getfield 26, 3) := by decide +kernel
theorem dX6_judge_49 : decode cX6_judge 49 = .ok (.aload_n 0, 1) := by decide +kernel
theorem dX6_judge_50 : decode cX6_judge 50 = .ok (.getfield 16, 3) := by decide +kernel
theorem dX6_judge_53 : decode cX6_judge 53 = .ok (.invokevirtual 101, 3) := by decide +kernel
theorem dX6_judge_56 : decode cX6_judge 56 = .ok (.istore_n 2, 1) := by decide +kernel
theorem dX6_judge_57 : decode cX6_judge 57 = .ok (.iload_n 1, 1) := by decide +kernel
theorem dX6_judge_58 : decode cX6_judge 58 = .ok (.ifCond .ne 7, 3) := by decide +kernel
theorem dX6_judge_61 : decode cX6_judge 61 = .ok (.iload_n 2, 1) := by decide +kernel
theorem dX6_judge_62 : decode cX6_judge 62 = .ok (.goto 10, 3) := by decide +kernel
theorem dX6_judge_65 : decode cX6_judge 65 = .ok (.aload_n 0, 1) := by decide +kernel
theorem dX6_judge_66 : decode cX6_judge 66 = .ok (.getfield 26, 3) := by decide +kernel
theorem dX6_judge_69 : decode cX6_judge 69 = .ok (.getfield 105, 3) := by decide +kernel
theorem dX6_judge_72 : decode cX6_judge 72 = .ok (.ireturn, 1) := by decide +kernel
theorem dX6_laws_0 : decode cX6_laws 0 = .ok (.aload_n 0, 1) := by decide +kernel
theorem dX6_laws_1 : decode cX6_laws 1 = .ok (.getfield 26, 3) := by decide +kernel
theorem dX6_laws_4 : decode cX6_laws 4 = .ok (.aload_n 0, 1) := by decide +kernel
theorem dX6_laws_5 : decode cX6_laws 5 = .ok (.getfield 10, 3) := by decide +kernel
theorem dX6_laws_8 : decode cX6_laws 8 = .ok (.getfield 58, 3) := by decide +kernel
theorem dX6_laws_11 : decode cX6_laws 11 = .ok (.invokevirtual 93, 3) := by decide +kernel
theorem dX6_laws_14 : decode cX6_laws 14 = .ok (.bipush (-6), 2) := by decide +kernel
theorem dX6_laws_16 : decode cX6_laws 16 = .ok (.if_icmp .eq 6, 3) := by decide +kernel
theorem dX6_laws_19 : decode cX6_laws 19 = .ok (.bipush (-5), 2) := by decide +kernel
theorem dX6_laws_21 : decode cX6_laws 21 = .ok (.ireturn, 1) := by decide +kernel
theorem dX6_laws_22 : decode cX6_laws 22 = .ok (.aload_n 0, 1) := by decide +kernel
theorem dX6_laws_23 : decode cX6_laws 23 = .ok (.getfield 16, 3) := by decide +kernel
theorem dX6_laws_26 : decode cX6_laws 26 = .ok (.aload_n 0, 1) := by decide +kernel
theorem dX6_laws_27 : decode cX6_laws 27 = .ok (.getfield 10, 3) := by decide +kernel
theorem dX6_laws_30 : decode cX6_laws 30 = .ok (.invokevirtual 97, 3) := by decide +kernel
theorem dX6_laws_33 : decode cX6_laws 33 = .ok (.iconst 0, 1) := by decide +kernel
theorem dX6_laws_34 : decode cX6_laws 34 = .ok (.istore_n 2, 1) := by decide +kernel
theorem dX6_laws_35 : decode cX6_laws 35 = .ok (.iconst 0, 1) := by decide +kernel
theorem dX6_laws_36 : decode cX6_laws 36 = .ok (.istore_n 3, 1) := by decide +kernel
theorem dX6_laws_37 : decode cX6_laws 37 = .ok (.iload_n 3, 1) := by decide +kernel
theorem dX6_laws_38 : decode cX6_laws 38 = .ok (.iconst 5, 1) := by decide +kernel
theorem dX6_laws_39 : decode cX6_laws 39 = .ok (.if_icmp .gt 80, 3) := by decide +kernel
theorem dX6_laws_42 : decode cX6_laws 42 = .ok (.iconst 0, 1) := by decide +kernel
theorem dX6_laws_43 : decode cX6_laws 43 = .ok (.istore 4, 2) := by decide +kernel
theorem dX6_laws_45 : decode cX6_laws 45 = .ok (.iload 4, 2) := by decide +kernel
theorem dX6_laws_47 : decode cX6_laws 47 = .ok (.iconst 5, 1) := by decide +kernel
theorem dX6_laws_48 : decode cX6_laws 48 = .ok (.if_icmp .gt 65, 3) := by decide +kernel
theorem dX6_laws_51 : decode cX6_laws 51 = .ok (.iconst 0, 1) := by decide +kernel
theorem dX6_laws_52 : decode cX6_laws 52 = .ok (.istore 5, 2) := by decide +kernel
theorem dX6_laws_54 : decode cX6_laws 54 = .ok (.iload 5, 2) := by decide +kernel
theorem dX6_laws_56 : decode cX6_laws 56 = .ok (.iconst 5, 1) := by decide +kernel
theorem dX6_laws_57 : decode cX6_laws 57 = .ok (.if_icmp .gt 50, 3) := by decide +kernel
theorem dX6_laws_60 : decode cX6_laws 60 = .ok (.aload_n 0, 1) := by decide +kernel
theorem dX6_laws_61 : decode cX6_laws 61 = .ok (.getfield 26, 3) := by decide +kernel
theorem dX6_laws_64 : decode cX6_laws 64 = .ok (.aload_n 0, 1) := by decide +kernel
theorem dX6_laws_65 : decode cX6_laws 65 = .ok (.getfield 16, 3) := by decide +kernel
theorem dX6_laws_68 : decode cX6_laws 68 = .ok (.iload_n 3, 1) := by decide +kernel
theorem dX6_laws_69 : decode cX6_laws 69 = .ok (.iload 4, 2) := by decide +kernel
theorem dX6_laws_71 : decode cX6_laws 71 = .ok (.iload 5, 2) := by decide +kernel
theorem dX6_laws_73 : decode cX6_laws 73 = .ok (.invokevirtual 178, 3) := by decide +kernel
theorem dX6_laws_76 : decode cX6_laws 76 = .ok (.ifCond .eq 25, 3) := by decide +kernel
theorem dX6_laws_79 : decode cX6_laws 79 = .ok (.iload_n 2, 1) := by decide +kernel
theorem dX6_laws_80 : decode cX6_laws 80 = .ok (.iload_n 1, 1) := by decide +kernel
theorem dX6_laws_81 : decode cX6_laws 81 = .ok (.if_icmp .ne 17, 3) := by decide +kernel
theorem dX6_laws_84 : decode cX6_laws 84 = .ok (.bipush 100, 2) := by decide +kernel
theorem dX6_laws_86 : decode cX6_laws 86 = .ok (.iload_n 3, 1) := by decide +kernel
theorem dX6_laws_87 : decode cX6_laws 87 = .ok (.imul, 1) := by decide +kernel
theorem dX6_laws_88 : decode cX6_laws 88 = .ok (.bipush 10, 2) := by decide +kernel
theorem dX6_laws_90 : decode cX6_laws 90 = .ok (.iload 4, 2) := by decide +kernel
theorem dX6_laws_92 : decode cX6_laws 92 = .ok (.imul, 1) := by decide +kernel
theorem dX6_laws_93 : decode cX6_laws 93 = .ok (.iadd, 1) := by decide +kernel
theorem dX6_laws_94 : decode cX6_laws 94 = .ok (.iload 5, 2) := by decide +kernel
theorem dX6_laws_96 : decode cX6_laws 96 = .ok (.iadd, 1) := by decide +kernel
theorem dX6_laws_97 : decode cX6_laws 97 = .ok (.ireturn, 1) := by decide +kernel
theorem dX6_laws_98 : decode cX6_laws 98 = .ok (.iinc 2 1, 3) := by decide +kernel
theorem dX6_laws_101 : decode cX6_laws 101 = .ok (.iinc 5 1, 3) := by decide +kernel
theorem dX6_laws_104 : decode cX6_laws 104 = .ok (.goto (-50), 3) := by decide +kernel
theorem dX6_laws_107 : decode cX6_laws 107 = .ok (.iinc 4 1, 3) := by decide +kernel
theorem dX6_laws_110 : decode cX6_laws 110 = .ok (.goto (-65), 3) := by decide +kernel
theorem dX6_laws_113 : decode cX6_laws 113 = .ok (.iinc 3 1, 3) := by decide +kernel
theorem dX6_laws_116 : decode cX6_laws 116 = .ok (.goto (-79), 3) := by decide +kernel
theorem dX6_laws_119 : decode cX6_laws 119 = .ok (.iload_n 1, 1) := by decide +kernel
theorem dX6_laws_120 : decode cX6_laws 120 = .ok (.iconst (-1), 1) := by decide +kernel
theorem dX6_laws_121 : decode cX6_laws 121 = .ok (.if_icmp .ne 7, 3) := by decide +kernel
theorem dX6_laws_124 : decode cX6_laws 124 = .ok (.iload_n 2, 1) := by decide +kernel
theorem dX6_laws_125 : decode cX6_laws 125 = .ok (.goto 5, 3) := by decide +kernel
theorem dX6_laws_128 : decode cX6_laws 128 = .ok (.bipush (-6), 2) := by decide +kernel
theorem dX6_laws_130 : decode cX6_laws 130 = .ok (.ireturn, 1) := by decide +kernel
theorem dX6_next_0 : decode cX6_next 0 = .ok (.iload_n 1, 1) := by decide +kernel
theorem dX6_next_1 : decode cX6_next 1 = .ok (.iconst 0, 1) := by decide +kernel
theorem dX6_next_2 : decode cX6_next 2 = .ok (.iconst 3, 1) := by decide +kernel
theorem dX6_next_3 : decode cX6_next 3 = .ok (.invokestatic 70, 3) := by decide +kernel
theorem dX6_next_6 : decode cX6_next 6 = .ok (.ifCond .ne 12, 3) := by decide +kernel
theorem dX6_next_9 : decode cX6_next 9 = .ok (.iload_n 2, 1) := by decide +kernel
theorem dX6_next_10 : decode cX6_next 10 = .ok (.iconst 0, 1) := by decide +kernel
theorem dX6_next_11 : decode cX6_next 11 = .ok (.iconst 1, 1) := by decide +kernel
theorem dX6_next_12 : decode cX6_next 12 = .ok (.invokestatic 70, 3) := by decide +kernel
theorem dX6_next_15 : decode cX6_next 15 = .ok (.ifCond .eq 6, 3) := by decide +kernel
theorem dX6_next_18 : decode cX6_next 18 = .ok (.bipush (-2), 2) := by decide +kernel
theorem dX6_next_20 : decode cX6_next 20 = .ok (.ireturn, 1) := by decide +kernel
theorem dX6_next_21 : decode cX6_next 21 = .ok (.aload_n 0, 1) := by decide +kernel
theorem dX6_next_22 : decode cX6_next 22 = .ok (.getfield 47, 3) := by decide +kernel
theorem dX6_next_25 : decode cX6_next 25 = .ok (.aload_n 0, 1) := by decide +kernel
theorem dX6_next_26 : decode cX6_next 26 = .ok (.getfield 10, 3) := by decide +kernel
theorem dX6_next_29 : decode cX6_next 29 = .ok (.iload_n 1, 1) := by decide +kernel
theorem dX6_next_30 : decode cX6_next 30 = .ok (.invokevirtual 159, 3) := by decide +kernel
theorem dX6_next_33 : decode cX6_next 33 = .ok (.aload_n 0, 1) := by decide +kernel
theorem dX6_next_34 : decode cX6_next 34 = .ok (.getfield 47, 3) := by decide +kernel
theorem dX6_next_37 : decode cX6_next 37 = .ok (.aload_n 0, 1) := by decide +kernel
theorem dX6_next_38 : decode cX6_next 38 = .ok (.getfield 10, 3) := by decide +kernel
theorem dX6_next_41 : decode cX6_next 41 = .ok (.invokevirtual 172, 3) := by decide +kernel
theorem dX6_next_44 : decode cX6_next 44 = .ok (.istore_n 3, 1) := by decide +kernel
theorem dX6_next_45 : decode cX6_next 45 = .ok (.iload_n 2, 1) := by decide +kernel
theorem dX6_next_46 : decode cX6_next 46 = .ok (.ifCond .eq 9, 3) := by decide +kernel
theorem dX6_next_49 : decode cX6_next 49 = .ok (.iload_n 3, 1) := by decide +kernel
theorem dX6_next_50 : decode cX6_next 50 = .ok (.bipush (-6), 2) := by decide +kernel
theorem dX6_next_52 : decode cX6_next 52 = .ok (.if_icmp .ne 7, 3) := by decide +kernel
theorem dX6_next_55 : decode cX6_next 55 = .ok (.iload_n 3, 1) := by decide +kernel
theorem dX6_next_56 : decode cX6_next 56 = .ok (.goto 11, 3) := by decide +kernel
theorem dX6_next_59 : decode cX6_next 59 = .ok (.aload_n 0, 1) := by decide +kernel
theorem dX6_next_60 : decode cX6_next 60 = .ok (.getfield 47, 3) := by decide +kernel
theorem dX6_next_63 : decode cX6_next 63 = .ok (.iload_n 3, 1) := by decide +kernel
theorem dX6_next_64 : decode cX6_next 64 = .ok (.invokevirtual 175, 3) := by decide +kernel
theorem dX6_next_67 : decode cX6_next 67 = .ok (.ireturn, 1) := by decide +kernel
theorem dX6_passNight_0 : decode cX6_passNight 0 = .ok (.iconst 0, 1) := by decide +kernel
theorem dX6_passNight_1 : decode cX6_passNight 1 = .ok (.istore_n 2, 1) := by decide +kernel
theorem dX6_passNight_2 : decode cX6_passNight 2 = .ok (.iconst 0, 1) := by decide +kernel
theorem dX6_passNight_3 : decode cX6_passNight 3 = .ok (.istore_n 3, 1) := by decide +kernel
theorem dX6_passNight_4 : decode cX6_passNight 4 = .ok (.iload_n 3, 1) := by decide +kernel
theorem dX6_passNight_5 : decode cX6_passNight 5 = .ok (.iload_n 1, 1) := by decide +kernel
theorem dX6_passNight_6 : decode cX6_passNight 6 = .ok (.if_icmp .ge 75, 3) := by decide +kernel
theorem dX6_passNight_9 : decode cX6_passNight 9 = .ok (.iload_n 3, 1) := by decide +kernel
theorem dX6_passNight_10 : decode cX6_passNight 10 = .ok (.aload_n 0, 1) := by decide +kernel
theorem dX6_passNight_11 : decode cX6_passNight 11 = .ok (.arraylength, 1) := by decide +kernel
theorem dX6_passNight_12 : decode cX6_passNight 12 = .ok (.if_icmp .ge 69, 3) := by decide +kernel
theorem dX6_passNight_15 : decode cX6_passNight 15 = .ok (.iload_n 3, 1) := by decide +kernel
theorem dX6_passNight_16 : decode cX6_passNight 16 = .ok (.iconst 1, 1) := by decide +kernel
theorem dX6_passNight_17 : decode cX6_passNight 17 = .ok (.iadd, 1) := by decide +kernel
theorem dX6_passNight_18 : decode cX6_passNight 18 = .ok (.iload_n 1, 1) := by decide +kernel
theorem dX6_passNight_19 : decode cX6_passNight 19 = .ok (.if_icmp .ge 15, 3) := by decide +kernel
theorem dX6_passNight_22 : decode cX6_passNight 22 = .ok (.iload_n 3, 1) := by decide +kernel
theorem dX6_passNight_23 : decode cX6_passNight 23 = .ok (.iconst 1, 1) := by decide +kernel
theorem dX6_passNight_24 : decode cX6_passNight 24 = .ok (.iadd, 1) := by decide +kernel
theorem dX6_passNight_25 : decode cX6_passNight 25 = .ok (.aload_n 0, 1) := by decide +kernel
theorem dX6_passNight_26 : decode cX6_passNight 26 = .ok (.arraylength, 1) := by decide +kernel
theorem dX6_passNight_27 : decode cX6_passNight 27 = .ok (.if_icmp .ge 7, 3) := by decide +kernel
theorem dX6_passNight_30 : decode cX6_passNight 30 = .ok (.iconst 1, 1) := by decide +kernel
theorem dX6_passNight_31 : decode cX6_passNight 31 = .ok (.goto 4, 3) := by decide +kernel
theorem dX6_passNight_34 : decode cX6_passNight 34 = .ok (.iconst 0, 1) := by decide +kernel
theorem dX6_passNight_35 : decode cX6_passNight 35 = .ok (.istore 4, 2) := by decide +kernel
theorem dX6_passNight_37 : decode cX6_passNight 37 = .ok (.iload 4, 2) := by decide +kernel
theorem dX6_passNight_39 : decode cX6_passNight 39 = .ok (.ifCond .eq 20, 3) := by decide +kernel
theorem dX6_passNight_42 : decode cX6_passNight 42 = .ok (.aload_n 0, 1) := by decide +kernel
theorem dX6_passNight_43 : decode cX6_passNight 43 = .ok (.iload_n 3, 1) := by decide +kernel
theorem dX6_passNight_44 : decode cX6_passNight 44 = .ok (.iaload, 1) := by decide +kernel
theorem dX6_passNight_45 : decode cX6_passNight 45 = .ok (.aload_n 0, 1) := by decide +kernel
theorem dX6_passNight_46 : decode cX6_passNight 46 = .ok (.iload_n 3, 1) := by decide +kernel
theorem dX6_passNight_47 : decode cX6_passNight 47 = .ok (.iconst 1, 1) := by decide +kernel
theorem dX6_passNight_48 : decode cX6_passNight 48 = .ok (.iadd, 1) := by decide +kernel
theorem dX6_passNight_49 : decode cX6_passNight 49 = .ok (.iaload, 1) := by decide +kernel
theorem dX6_passNight_50 : decode cX6_passNight 50 = .ok (.iconst 2, 1) := by decide +kernel
theorem dX6_passNight_51 : decode cX6_passNight 51 = .ok (.iadd, 1) := by decide +kernel
theorem dX6_passNight_52 : decode cX6_passNight 52 = .ok (.if_icmp .lt 7, 3) := by decide +kernel
theorem dX6_passNight_55 : decode cX6_passNight 55 = .ok (.iconst 1, 1) := by decide +kernel
theorem dX6_passNight_56 : decode cX6_passNight 56 = .ok (.goto 4, 3) := by decide +kernel
theorem dX6_passNight_59 : decode cX6_passNight 59 = .ok (.iconst 0, 1) := by decide +kernel
theorem dX6_passNight_60 : decode cX6_passNight 60 = .ok (.istore 5, 2) := by decide +kernel
theorem dX6_passNight_62 : decode cX6_passNight 62 = .ok (.aload_n 0, 1) := by decide +kernel
theorem dX6_passNight_63 : decode cX6_passNight 63 = .ok (.iload_n 3, 1) := by decide +kernel
theorem dX6_passNight_64 : decode cX6_passNight 64 = .ok (.dup2, 1) := by decide +kernel
theorem dX6_passNight_65 : decode cX6_passNight 65 = .ok (.iaload, 1) := by decide +kernel
theorem dX6_passNight_66 : decode cX6_passNight 66 = .ok (.iload_n 2, 1) := by decide +kernel
theorem dX6_passNight_67 : decode cX6_passNight 67 = .ok (.iload 5, 2) := by decide +kernel
theorem dX6_passNight_69 : decode cX6_passNight 69 = .ok (.isub, 1) := by decide +kernel
theorem dX6_passNight_70 : decode cX6_passNight 70 = .ok (.iadd, 1) := by decide +kernel
theorem dX6_passNight_71 : decode cX6_passNight 71 = .ok (.iastore, 1) := by decide +kernel
theorem dX6_passNight_72 : decode cX6_passNight 72 = .ok (.iload 5, 2) := by decide +kernel
theorem dX6_passNight_74 : decode cX6_passNight 74 = .ok (.istore_n 2, 1) := by decide +kernel
theorem dX6_passNight_75 : decode cX6_passNight 75 = .ok (.iinc 3 1, 3) := by decide +kernel
theorem dX6_passNight_78 : decode cX6_passNight 78 = .ok (.goto (-74), 3) := by decide +kernel
theorem dX6_passNight_81 : decode cX6_passNight 81 = .ok (.return_, 1) := by decide +kernel
theorem dX6_power_0 : decode cX6_power 0 = .ok (.lconst 1, 1) := by decide +kernel
theorem dX6_power_1 : decode cX6_power 1 = .ok (.lstore_n 2, 1) := by decide +kernel
theorem dX6_power_2 : decode cX6_power 2 = .ok (.iconst 0, 1) := by decide +kernel
theorem dX6_power_3 : decode cX6_power 3 = .ok (.istore 4, 2) := by decide +kernel
theorem dX6_power_5 : decode cX6_power 5 = .ok (.iload 4, 2) := by decide +kernel
theorem dX6_power_7 : decode cX6_power 7 = .ok (.iload_n 1, 1) := by decide +kernel
theorem dX6_power_8 : decode cX6_power 8 = .ok (.if_icmp .ge 14, 3) := by decide +kernel
theorem dX6_power_11 : decode cX6_power 11 = .ok (.lload_n 2, 1) := by decide +kernel
theorem dX6_power_12 : decode cX6_power 12 = .ok (.iload_n 0, 1) := by decide +kernel
theorem dX6_power_13 : decode cX6_power 13 = .ok (.i2l, 1) := by decide +kernel
theorem dX6_power_14 : decode cX6_power 14 = .ok (.lmul, 1) := by decide +kernel
theorem dX6_power_15 : decode cX6_power 15 = .ok (.lstore_n 2, 1) := by decide +kernel
theorem dX6_power_16 : decode cX6_power 16 = .ok (.iinc 4 1, 3) := by decide +kernel
theorem dX6_power_19 : decode cX6_power 19 = .ok (.goto (-14), 3) := by decide +kernel
theorem dX6_power_22 : decode cX6_power 22 = .ok (.lload_n 2, 1) := by decide +kernel
theorem dX6_power_23 : decode cX6_power 23 = .ok (.lreturn, 1) := by decide +kernel
theorem dX6_recognised_0 : decode cX6_recognised 0 = .ok (.aload_n 0, 1) := by decide +kernel
theorem dX6_recognised_1 : decode cX6_recognised 1 = .ok (.getfield 10, 3) := by decide +kernel
theorem dX6_recognised_4 : decode cX6_recognised 4 = .ok (.iload_n 1, 1) := by decide +kernel
theorem dX6_recognised_5 : decode cX6_recognised 5 = .ok (.invokevirtual 66, 3) := by decide +kernel
theorem dX6_recognised_8 : decode cX6_recognised 8 = .ok (.ifCond .ne 5, 3) := by decide +kernel
theorem dX6_recognised_11 : decode cX6_recognised 11 = .ok (.iconst (-1), 1) := by decide +kernel
theorem dX6_recognised_12 : decode cX6_recognised 12 = .ok (.ireturn, 1) := by decide +kernel
theorem dX6_recognised_13 : decode cX6_recognised 13 = .ok (.aload_n 0, 1) := by decide +kernel
theorem dX6_recognised_14 : decode cX6_recognised 14 = .ok (.getfield 10, 3) := by decide +kernel
theorem dX6_recognised_17 : decode cX6_recognised 17 = .ok (.iload_n 1, 1) := by decide +kernel
theorem dX6_recognised_18 : decode cX6_recognised 18 = .ok (.invokevirtual 122, 3) := by decide +kernel
theorem dX6_recognised_21 : decode cX6_recognised 21 = .ok (.ireturn, 1) := by decide +kernel
theorem dX6_restore_0 : decode cX6_restore 0 = .ok (.iload_n 1, 1) := by decide +kernel
theorem dX6_restore_1 : decode cX6_restore 1 = .ok (.iconst 0, 1) := by decide +kernel
theorem dX6_restore_2 : decode cX6_restore 2 = .ok (.iconst 1, 1) := by decide +kernel
theorem dX6_restore_3 : decode cX6_restore 3 = .ok (.invokestatic 70, 3) := by decide +kernel
theorem dX6_restore_6 : decode cX6_restore 6 = .ok (.ifCond .eq 6, 3) := by decide +kernel
theorem dX6_restore_9 : decode cX6_restore 9 = .ok (.bipush (-2), 2) := by decide +kernel
theorem dX6_restore_11 : decode cX6_restore 11 = .ok (.ireturn, 1) := by decide +kernel
theorem dX6_restore_12 : decode cX6_restore 12 = .ok (.aload_n 0, 1) := by decide +kernel
theorem dX6_restore_13 : decode cX6_restore 13 = .ok (.getfield 19, 3) := by decide +kernel
theorem dX6_restore_16 : decode cX6_restore 16 = .ok (.iload_n 1, 1) := by decide +kernel
theorem dX6_restore_17 : decode cX6_restore 17 = .ok (.aaload, 1) := by decide +kernel
theorem dX6_restore_18 : decode cX6_restore 18 = .ok (.ifnonnull 6, 3) := by decide +kernel
theorem dX6_restore_21 : decode cX6_restore 21 = .ok (.bipush (-3), 2) := by decide +kernel
theorem dX6_restore_23 : decode cX6_restore 23 = .ok (.ireturn, 1) := by decide +kernel
theorem dX6_restore_24 : decode cX6_restore 24 = .ok (.aload_n 0, 1) := by decide +kernel
theorem dX6_restore_25 : decode cX6_restore 25 = .ok (.getfield 10, 3) := by decide +kernel
theorem dX6_restore_28 : decode cX6_restore 28 = .ok (.aload_n 0, 1) := by decide +kernel
theorem dX6_restore_29 : decode cX6_restore 29 = .ok (.getfield 19, 3) := by decide +kernel
theorem dX6_restore_32 : decode cX6_restore 32 = .ok (.iload_n 1, 1) := by decide +kernel
theorem dX6_restore_33 : decode cX6_restore 33 = .ok (.aaload, 1) := by decide +kernel
theorem dX6_restore_34 : decode cX6_restore 34 = .ok (.invokevirtual 97, 3) := by decide +kernel
theorem dX6_restore_37 : decode cX6_restore 37 = .ok (.iconst 1, 1) := by decide +kernel
theorem dX6_restore_38 : decode cX6_restore 38 = .ok (.ireturn, 1) := by decide +kernel
theorem dX6_salted_0 : decode cX6_salted 0 = .ok (.iload_n 1, 1) := by decide +kernel
theorem dX6_salted_1 : decode cX6_salted 1 = .ok (.iconst 0, 1) := by decide +kernel
theorem dX6_salted_2 : decode cX6_salted 2 = .ok (.sipush 999, 3) := by decide +kernel
theorem dX6_salted_5 : decode cX6_salted 5 = .ok (.invokestatic 70, 3) := by decide +kernel
theorem dX6_salted_8 : decode cX6_salted 8 = .ok (.ifCond .eq 6, 3) := by decide +kernel
theorem dX6_salted_11 : decode cX6_salted 11 = .ok (.bipush (-2), 2) := by decide +kernel
theorem dX6_salted_13 : decode cX6_salted 13 = .ok (.ireturn, 1) := by decide +kernel
theorem dX6_salted_14 : decode cX6_salted 14 = .ok (.aload_n 0, 1) := by decide +kernel
theorem dX6_salted_15 : decode cX6_salted 15 = .ok (.getfield 40, 3) := by decide +kernel
theorem dX6_salted_18 : decode cX6_salted 18 = .ok (.aload_n 0, 1) := by decide +kernel
theorem dX6_salted_19 : decode cX6_salted 19 = .ok (.getfield 10, 3) := by decide +kernel
theorem dX6_salted_22 : decode cX6_salted 22 = .ok (.iload_n 1, 1) := by decide +kernel
theorem dX6_salted_23 : decode cX6_salted 23 = .ok (.invokevirtual 143, 3) := by decide +kernel
theorem dX6_salted_26 : decode cX6_salted 26 = .ok (.ireturn, 1) := by decide +kernel
theorem dX6_say_0 : decode cX6_say 0 = .ok (.iload_n 1, 1) := by decide +kernel
theorem dX6_say_1 : decode cX6_say 1 = .ok (.bipush 33, 2) := by decide +kernel
theorem dX6_say_3 : decode cX6_say 3 = .ok (.bipush 126, 2) := by decide +kernel
theorem dX6_say_5 : decode cX6_say 5 = .ok (.invokestatic 70, 3) := by decide +kernel
theorem dX6_say_8 : decode cX6_say 8 = .ok (.ifCond .eq 6, 3) := by decide +kernel
theorem dX6_say_11 : decode cX6_say 11 = .ok (.bipush (-2), 2) := by decide +kernel
theorem dX6_say_13 : decode cX6_say 13 = .ok (.ireturn, 1) := by decide +kernel
theorem dX6_say_14 : decode cX6_say 14 = .ok (.aload_n 0, 1) := by decide +kernel
theorem dX6_say_15 : decode cX6_say 15 = .ok (.getfield 26, 3) := by decide +kernel
theorem dX6_say_18 : decode cX6_say 18 = .ok (.getfield 87, 3) := by decide +kernel
theorem dX6_say_21 : decode cX6_say 21 = .ok (.bipush 60, 2) := by decide +kernel
theorem dX6_say_23 : decode cX6_say 23 = .ok (.if_icmp .lt 6, 3) := by decide +kernel
theorem dX6_say_26 : decode cX6_say 26 = .ok (.bipush (-4), 2) := by decide +kernel
theorem dX6_say_28 : decode cX6_say 28 = .ok (.ireturn, 1) := by decide +kernel
theorem dX6_say_29 : decode cX6_say 29 = .ok (.aload_n 0, 1) := by decide +kernel
theorem dX6_say_30 : decode cX6_say 30 = .ok (.getfield 26, 3) := by decide +kernel
theorem dX6_say_33 : decode cX6_say 33 = .ok (.getfield 90, 3) := by decide +kernel
theorem dX6_say_36 : decode cX6_say 36 = .ok (.aload_n 0, 1) := by decide +kernel
theorem dX6_say_37 : decode cX6_say 37 = .ok (.getfield 26, 3) := by decide +kernel
theorem dX6_say_40 : decode cX6_say 40 = .ok (.getfield 87, 3) := by decide +kernel
theorem dX6_say_43 : decode cX6_say 43 = .ok (.iload_n 1, 1) := by decide +kernel
theorem dX6_say_44 : decode cX6_say 44 = .ok (.iastore, 1) := by decide +kernel
theorem dX6_say_45 : decode cX6_say 45 = .ok (.aload_n 0, 1) := by decide +kernel
theorem dX6_say_46 : decode cX6_say 46 = .ok (.getfield 26, 3) := by decide +kernel
theorem dX6_say_49 : decode cX6_say 49 = .ok (.dup, 1) := by decide +kernel
theorem dX6_say_50 : decode cX6_say 50 = .ok (.getfield 87, 3) := by decide +kernel
theorem dX6_say_53 : decode cX6_say 53 = .ok (.iconst 1, 1) := by decide +kernel
theorem dX6_say_54 : decode cX6_say 54 = .ok (.iadd, 1) := by decide +kernel
theorem dX6_say_55 : decode cX6_say 55 = .ok (.putfield 87, 3) := by decide +kernel
theorem dX6_say_58 : decode cX6_say 58 = .ok (.aload_n 0, 1) := by decide +kernel
theorem dX6_say_59 : decode cX6_say 59 = .ok (.getfield 26, 3) := by decide +kernel
theorem dX6_say_62 : decode cX6_say 62 = .ok (.getfield 87, 3) := by decide +kernel
theorem dX6_say_65 : decode cX6_say 65 = .ok (.ireturn, 1) := by decide +kernel
theorem dX6_seen_0 : decode cX6_seen 0 = .ok (.aload_n 0, 1) := by decide +kernel
theorem dX6_seen_1 : decode cX6_seen 1 = .ok (.getfield 10, 3) := by decide +kernel
theorem dX6_seen_4 : decode cX6_seen 4 = .ok (.iload_n 1, 1) := by decide +kernel
theorem dX6_seen_5 : decode cX6_seen 5 = .ok (.invokevirtual 66, 3) := by decide +kernel
theorem dX6_seen_8 : decode cX6_seen 8 = .ok (.ifCond .ne 5, 3) := by decide +kernel
theorem dX6_seen_11 : decode cX6_seen 11 = .ok (.iconst (-1), 1) := by decide +kernel
theorem dX6_seen_12 : decode cX6_seen 12 = .ok (.ireturn, 1) := by decide +kernel
theorem dX6_seen_13 : decode cX6_seen 13 = .ok (.iload_n 2, 1) := by decide +kernel
theorem dX6_seen_14 : decode cX6_seen 14 = .ok (.iconst 0, 1) := by decide +kernel
theorem dX6_seen_15 : decode cX6_seen 15 = .ok (.sipush 999, 3) := by decide +kernel
theorem dX6_seen_18 : decode cX6_seen 18 = .ok (.invokestatic 70, 3) := by decide +kernel
theorem dX6_seen_21 : decode cX6_seen 21 = .ok (.ifCond .eq 6, 3) := by decide +kernel
theorem dX6_seen_24 : decode cX6_seen 24 = .ok (.bipush (-2), 2) := by decide +kernel
theorem dX6_seen_26 : decode cX6_seen 26 = .ok (.ireturn, 1) := by decide +kernel
theorem dX6_seen_27 : decode cX6_seen 27 = .ok (.aload_n 0, 1) := by decide +kernel
theorem dX6_seen_28 : decode cX6_seen 28 = .ok (.getfield 10, 3) := by decide +kernel
theorem dX6_seen_31 : decode cX6_seen 31 = .ok (.getfield 150, 3) := by decide +kernel
theorem dX6_seen_34 : decode cX6_seen 34 = .ok (.bipush 8, 2) := by decide +kernel
theorem dX6_seen_36 : decode cX6_seen 36 = .ok (.if_icmp .lt 6, 3) := by decide +kernel
theorem dX6_seen_39 : decode cX6_seen 39 = .ok (.bipush (-4), 2) := by decide +kernel
theorem dX6_seen_41 : decode cX6_seen 41 = .ok (.ireturn, 1) := by decide +kernel
theorem dX6_seen_42 : decode cX6_seen 42 = .ok (.aload_n 0, 1) := by decide +kernel
theorem dX6_seen_43 : decode cX6_seen 43 = .ok (.getfield 10, 3) := by decide +kernel
theorem dX6_seen_46 : decode cX6_seen 46 = .ok (.getfield 153, 3) := by decide +kernel
theorem dX6_seen_49 : decode cX6_seen 49 = .ok (.aload_n 0, 1) := by decide +kernel
theorem dX6_seen_50 : decode cX6_seen 50 = .ok (.getfield 10, 3) := by decide +kernel
theorem dX6_seen_53 : decode cX6_seen 53 = .ok (.getfield 150, 3) := by decide +kernel
theorem dX6_seen_56 : decode cX6_seen 56 = .ok (.iload_n 1, 1) := by decide +kernel
theorem dX6_seen_57 : decode cX6_seen 57 = .ok (.iastore, 1) := by decide +kernel
theorem dX6_seen_58 : decode cX6_seen 58 = .ok (.aload_n 0, 1) := by decide +kernel
theorem dX6_seen_59 : decode cX6_seen 59 = .ok (.getfield 10, 3) := by decide +kernel
theorem dX6_seen_62 : decode cX6_seen 62 = .ok (.getfield 156, 3) := by decide +kernel
theorem dX6_seen_65 : decode cX6_seen 65 = .ok (.aload_n 0, 1) := by decide +kernel
theorem dX6_seen_66 : decode cX6_seen 66 = .ok (.getfield 10, 3) := by decide +kernel
theorem dX6_seen_69 : decode cX6_seen 69 = .ok (.getfield 150, 3) := by decide +kernel
theorem dX6_seen_72 : decode cX6_seen 72 = .ok (.iload_n 2, 1) := by decide +kernel
theorem dX6_seen_73 : decode cX6_seen 73 = .ok (.iastore, 1) := by decide +kernel
theorem dX6_seen_74 : decode cX6_seen 74 = .ok (.aload_n 0, 1) := by decide +kernel
theorem dX6_seen_75 : decode cX6_seen 75 = .ok (.getfield 10, 3) := by decide +kernel
theorem dX6_seen_78 : decode cX6_seen 78 = .ok (.dup, 1) := by decide +kernel
theorem dX6_seen_79 : decode cX6_seen 79 = .ok (.getfield 150, 3) := by decide +kernel
theorem dX6_seen_82 : decode cX6_seen 82 = .ok (.iconst 1, 1) := by decide +kernel
theorem dX6_seen_83 : decode cX6_seen 83 = .ok (.iadd, 1) := by decide +kernel
theorem dX6_seen_84 : decode cX6_seen 84 = .ok (.putfield 150, 3) := by decide +kernel
theorem dX6_seen_87 : decode cX6_seen 87 = .ok (.aload_n 0, 1) := by decide +kernel
theorem dX6_seen_88 : decode cX6_seen 88 = .ok (.getfield 10, 3) := by decide +kernel
theorem dX6_seen_91 : decode cX6_seen 91 = .ok (.getfield 150, 3) := by decide +kernel
theorem dX6_seen_94 : decode cX6_seen 94 = .ok (.ireturn, 1) := by decide +kernel
theorem dX6_set_0 : decode cX6_set 0 = .ok (.iload_n 1, 1) := by decide +kernel
theorem dX6_set_1 : decode cX6_set 1 = .ok (.iconst 0, 1) := by decide +kernel
theorem dX6_set_2 : decode cX6_set 2 = .ok (.iconst 3, 1) := by decide +kernel
theorem dX6_set_3 : decode cX6_set 3 = .ok (.invokestatic 70, 3) := by decide +kernel
theorem dX6_set_6 : decode cX6_set 6 = .ok (.ifCond .ne 22, 3) := by decide +kernel
theorem dX6_set_9 : decode cX6_set 9 = .ok (.iload_n 2, 1) := by decide +kernel
theorem dX6_set_10 : decode cX6_set 10 = .ok (.iload_n 1, 1) := by decide +kernel
theorem dX6_set_11 : decode cX6_set 11 = .ok (.iconst 3, 1) := by decide +kernel
theorem dX6_set_12 : decode cX6_set 12 = .ok (.if_icmp .ne 7, 3) := by decide +kernel
theorem dX6_set_15 : decode cX6_set 15 = .ok (.iconst 1, 1) := by decide +kernel
theorem dX6_set_16 : decode cX6_set 16 = .ok (.goto 4, 3) := by decide +kernel
theorem dX6_set_19 : decode cX6_set 19 = .ok (.iconst 0, 1) := by decide +kernel
theorem dX6_set_20 : decode cX6_set 20 = .ok (.bipush 9, 2) := by decide +kernel
theorem dX6_set_22 : decode cX6_set 22 = .ok (.invokestatic 70, 3) := by decide +kernel
theorem dX6_set_25 : decode cX6_set 25 = .ok (.ifCond .eq 6, 3) := by decide +kernel
theorem dX6_set_28 : decode cX6_set 28 = .ok (.bipush (-2), 2) := by decide +kernel
theorem dX6_set_30 : decode cX6_set 30 = .ok (.ireturn, 1) := by decide +kernel
theorem dX6_set_31 : decode cX6_set 31 = .ok (.aload_n 0, 1) := by decide +kernel
theorem dX6_set_32 : decode cX6_set 32 = .ok (.getfield 10, 3) := by decide +kernel
theorem dX6_set_35 : decode cX6_set 35 = .ok (.getfield 84, 3) := by decide +kernel
theorem dX6_set_38 : decode cX6_set 38 = .ok (.iload_n 1, 1) := by decide +kernel
theorem dX6_set_39 : decode cX6_set 39 = .ok (.iaload, 1) := by decide +kernel
theorem dX6_set_40 : decode cX6_set 40 = .ok (.istore_n 3, 1) := by decide +kernel
theorem dX6_set_41 : decode cX6_set 41 = .ok (.aload_n 0, 1) := by decide +kernel
theorem dX6_set_42 : decode cX6_set 42 = .ok (.getfield 10, 3) := by decide +kernel
theorem dX6_set_45 : decode cX6_set 45 = .ok (.getfield 84, 3) := by decide +kernel
theorem dX6_set_48 : decode cX6_set 48 = .ok (.iload_n 1, 1) := by decide +kernel
theorem dX6_set_49 : decode cX6_set 49 = .ok (.iload_n 2, 1) := by decide +kernel
theorem dX6_set_50 : decode cX6_set 50 = .ok (.iastore, 1) := by decide +kernel
theorem dX6_set_51 : decode cX6_set 51 = .ok (.iload_n 3, 1) := by decide +kernel
theorem dX6_set_52 : decode cX6_set 52 = .ok (.ireturn, 1) := by decide +kernel
theorem dX6_slide_0 : decode cX6_slide 0 = .ok (.aload_n 0, 1) := by decide +kernel
theorem dX6_slide_1 : decode cX6_slide 1 = .ok (.getfield 10, 3) := by decide +kernel
theorem dX6_slide_4 : decode cX6_slide 4 = .ok (.iload_n 1, 1) := by decide +kernel
theorem dX6_slide_5 : decode cX6_slide 5 = .ok (.invokevirtual 66, 3) := by decide +kernel
theorem dX6_slide_8 : decode cX6_slide 8 = .ok (.ifCond .ne 5, 3) := by decide +kernel
theorem dX6_slide_11 : decode cX6_slide 11 = .ok (.iconst (-1), 1) := by decide +kernel
theorem dX6_slide_12 : decode cX6_slide 12 = .ok (.ireturn, 1) := by decide +kernel
theorem dX6_slide_13 : decode cX6_slide 13 = .ok (.iload_n 2, 1) := by decide +kernel
theorem dX6_slide_14 : decode cX6_slide 14 = .ok (.iconst 1, 1) := by decide +kernel
theorem dX6_slide_15 : decode cX6_slide 15 = .ok (.sipush 999, 3) := by decide +kernel
theorem dX6_slide_18 : decode cX6_slide 18 = .ok (.invokestatic 70, 3) := by decide +kernel
theorem dX6_slide_21 : decode cX6_slide 21 = .ok (.ifCond .ne 12, 3) := by decide +kernel
theorem dX6_slide_24 : decode cX6_slide 24 = .ok (.iload_n 3, 1) := by decide +kernel
theorem dX6_slide_25 : decode cX6_slide 25 = .ok (.iconst 0, 1) := by decide +kernel
theorem dX6_slide_26 : decode cX6_slide 26 = .ok (.iconst 1, 1) := by decide +kernel
theorem dX6_slide_27 : decode cX6_slide 27 = .ok (.invokestatic 70, 3) := by decide +kernel
theorem dX6_slide_30 : decode cX6_slide 30 = .ok (.ifCond .eq 6, 3) := by decide +kernel
theorem dX6_slide_33 : decode cX6_slide 33 = .ok (.bipush (-2), 2) := by decide +kernel
theorem dX6_slide_35 : decode cX6_slide 35 = .ok (.ireturn, 1) := by decide +kernel
theorem dX6_slide_36 : decode cX6_slide 36 = .ok (.aload_n 0, 1) := by decide +kernel
theorem dX6_slide_37 : decode cX6_slide 37 = .ok (.getfield 10, 3) := by decide +kernel
theorem dX6_slide_40 : decode cX6_slide 40 = .ok (.getfield 74, 3) := by decide +kernel
theorem dX6_slide_43 : decode cX6_slide 43 = .ok (.iload_n 1, 1) := by decide +kernel
theorem dX6_slide_44 : decode cX6_slide 44 = .ok (.iaload, 1) := by decide +kernel
theorem dX6_slide_45 : decode cX6_slide 45 = .ok (.iload_n 2, 1) := by decide +kernel
theorem dX6_slide_46 : decode cX6_slide 46 = .ok (.if_icmp .ge 6, 3) := by decide +kernel
theorem dX6_slide_49 : decode cX6_slide 49 = .ok (.bipush (-3), 2) := by decide +kernel
theorem dX6_slide_51 : decode cX6_slide 51 = .ok (.ireturn, 1) := by decide +kernel
theorem dX6_slide_52 : decode cX6_slide 52 = .ok (.aload_n 0, 1) := by decide +kernel
theorem dX6_slide_53 : decode cX6_slide 53 = .ok (.getfield 10, 3) := by decide +kernel
theorem dX6_slide_56 : decode cX6_slide 56 = .ok (.getfield 74, 3) := by decide +kernel
theorem dX6_slide_59 : decode cX6_slide 59 = .ok (.iload_n 1, 1) := by decide +kernel
theorem dX6_slide_60 : decode cX6_slide 60 = .ok (.iaload, 1) := by decide +kernel
theorem dX6_slide_61 : decode cX6_slide 61 = .ok (.istore 4, 2) := by decide +kernel
theorem dX6_slide_63 : decode cX6_slide 63 = .ok (.iload_n 1, 1) := by decide +kernel
theorem dX6_slide_64 : decode cX6_slide 64 = .ok (.iconst 1, 1) := by decide +kernel
theorem dX6_slide_65 : decode cX6_slide 65 = .ok (.iadd, 1) := by decide +kernel
theorem dX6_slide_66 : decode cX6_slide 66 = .ok (.istore 5, 2) := by decide +kernel
theorem dX6_slide_68 : decode cX6_slide 68 = .ok (.iload 5, 2) := by decide +kernel
theorem dX6_slide_70 : decode cX6_slide 70 = .ok (.aload_n 0, 1) := by decide +kernel
theorem dX6_slide_71 : decode cX6_slide 71 = .ok (.getfield 10, 3) := by decide +kernel
theorem dX6_slide_74 : decode cX6_slide 74 = .ok (.getfield 58, 3) := by decide +kernel
theorem dX6_slide_77 : decode cX6_slide 77 = .ok (.if_icmp .ge 45, 3) := by decide +kernel
theorem dX6_slide_80 : decode cX6_slide 80 = .ok (.iload 5, 2) := by decide +kernel
theorem dX6_slide_82 : decode cX6_slide 82 = .ok (.bipush 8, 2) := by decide +kernel
theorem dX6_slide_84 : decode cX6_slide 84 = .ok (.if_icmp .ge 38, 3) := by decide +kernel
theorem dX6_slide_87 : decode cX6_slide 87 = .ok (.aload_n 0, 1) := by decide +kernel
theorem dX6_slide_88 : decode cX6_slide 88 = .ok (.getfield 10, 3) := by decide +kernel
theorem dX6_slide_91 : decode cX6_slide 91 = .ok (.getfield 74, 3) := by decide +kernel
theorem dX6_slide_94 : decode cX6_slide 94 = .ok (.iload 5, 2) := by decide +kernel
theorem dX6_slide_96 : decode cX6_slide 96 = .ok (.iaload, 1) := by decide +kernel
theorem dX6_slide_97 : decode cX6_slide 97 = .ok (.iload_n 2, 1) := by decide +kernel
theorem dX6_slide_98 : decode cX6_slide 98 = .ok (.if_icmp .lt 24, 3) := by decide +kernel
theorem dX6_slide_101 : decode cX6_slide 101 = .ok (.iload 4, 2) := by decide +kernel
theorem dX6_slide_103 : decode cX6_slide 103 = .ok (.aload_n 0, 1) := by decide +kernel
theorem dX6_slide_104 : decode cX6_slide 104 = .ok (.getfield 10, 3) := by decide +kernel
theorem dX6_slide_107 : decode cX6_slide 107 = .ok (.getfield 74, 3) := by decide +kernel
theorem dX6_slide_110 : decode cX6_slide 110 = .ok (.iload 5, 2) := by decide +kernel
theorem dX6_slide_112 : decode cX6_slide 112 = .ok (.iaload, 1) := by decide +kernel
theorem dX6_slide_113 : decode cX6_slide 113 = .ok (.iadd, 1) := by decide +kernel
theorem dX6_slide_114 : decode cX6_slide 114 = .ok (.istore 4, 2) := by decide +kernel
theorem dX6_slide_116 : decode cX6_slide 116 = .ok (.iinc 5 1, 3) := by decide +kernel
theorem dX6_slide_119 : decode cX6_slide 119 = .ok (.goto (-51), 3) := by decide +kernel
theorem dX6_slide_122 : decode cX6_slide 122 = .ok (.iload_n 3, 1) := by decide +kernel
theorem dX6_slide_123 : decode cX6_slide 123 = .ok (.iconst 1, 1) := by decide +kernel
theorem dX6_slide_124 : decode cX6_slide 124 = .ok (.if_icmp .ne 6, 3) := by decide +kernel
theorem dX6_slide_127 : decode cX6_slide 127 = .ok (.iload 4, 2) := by decide +kernel
theorem dX6_slide_129 : decode cX6_slide 129 = .ok (.ireturn, 1) := by decide +kernel
theorem dX6_slide_130 : decode cX6_slide 130 = .ok (.aload_n 0, 1) := by decide +kernel
theorem dX6_slide_131 : decode cX6_slide 131 = .ok (.getfield 10, 3) := by decide +kernel
theorem dX6_slide_134 : decode cX6_slide 134 = .ok (.iload 5, 2) := by decide +kernel
theorem dX6_slide_136 : decode cX6_slide 136 = .ok (.invokevirtual 66, 3) := by decide +kernel
theorem dX6_slide_139 : decode cX6_slide 139 = .ok (.ifCond .eq 8, 3) := by decide +kernel
theorem dX6_slide_142 : decode cX6_slide 142 = .ok (.iload 5, 2) := by decide +kernel
theorem dX6_slide_144 : decode cX6_slide 144 = .ok (.goto 5, 3) := by decide +kernel
theorem dX6_slide_147 : decode cX6_slide 147 = .ok (.bipush (-6), 2) := by decide +kernel
theorem dX6_slide_149 : decode cX6_slide 149 = .ok (.ireturn, 1) := by decide +kernel
theorem dX6_state_0 : decode cX6_state 0 = .ok (.aload_n 0, 1) := by decide +kernel
theorem dX6_state_1 : decode cX6_state 1 = .ok (.getfield 10, 3) := by decide +kernel
theorem dX6_state_4 : decode cX6_state 4 = .ok (.iload_n 1, 1) := by decide +kernel
theorem dX6_state_5 : decode cX6_state 5 = .ok (.invokevirtual 66, 3) := by decide +kernel
theorem dX6_state_8 : decode cX6_state 8 = .ok (.ifCond .ne 5, 3) := by decide +kernel
theorem dX6_state_11 : decode cX6_state 11 = .ok (.iconst (-1), 1) := by decide +kernel
theorem dX6_state_12 : decode cX6_state 12 = .ok (.ireturn, 1) := by decide +kernel
theorem dX6_state_13 : decode cX6_state 13 = .ok (.iload_n 2, 1) := by decide +kernel
theorem dX6_state_14 : decode cX6_state 14 = .ok (.iconst 0, 1) := by decide +kernel
theorem dX6_state_15 : decode cX6_state 15 = .ok (.iconst 1, 1) := by decide +kernel
theorem dX6_state_16 : decode cX6_state 16 = .ok (.invokestatic 70, 3) := by decide +kernel
theorem dX6_state_19 : decode cX6_state 19 = .ok (.ifCond .eq 6, 3) := by decide +kernel
theorem dX6_state_22 : decode cX6_state 22 = .ok (.bipush (-2), 2) := by decide +kernel
theorem dX6_state_24 : decode cX6_state 24 = .ok (.ireturn, 1) := by decide +kernel
theorem dX6_state_25 : decode cX6_state 25 = .ok (.aload_n 0, 1) := by decide +kernel
theorem dX6_state_26 : decode cX6_state 26 = .ok (.getfield 10, 3) := by decide +kernel
theorem dX6_state_29 : decode cX6_state 29 = .ok (.iload_n 1, 1) := by decide +kernel
theorem dX6_state_30 : decode cX6_state 30 = .ok (.iload_n 2, 1) := by decide +kernel
theorem dX6_state_31 : decode cX6_state 31 = .ok (.invokevirtual 115, 3) := by decide +kernel
theorem dX6_state_34 : decode cX6_state 34 = .ok (.ireturn, 1) := by decide +kernel
theorem dX6_talkCanBe_0 : decode cX6_talkCanBe 0 = .ok (.aload_n 0, 1) := by decide +kernel
theorem dX6_talkCanBe_1 : decode cX6_talkCanBe 1 = .ok (.getfield 26, 3) := by decide +kernel
theorem dX6_talkCanBe_4 : decode cX6_talkCanBe 4 = .ok (.aload_n 0, 1) := by decide +kernel
theorem dX6_talkCanBe_5 : decode cX6_talkCanBe 5 = .ok (.getfield 10, 3) := by decide +kernel
theorem dX6_talkCanBe_8 : decode cX6_talkCanBe 8 = .ok (.getfield 58, 3) := by decide +kernel
theorem dX6_talkCanBe_11 : decode cX6_talkCanBe 11 = .ok (.invokevirtual 93, 3) := by decide +kernel
theorem dX6_talkCanBe_14 : decode cX6_talkCanBe 14 = .ok (.bipush (-6), 2) := by decide +kernel
theorem dX6_talkCanBe_16 : decode cX6_talkCanBe 16 = .ok (.if_icmp .eq 5, 3) := by decide +kernel
theorem dX6_talkCanBe_19 : decode cX6_talkCanBe 19 = .ok (.iconst 0, 1) := by decide +kernel
theorem dX6_talkCanBe_20 : decode cX6_talkCanBe 20 = .ok (.ireturn, 1) := by decide +kernel
theorem dX6_talkCanBe_21 : decode cX6_talkCanBe 21 = .ok (.aload_n 0, 1) := by decide +kernel
theorem dX6_talkCanBe_22 : decode cX6_talkCanBe 22 = .ok (.getfield 16, 3) := by decide +kernel
theorem dX6_talkCanBe_25 : decode cX6_talkCanBe 25 = .ok (.aload_n 0, 1) := by decide +kernel
theorem dX6_talkCanBe_26 : decode cX6_talkCanBe 26 = .ok (.getfield 10, 3) := by decide +kernel
theorem dX6_talkCanBe_29 : decode cX6_talkCanBe 29 = .ok (.invokevirtual 97, 3) := by decide +kernel
theorem dX6_talkCanBe_32 : decode cX6_talkCanBe 32 = .ok (.aload_n 0, 1) := by decide +kernel
theorem dX6_talkCanBe_33 : decode cX6_talkCanBe 33 = .ok (.getfield 26, 3) := by decide +kernel
theorem dX6_talkCanBe_36 : decode cX6_talkCanBe 36 = .ok (.aload_n 0, 1) := by decide +kernel
theorem dX6_talkCanBe_37 : decode cX6_talkCanBe 37 = .ok (.getfield 16, 3) := by decide +kernel
theorem dX6_talkCanBe_40 : decode cX6_talkCanBe 40 = .ok (.invokevirtual 101, 3) := by decide +kernel
theorem dX6_talkCanBe_43 : decode cX6_talkCanBe 43 = .ok (.bipush (-6), 2) := by decide +kernel
theorem dX6_talkCanBe_45 : decode cX6_talkCanBe 45 = .ok (.if_icmp .ne 7, 3) := by decide +kernel
theorem dX6_talkCanBe_48 : decode cX6_talkCanBe 48 = .ok (.iconst 1, 1) := by decide +kernel
theorem dX6_talkCanBe_49 : decode cX6_talkCanBe 49 = .ok (.goto 4, 3) := by decide +kernel
theorem dX6_talkCanBe_52 : decode cX6_talkCanBe 52 = .ok (.iconst 0, 1) := by decide +kernel
theorem dX6_talkCanBe_53 : decode cX6_talkCanBe 53 = .ok (.ireturn, 1) := by decide +kernel
theorem dX6_told_0 : decode cX6_told 0 = .ok (.aload_n 0, 1) := by decide +kernel
theorem dX6_told_1 : decode cX6_told 1 = .ok (.getfield 10, 3) := by decide +kernel
theorem dX6_told_4 : decode cX6_told 4 = .ok (.iload_n 1, 1) := by decide +kernel
theorem dX6_told_5 : decode cX6_told 5 = .ok (.bipush 10, 2) := by decide +kernel
theorem dX6_told_7 : decode cX6_told 7 = .ok (.isub, 1) := by decide +kernel
theorem dX6_told_8 : decode cX6_told 8 = .ok (.invokevirtual 66, 3) := by decide +kernel
theorem dX6_told_11 : decode cX6_told 11 = .ok (.ifCond .eq 16, 3) := by decide +kernel
theorem dX6_told_14 : decode cX6_told 14 = .ok (.aload_n 0, 1) := by decide +kernel
theorem dX6_told_15 : decode cX6_told 15 = .ok (.getfield 10, 3) := by decide +kernel
theorem dX6_told_18 : decode cX6_told 18 = .ok (.getfield 78, 3) := by decide +kernel
theorem dX6_told_21 : decode cX6_told 21 = .ok (.iload_n 1, 1) := by decide +kernel
theorem dX6_told_22 : decode cX6_told 22 = .ok (.bipush 10, 2) := by decide +kernel
theorem dX6_told_24 : decode cX6_told 24 = .ok (.isub, 1) := by decide +kernel
theorem dX6_told_25 : decode cX6_told 25 = .ok (.iaload, 1) := by decide +kernel
theorem dX6_told_26 : decode cX6_told 26 = .ok (.ireturn, 1) := by decide +kernel
theorem dX6_told_27 : decode cX6_told 27 = .ok (.iload_n 1, 1) := by decide +kernel
theorem dX6_told_28 : decode cX6_told 28 = .ok (.tableswitch 92 0 7 #[48, 56, 64, 72, 72, 72, 72, 84], 48) := by decide +kernel
theorem dX6_told_76 : decode cX6_told 76 = .ok (.aload_n 0, 1) := by decide +kernel
theorem dX6_told_77 : decode cX6_told 77 = .ok (.getfield 26, 3) := by decide +kernel
theorem dX6_told_80 : decode cX6_told 80 = .ok (.getfield 87, 3) := by decide +kernel
theorem dX6_told_83 : decode cX6_told 83 = .ok (.ireturn, 1) := by decide +kernel
theorem dX6_told_84 : decode cX6_told 84 = .ok (.aload_n 0, 1) := by decide +kernel
theorem dX6_told_85 : decode cX6_told 85 = .ok (.getfield 10, 3) := by decide +kernel
theorem dX6_told_88 : decode cX6_told 88 = .ok (.getfield 58, 3) := by decide +kernel
theorem dX6_told_91 : decode cX6_told 91 = .ok (.ireturn, 1) := by decide +kernel
theorem dX6_told_92 : decode cX6_told 92 = .ok (.aload_n 0, 1) := by decide +kernel
theorem dX6_told_93 : decode cX6_told 93 = .ok (.getfield 10, 3) := by decide +kernel
theorem dX6_told_96 : decode cX6_told 96 = .ok (.getfield 216, 3) := by decide +kernel
theorem dX6_told_99 : decode cX6_told 99 = .ok (.ireturn, 1) := by decide +kernel
theorem dX6_told_100 : decode cX6_told 100 = .ok (.aload_n 0, 1) := by decide +kernel
theorem dX6_told_101 : decode cX6_told 101 = .ok (.getfield 10, 3) := by decide +kernel
theorem dX6_told_104 : decode cX6_told 104 = .ok (.getfield 84, 3) := by decide +kernel
theorem dX6_told_107 : decode cX6_told 107 = .ok (.iload_n 1, 1) := by decide +kernel
theorem dX6_told_108 : decode cX6_told 108 = .ok (.iconst 3, 1) := by decide +kernel
theorem dX6_told_109 : decode cX6_told 109 = .ok (.isub, 1) := by decide +kernel
theorem dX6_told_110 : decode cX6_told 110 = .ok (.iaload, 1) := by decide +kernel
theorem dX6_told_111 : decode cX6_told 111 = .ok (.ireturn, 1) := by decide +kernel
theorem dX6_told_112 : decode cX6_told 112 = .ok (.aload_n 0, 1) := by decide +kernel
theorem dX6_told_113 : decode cX6_told 113 = .ok (.getfield 10, 3) := by decide +kernel
theorem dX6_told_116 : decode cX6_told 116 = .ok (.getfield 150, 3) := by decide +kernel
theorem dX6_told_119 : decode cX6_told 119 = .ok (.ireturn, 1) := by decide +kernel
theorem dX6_told_120 : decode cX6_told 120 = .ok (.bipush (-2), 2) := by decide +kernel
theorem dX6_told_122 : decode cX6_told 122 = .ok (.ireturn, 1) := by decide +kernel
theorem dX6_where_0 : decode cX6_where 0 = .ok (.aload_n 0, 1) := by decide +kernel
theorem dX6_where_1 : decode cX6_where 1 = .ok (.getfield 26, 3) := by decide +kernel
theorem dX6_where_4 : decode cX6_where 4 = .ok (.aload_n 0, 1) := by decide +kernel
theorem dX6_where_5 : decode cX6_where 5 = .ok (.getfield 10, 3) := by decide +kernel
theorem dX6_where_8 : decode cX6_where 8 = .ok (.getfield 58, 3) := by decide +kernel
theorem dX6_where_11 : decode cX6_where 11 = .ok (.invokevirtual 93, 3) := by decide +kernel
theorem dX6_where_14 : decode cX6_where 14 = .ok (.bipush (-6), 2) := by decide +kernel
theorem dX6_where_16 : decode cX6_where 16 = .ok (.if_icmp .ne 13, 3) := by decide +kernel
theorem dX6_where_19 : decode cX6_where 19 = .ok (.aload_n 0, 1) := by decide +kernel
theorem dX6_where_20 : decode cX6_where 20 = .ok (.getfield 26, 3) := by decide +kernel
theorem dX6_where_23 : decode cX6_where 23 = .ok (.invokevirtual 125, 3) := by decide +kernel
theorem dX6_where_26 : decode cX6_where 26 = .ok (.ifCond .ne 6, 3) := by decide +kernel
theorem dX6_where_29 : decode cX6_where 29 = .ok (.bipush (-5), 2) := by decide +kernel
theorem dX6_where_31 : decode cX6_where 31 = .ok (.ireturn, 1) := by decide +kernel
theorem dX6_where_32 : decode cX6_where 32 = .ok (.aload_n 0, 1) := by decide +kernel
theorem dX6_where_33 : decode cX6_where 33 = .ok (.getfield 26, 3) := by decide +kernel
theorem dX6_where_36 : decode cX6_where 36 = .ok (.getfield 112, 3) := by decide +kernel
theorem dX6_where_39 : decode cX6_where 39 = .ok (.iconst 4, 1) := by decide +kernel
theorem dX6_where_40 : decode cX6_where 40 = .ok (.if_icmp .le 6, 3) := by decide +kernel
theorem dX6_where_43 : decode cX6_where 43 = .ok (.bipush (-4), 2) := by decide +kernel
theorem dX6_where_45 : decode cX6_where 45 = .ok (.ireturn, 1) := by decide +kernel
theorem dX6_where_46 : decode cX6_where 46 = .ok (.aload_n 0, 1) := by decide +kernel
theorem dX6_where_47 : decode cX6_where 47 = .ok (.getfield 16, 3) := by decide +kernel
theorem dX6_where_50 : decode cX6_where 50 = .ok (.aload_n 0, 1) := by decide +kernel
theorem dX6_where_51 : decode cX6_where 51 = .ok (.getfield 10, 3) := by decide +kernel
theorem dX6_where_54 : decode cX6_where 54 = .ok (.invokevirtual 97, 3) := by decide +kernel
theorem dX6_where_57 : decode cX6_where 57 = .ok (.aload_n 0, 1) := by decide +kernel
theorem dX6_where_58 : decode cX6_where 58 = .ok (.getfield 33, 3) := by decide +kernel
theorem dX6_where_61 : decode cX6_where 61 = .ok (.aload_n 0, 1) := by decide +kernel
theorem dX6_where_62 : decode cX6_where 62 = .ok (.getfield 16, 3) := by decide +kernel
theorem dX6_where_65 : decode cX6_where 65 = .ok (.aload_n 0, 1) := by decide +kernel
theorem dX6_where_66 : decode cX6_where 66 = .ok (.getfield 26, 3) := by decide +kernel
theorem dX6_where_69 : decode cX6_where 69 = .ok (.invokevirtual 128, 3) := by decide +kernel
theorem dX6_where_72 : decode cX6_where 72 = .ok (.iload_n 1, 1) := by decide +kernel
theorem dX6_where_73 : decode cX6_where 73 = .ok (.iconst (-1), 1) := by decide +kernel
theorem dX6_where_74 : decode cX6_where 74 = .ok (.if_icmp .ne 11, 3) := by decide +kernel
theorem dX6_where_77 : decode cX6_where 77 = .ok (.aload_n 0, 1) := by decide +kernel
theorem dX6_where_78 : decode cX6_where 78 = .ok (.getfield 33, 3) := by decide +kernel
theorem dX6_where_81 : decode cX6_where 81 = .ok (.getfield 132, 3) := by decide +kernel
theorem dX6_where_84 : decode cX6_where 84 = .ok (.ireturn, 1) := by decide +kernel
theorem dX6_where_85 : decode cX6_where 85 = .ok (.iload_n 1, 1) := by decide +kernel
theorem dX6_where_86 : decode cX6_where 86 = .ok (.ifCond .lt 26, 3) := by decide +kernel
theorem dX6_where_89 : decode cX6_where 89 = .ok (.iload_n 1, 1) := by decide +kernel
theorem dX6_where_90 : decode cX6_where 90 = .ok (.aload_n 0, 1) := by decide +kernel
theorem dX6_where_91 : decode cX6_where 91 = .ok (.getfield 26, 3) := by decide +kernel
theorem dX6_where_94 : decode cX6_where 94 = .ok (.getfield 112, 3) := by decide +kernel
theorem dX6_where_97 : decode cX6_where 97 = .ok (.if_icmp .ge 15, 3) := by decide +kernel
theorem dX6_where_100 : decode cX6_where 100 = .ok (.aload_n 0, 1) := by decide +kernel
theorem dX6_where_101 : decode cX6_where 101 = .ok (.getfield 33, 3) := by decide +kernel
theorem dX6_where_104 : decode cX6_where 104 = .ok (.getfield 135, 3) := by decide +kernel
theorem dX6_where_107 : decode cX6_where 107 = .ok (.iload_n 1, 1) := by decide +kernel
theorem dX6_where_108 : decode cX6_where 108 = .ok (.iaload, 1) := by decide +kernel
theorem dX6_where_109 : decode cX6_where 109 = .ok (.goto 5, 3) := by decide +kernel
theorem dX6_where_112 : decode cX6_where 112 = .ok (.bipush (-6), 2) := by decide +kernel
theorem dX6_where_114 : decode cX6_where 114 = .ok (.ireturn, 1) := by decide +kernel
theorem dX6_who_0 : decode cX6_who 0 = .ok (.iload_n 1, 1) := by decide +kernel
theorem dX6_who_1 : decode cX6_who 1 = .ok (.iconst 0, 1) := by decide +kernel
theorem dX6_who_2 : decode cX6_who 2 = .ok (.iconst 3, 1) := by decide +kernel
theorem dX6_who_3 : decode cX6_who 3 = .ok (.invokestatic 70, 3) := by decide +kernel
theorem dX6_who_6 : decode cX6_who 6 = .ok (.ifCond .ne 12, 3) := by decide +kernel
theorem dX6_who_9 : decode cX6_who 9 = .ok (.iload_n 2, 1) := by decide +kernel
theorem dX6_who_10 : decode cX6_who 10 = .ok (.iconst 0, 1) := by decide +kernel
theorem dX6_who_11 : decode cX6_who 11 = .ok (.iconst 2, 1) := by decide +kernel
theorem dX6_who_12 : decode cX6_who 12 = .ok (.invokestatic 70, 3) := by decide +kernel
theorem dX6_who_15 : decode cX6_who 15 = .ok (.ifCond .eq 6, 3) := by decide +kernel
theorem dX6_who_18 : decode cX6_who 18 = .ok (.bipush (-2), 2) := by decide +kernel
theorem dX6_who_20 : decode cX6_who 20 = .ok (.ireturn, 1) := by decide +kernel
theorem dX6_who_21 : decode cX6_who 21 = .ok (.aload_n 0, 1) := by decide +kernel
theorem dX6_who_22 : decode cX6_who 22 = .ok (.getfield 47, 3) := by decide +kernel
theorem dX6_who_25 : decode cX6_who 25 = .ok (.aload_n 0, 1) := by decide +kernel
theorem dX6_who_26 : decode cX6_who 26 = .ok (.getfield 10, 3) := by decide +kernel
theorem dX6_who_29 : decode cX6_who 29 = .ok (.iload_n 1, 1) := by decide +kernel
theorem dX6_who_30 : decode cX6_who 30 = .ok (.invokevirtual 159, 3) := by decide +kernel
theorem dX6_who_33 : decode cX6_who 33 = .ok (.iload_n 2, 1) := by decide +kernel
theorem dX6_who_34 : decode cX6_who 34 = .ok (.ifCond .ne 11, 3) := by decide +kernel
theorem dX6_who_37 : decode cX6_who 37 = .ok (.aload_n 0, 1) := by decide +kernel
theorem dX6_who_38 : decode cX6_who 38 = .ok (.getfield 47, 3) := by decide +kernel
theorem dX6_who_41 : decode cX6_who 41 = .ok (.getfield 163, 3) := by decide +kernel
theorem dX6_who_44 : decode cX6_who 44 = .ok (.ireturn, 1) := by decide +kernel
theorem dX6_who_45 : decode cX6_who 45 = .ok (.iload_n 2, 1) := by decide +kernel
theorem dX6_who_46 : decode cX6_who 46 = .ok (.iconst 1, 1) := by decide +kernel
theorem dX6_who_47 : decode cX6_who 47 = .ok (.if_icmp .ne 13, 3) := by decide +kernel
theorem dX6_who_50 : decode cX6_who 50 = .ok (.aload_n 0, 1) := by decide +kernel
theorem dX6_who_51 : decode cX6_who 51 = .ok (.getfield 47, 3) := by decide +kernel
theorem dX6_who_54 : decode cX6_who 54 = .ok (.getfield 166, 3) := by decide +kernel
theorem dX6_who_57 : decode cX6_who 57 = .ok (.goto 10, 3) := by decide +kernel
theorem dX6_who_60 : decode cX6_who 60 = .ok (.aload_n 0, 1) := by decide +kernel
theorem dX6_who_61 : decode cX6_who 61 = .ok (.getfield 47, 3) := by decide +kernel
theorem dX6_who_64 : decode cX6_who 64 = .ok (.getfield 169, 3) := by decide +kernel
theorem dX6_who_67 : decode cX6_who 67 = .ok (.ireturn, 1) := by decide +kernel
theorem dX6_winter_0 : decode cX6_winter 0 = .ok (.iload_n 1, 1) := by decide +kernel
theorem dX6_winter_1 : decode cX6_winter 1 = .ok (.iconst 0, 1) := by decide +kernel
theorem dX6_winter_2 : decode cX6_winter 2 = .ok (.sipush 9999, 3) := by decide +kernel
theorem dX6_winter_5 : decode cX6_winter 5 = .ok (.invokestatic 70, 3) := by decide +kernel
theorem dX6_winter_8 : decode cX6_winter 8 = .ok (.ifCond .ne 22, 3) := by decide +kernel
theorem dX6_winter_11 : decode cX6_winter 11 = .ok (.iload_n 2, 1) := by decide +kernel
theorem dX6_winter_12 : decode cX6_winter 12 = .ok (.iconst 1, 1) := by decide +kernel
theorem dX6_winter_13 : decode cX6_winter 13 = .ok (.bipush 99, 2) := by decide +kernel
theorem dX6_winter_15 : decode cX6_winter 15 = .ok (.invokestatic 70, 3) := by decide +kernel
theorem dX6_winter_18 : decode cX6_winter 18 = .ok (.ifCond .ne 12, 3) := by decide +kernel
theorem dX6_winter_21 : decode cX6_winter 21 = .ok (.iload_n 3, 1) := by decide +kernel
theorem dX6_winter_22 : decode cX6_winter 22 = .ok (.iconst 0, 1) := by decide +kernel
theorem dX6_winter_23 : decode cX6_winter 23 = .ok (.iconst 2, 1) := by decide +kernel
theorem dX6_winter_24 : decode cX6_winter 24 = .ok (.invokestatic 70, 3) := by decide +kernel
theorem dX6_winter_27 : decode cX6_winter 27 = .ok (.ifCond .eq 6, 3) := by decide +kernel
theorem dX6_winter_30 : decode cX6_winter 30 = .ok (.bipush (-2), 2) := by decide +kernel
theorem dX6_winter_32 : decode cX6_winter 32 = .ok (.ireturn, 1) := by decide +kernel
theorem dX6_winter_33 : decode cX6_winter 33 = .ok (.aload_n 0, 1) := by decide +kernel
theorem dX6_winter_34 : decode cX6_winter 34 = .ok (.getfield 16, 3) := by decide +kernel
theorem dX6_winter_37 : decode cX6_winter 37 = .ok (.aload_n 0, 1) := by decide +kernel
theorem dX6_winter_38 : decode cX6_winter 38 = .ok (.getfield 10, 3) := by decide +kernel
theorem dX6_winter_41 : decode cX6_winter 41 = .ok (.invokevirtual 97, 3) := by decide +kernel
theorem dX6_winter_44 : decode cX6_winter 44 = .ok (.iload_n 1, 1) := by decide +kernel
theorem dX6_winter_45 : decode cX6_winter 45 = .ok (.istore 4, 2) := by decide +kernel
theorem dX6_winter_47 : decode cX6_winter 47 = .ok (.iconst 0, 1) := by decide +kernel
theorem dX6_winter_48 : decode cX6_winter 48 = .ok (.istore 5, 2) := by decide +kernel
theorem dX6_winter_50 : decode cX6_winter 50 = .ok (.iload 5, 2) := by decide +kernel
theorem dX6_winter_52 : decode cX6_winter 52 = .ok (.iload_n 2, 1) := by decide +kernel
theorem dX6_winter_53 : decode cX6_winter 53 = .ok (.if_icmp .ge 31, 3) := by decide +kernel
theorem dX6_winter_56 : decode cX6_winter 56 = .ok (.bipush 75, 2) := by decide +kernel
theorem dX6_winter_58 : decode cX6_winter 58 = .ok (.iload 4, 2) := by decide +kernel
theorem dX6_winter_60 : decode cX6_winter 60 = .ok (.imul, 1) := by decide +kernel
theorem dX6_winter_61 : decode cX6_winter 61 = .ok (.bipush 74, 2) := by decide +kernel
theorem dX6_winter_63 : decode cX6_winter 63 = .ok (.iadd, 1) := by decide +kernel
theorem dX6_winter_64 : decode cX6_winter 64 = .ok (.ldc 208, 2) := by decide +kernel
theorem dX6_winter_66 : decode cX6_winter 66 = .ok (.irem, 1) := by decide +kernel
theorem dX6_winter_67 : decode cX6_winter 67 = .ok (.istore 4, 2) := by decide +kernel
theorem dX6_winter_69 : decode cX6_winter 69 = .ok (.aload_n 0, 1) := by decide +kernel
theorem dX6_winter_70 : decode cX6_winter 70 = .ok (.getfield 16, 3) := by decide +kernel
theorem dX6_winter_73 : decode cX6_winter 73 = .ok (.iload 4, 2) := by decide +kernel
theorem dX6_winter_75 : decode cX6_winter 75 = .ok (.invokevirtual 209, 3) := by decide +kernel
theorem dX6_winter_78 : decode cX6_winter 78 = .ok (.iinc 5 1, 3) := by decide +kernel
theorem dX6_winter_81 : decode cX6_winter 81 = .ok (.goto (-31), 3) := by decide +kernel
theorem dX6_winter_84 : decode cX6_winter 84 = .ok (.iload_n 3, 1) := by decide +kernel
theorem dX6_winter_85 : decode cX6_winter 85 = .ok (.ifCond .ne 11, 3) := by decide +kernel
theorem dX6_winter_88 : decode cX6_winter 88 = .ok (.aload_n 0, 1) := by decide +kernel
theorem dX6_winter_89 : decode cX6_winter 89 = .ok (.getfield 16, 3) := by decide +kernel
theorem dX6_winter_92 : decode cX6_winter 92 = .ok (.invokevirtual 212, 3) := by decide +kernel
theorem dX6_winter_95 : decode cX6_winter 95 = .ok (.ireturn, 1) := by decide +kernel
theorem dX6_winter_96 : decode cX6_winter 96 = .ok (.iload_n 3, 1) := by decide +kernel
theorem dX6_winter_97 : decode cX6_winter 97 = .ok (.iconst 1, 1) := by decide +kernel
theorem dX6_winter_98 : decode cX6_winter 98 = .ok (.if_icmp .ne 13, 3) := by decide +kernel
theorem dX6_winter_101 : decode cX6_winter 101 = .ok (.aload_n 0, 1) := by decide +kernel
theorem dX6_winter_102 : decode cX6_winter 102 = .ok (.getfield 16, 3) := by decide +kernel
theorem dX6_winter_105 : decode cX6_winter 105 = .ok (.getfield 81, 3) := by decide +kernel
theorem dX6_winter_108 : decode cX6_winter 108 = .ok (.goto 10, 3) := by decide +kernel
theorem dX6_winter_111 : decode cX6_winter 111 = .ok (.aload_n 0, 1) := by decide +kernel
theorem dX6_winter_112 : decode cX6_winter 112 = .ok (.getfield 16, 3) := by decide +kernel
theorem dX6_winter_115 : decode cX6_winter 115 = .ok (.getfield 216, 3) := by decide +kernel
theorem dX6_winter_118 : decode cX6_winter 118 = .ok (.ireturn, 1) := by decide +kernel
theorem dX6_wipe_0 : decode cX6_wipe 0 = .ok (.aload_n 0, 1) := by decide +kernel
theorem dX6_wipe_1 : decode cX6_wipe 1 = .ok (.getfield 26, 3) := by decide +kernel
theorem dX6_wipe_4 : decode cX6_wipe 4 = .ok (.getfield 87, 3) := by decide +kernel
theorem dX6_wipe_7 : decode cX6_wipe 7 = .ok (.istore_n 1, 1) := by decide +kernel
theorem dX6_wipe_8 : decode cX6_wipe 8 = .ok (.aload_n 0, 1) := by decide +kernel
theorem dX6_wipe_9 : decode cX6_wipe 9 = .ok (.getfield 26, 3) := by decide +kernel
theorem dX6_wipe_12 : decode cX6_wipe 12 = .ok (.iconst 0, 1) := by decide +kernel
theorem dX6_wipe_13 : decode cX6_wipe 13 = .ok (.putfield 87, 3) := by decide +kernel
theorem dX6_wipe_16 : decode cX6_wipe 16 = .ok (.iload_n 1, 1) := by decide +kernel
theorem dX6_wipe_17 : decode cX6_wipe 17 = .ok (.ireturn, 1) := by decide +kernel
