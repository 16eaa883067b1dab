theorem dX7_judge_0 : decode cX7_judge 0 = .ok (.iload_n 1, 1) := by decide +kernel
theorem dX7_judge_1 : decode cX7_judge 1 = .ok (.iconst 0, 1) := by decide +kernel
theorem dX7_judge_2 : decode cX7_judge 2 = .ok (.iconst 1, 1) := by decide +kernel
theorem dX7_judge_3 : decode cX7_judge 3 = .ok (.invokestatic 91, 3) := by decide +kernel
theorem dX7_judge_6 : decode cX7_judge 6 = .ok (.ifCond .ne 6, 3) := by decide +kernel
theorem dX7_judge_9 : decode cX7_judge 9 = .ok (.bipush (-2), 2) := by decide +kernel
theorem dX7_judge_11 : decode cX7_judge 11 = .ok (.ireturn, 1) := by decide +kernel
theorem dX7_judge_12 : decode cX7_judge 12 = .ok (.aload_n 0, 1) := by decide +kernel
theorem dX7_judge_13 : decode cX7_judge 13 = .ok (.invokevirtual 102, 3) := by decide +kernel
theorem dX7_judge_16 : decode cX7_judge 16 = .ok (.ifCond .lt 6, 3) := by decide +kernel
theorem dX7_judge_19 : decode cX7_judge 19 = .ok (.bipush (-5), 2) := by decide +kernel
theorem dX7_judge_21 : decode cX7_judge 21 = .ok (.ireturn, 1) := by decide +kernel
theorem dX7_judge_22 : decode cX7_judge 22 = .ok (.aload_n 0, 1) := by decide +kernel
theorem dX7_judge_23 : decode cX7_judge 23 = .ok (.invokevirtual 168, 3) := by decide +kernel
theorem dX7_judge_26 : decode cX7_judge 26 = .ok (.aload_n 0, 1) := by decide +kernel
theorem dX7_judge_27 : decode cX7_judge 27 = .ok (.iconst 0, 1) := by decide +kernel
theorem dX7_judge_28 : decode cX7_judge 28 = .ok (.invokevirtual 171, 3) := by decide +kernel
theorem dX7_judge_31 : decode cX7_judge 31 = .ok (.istore_n 2, 1) := by decide +kernel
theorem dX7_judge_32 : decode cX7_judge 32 = .ok (.iload_n 2, 1) := by decide +kernel
theorem dX7_judge_33 : decode cX7_judge 33 = .ok (.ifCond .lt 7, 3) := by decide +kernel
theorem dX7_judge_36 : decode cX7_judge 36 = .ok (.iload_n 1, 1) := by decide +kernel
theorem dX7_judge_37 : decode cX7_judge 37 = .ok (.ifCond .ne 7, 3) := by decide +kernel
theorem dX7_judge_40 : decode cX7_judge 40 = .ok (.iload_n 2, 1) := by decide +kernel
theorem dX7_judge_41 : decode cX7_judge 41 = .ok (.goto 7, 3) := by decide +kernel
theorem dX7_judge_44 : decode cX7_judge 44 = .ok (.aload_n 0, 1) := by decide +kernel
theorem dX7_judge_45 : decode cX7_judge 45 = .ok (.getfield 143, 3) := by decide +kernel
theorem dX7_judge_48 : decode cX7_judge 48 = .ok (.ireturn, 1) := by decide +kernel
theorem dX7_laws_0 : decode cX7_laws 0 = .ok (.aload_n 0, 1) := by decide +kernel
theorem dX7_laws_1 : decode cX7_laws 1 = .ok (.invokevirtual 102, 3) := by decide +kernel
theorem dX7_laws_4 : decode cX7_laws 4 = .ok (.ifCond .lt 6, 3) := by decide +kernel
theorem dX7_laws_7 : decode cX7_laws 7 = .ok (.bipush (-5), 2) := by decide +kernel
theorem dX7_laws_9 : decode cX7_laws 9 = .ok (.ireturn, 1) := by decide +kernel
theorem dX7_laws_10 : decode cX7_laws 10 = .ok (.iconst 0, 1) := by decide +kernel
theorem dX7_laws_11 : decode cX7_laws 11 = .ok (.istore_n 2, 1) := by decide +kernel
theorem dX7_laws_12 : decode cX7_laws 12 = .ok (.iconst 0, 1) := by decide +kernel
theorem dX7_laws_13 : decode cX7_laws 13 = .ok (.istore_n 3, 1) := by decide +kernel
theorem dX7_laws_14 : decode cX7_laws 14 = .ok (.iload_n 3, 1) := by decide +kernel
theorem dX7_laws_15 : decode cX7_laws 15 = .ok (.sipush 556, 3) := by decide +kernel
theorem dX7_laws_18 : decode cX7_laws 18 = .ok (.if_icmp .ge 57, 3) := by decide +kernel
theorem dX7_laws_21 : decode cX7_laws 21 = .ok (.iload_n 3, 1) := by decide +kernel
theorem dX7_laws_22 : decode cX7_laws 22 = .ok (.bipush 100, 2) := by decide +kernel
theorem dX7_laws_24 : decode cX7_laws 24 = .ok (.idiv, 1) := by decide +kernel
theorem dX7_laws_25 : decode cX7_laws 25 = .ok (.bipush 6, 2) := by decide +kernel
theorem dX7_laws_27 : decode cX7_laws 27 = .ok (.if_icmp .ge 42, 3) := by decide +kernel
theorem dX7_laws_30 : decode cX7_laws 30 = .ok (.iload_n 3, 1) := by decide +kernel
theorem dX7_laws_31 : decode cX7_laws 31 = .ok (.bipush 10, 2) := by decide +kernel
theorem dX7_laws_33 : decode cX7_laws 33 = .ok (.idiv, 1) := by decide +kernel
theorem dX7_laws_34 : decode cX7_laws 34 = .ok (.bipush 10, 2) := by decide +kernel
theorem dX7_laws_36 : decode cX7_laws 36 = .ok (.irem, 1) := by decide +kernel
theorem dX7_laws_37 : decode cX7_laws 37 = .ok (.bipush 6, 2) := by decide +kernel
theorem dX7_laws_39 : decode cX7_laws 39 = .ok (.if_icmp .ge 30, 3) := by decide +kernel
theorem dX7_laws_42 : decode cX7_laws 42 = .ok (.iload_n 3, 1) := by decide +kernel
theorem dX7_laws_43 : decode cX7_laws 43 = .ok (.bipush 10, 2) := by decide +kernel
theorem dX7_laws_45 : decode cX7_laws 45 = .ok (.irem, 1) := by decide +kernel
theorem dX7_laws_46 : decode cX7_laws 46 = .ok (.bipush 6, 2) := by decide +kernel
theorem dX7_laws_48 : decode cX7_laws 48 = .ok (.if_icmp .ge 21, 3) := by decide +kernel
theorem dX7_laws_51 : decode cX7_laws 51 = .ok (.aload_n 0, 1) := by decide +kernel
theorem dX7_laws_52 : decode cX7_laws 52 = .ok (.iload_n 3, 1) := by decide +kernel
theorem dX7_laws_53 : decode cX7_laws 53 = .ok (.invokevirtual 213, 3) := by decide +kernel
theorem dX7_laws_56 : decode cX7_laws 56 = .ok (.ifCond .eq 13, 3) := by decide +kernel
theorem dX7_laws_59 : decode cX7_laws 59 = .ok (.iload_n 2, 1) := by decide +kernel
theorem dX7_laws_60 : decode cX7_laws 60 = .ok (.iload_n 1, 1) := by decide +kernel
theorem dX7_laws_61 : decode cX7_laws 61 = .ok (.if_icmp .ne 5, 3) := by decide +kernel
theorem dX7_laws_64 : decode cX7_laws 64 = .ok (.iload_n 3, 1) := by decide +kernel
theorem dX7_laws_65 : decode cX7_laws 65 = .ok (.ireturn, 1) := by decide +kernel
theorem dX7_laws_66 : decode cX7_laws 66 = .ok (.iinc 2 1, 3) := by decide +kernel
theorem dX7_laws_69 : decode cX7_laws 69 = .ok (.iinc 3 1, 3) := by decide +kernel
theorem dX7_laws_72 : decode cX7_laws 72 = .ok (.goto (-58), 3) := by decide +kernel
theorem dX7_laws_75 : decode cX7_laws 75 = .ok (.iload_n 1, 1) := by decide +kernel
theorem dX7_laws_76 : decode cX7_laws 76 = .ok (.iconst (-1), 1) := by decide +kernel
theorem dX7_laws_77 : decode cX7_laws 77 = .ok (.if_icmp .ne 7, 3) := by decide +kernel
theorem dX7_laws_80 : decode cX7_laws 80 = .ok (.iload_n 2, 1) := by decide +kernel
theorem dX7_laws_81 : decode cX7_laws 81 = .ok (.goto 5, 3) := by decide +kernel
theorem dX7_laws_84 : decode cX7_laws 84 = .ok (.bipush (-6), 2) := by decide +kernel
theorem dX7_laws_86 : decode cX7_laws 86 = .ok (.ireturn, 1) := by decide +kernel
theorem dX7_layWho_0 : decode cX7_layWho 0 = .ok (.aload_n 0, 1) := by decide +kernel
theorem dX7_layWho_1 : decode cX7_layWho 1 = .ok (.iconst 0, 1) := by decide +kernel
theorem dX7_layWho_2 : decode cX7_layWho 2 = .ok (.putfield 195, 3) := by decide +kernel
theorem dX7_layWho_5 : decode cX7_layWho 5 = .ok (.aload_n 0, 1) := by decide +kernel
theorem dX7_layWho_6 : decode cX7_layWho 6 = .ok (.iconst 0, 1) := by decide +kernel
theorem dX7_layWho_7 : decode cX7_layWho 7 = .ok (.putfield 198, 3) := by decide +kernel
theorem dX7_layWho_10 : decode cX7_layWho 10 = .ok (.aload_n 0, 1) := by decide +kernel
theorem dX7_layWho_11 : decode cX7_layWho 11 = .ok (.sipush 255, 3) := by decide +kernel
theorem dX7_layWho_14 : decode cX7_layWho 14 = .ok (.putfield 201, 3) := by decide +kernel
theorem dX7_layWho_17 : decode cX7_layWho 17 = .ok (.iconst 1, 1) := by decide +kernel
theorem dX7_layWho_18 : decode cX7_layWho 18 = .ok (.istore_n 2, 1) := by decide +kernel
theorem dX7_layWho_19 : decode cX7_layWho 19 = .ok (.iconst 0, 1) := by decide +kernel
theorem dX7_layWho_20 : decode cX7_layWho 20 = .ok (.istore_n 3, 1) := by decide +kernel
theorem dX7_layWho_21 : decode cX7_layWho 21 = .ok (.iload_n 3, 1) := by decide +kernel
theorem dX7_layWho_22 : decode cX7_layWho 22 = .ok (.iload_n 1, 1) := by decide +kernel
theorem dX7_layWho_23 : decode cX7_layWho 23 = .ok (.if_icmp .ge 18, 3) := by decide +kernel
theorem dX7_layWho_26 : decode cX7_layWho 26 = .ok (.iload_n 2, 1) := by decide +kernel
theorem dX7_layWho_27 : decode cX7_layWho 27 = .ok (.iconst 2, 1) := by decide +kernel
theorem dX7_layWho_28 : decode cX7_layWho 28 = .ok (.aload_n 0, 1) := by decide +kernel
theorem dX7_layWho_29 : decode cX7_layWho 29 = .ok (.getfield 7, 3) := by decide +kernel
theorem dX7_layWho_32 : decode cX7_layWho 32 = .ok (.imul, 1) := by decide +kernel
theorem dX7_layWho_33 : decode cX7_layWho 33 = .ok (.imul, 1) := by decide +kernel
theorem dX7_layWho_34 : decode cX7_layWho 34 = .ok (.istore_n 2, 1) := by decide +kernel
theorem dX7_layWho_35 : decode cX7_layWho 35 = .ok (.iinc 3 1, 3) := by decide +kernel
theorem dX7_layWho_38 : decode cX7_layWho 38 = .ok (.goto (-17), 3) := by decide +kernel
theorem dX7_layWho_41 : decode cX7_layWho 41 = .ok (.iconst 0, 1) := by decide +kernel
theorem dX7_layWho_42 : decode cX7_layWho 42 = .ok (.istore_n 3, 1) := by decide +kernel
theorem dX7_layWho_43 : decode cX7_layWho 43 = .ok (.iload_n 3, 1) := by decide +kernel
theorem dX7_layWho_44 : decode cX7_layWho 44 = .ok (.iload_n 2, 1) := by decide +kernel
theorem dX7_layWho_45 : decode cX7_layWho 45 = .ok (.if_icmp .ge 180, 3) := by decide +kernel
theorem dX7_layWho_48 : decode cX7_layWho 48 = .ok (.aload_n 0, 1) := by decide +kernel
theorem dX7_layWho_49 : decode cX7_layWho 49 = .ok (.invokevirtual 168, 3) := by decide +kernel
theorem dX7_layWho_52 : decode cX7_layWho 52 = .ok (.iload_n 3, 1) := by decide +kernel
theorem dX7_layWho_53 : decode cX7_layWho 53 = .ok (.istore 4, 2) := by decide +kernel
theorem dX7_layWho_55 : decode cX7_layWho 55 = .ok (.iconst 0, 1) := by decide +kernel
theorem dX7_layWho_56 : decode cX7_layWho 56 = .ok (.istore 5, 2) := by decide +kernel
theorem dX7_layWho_58 : decode cX7_layWho 58 = .ok (.iconst 0, 1) := by decide +kernel
theorem dX7_layWho_59 : decode cX7_layWho 59 = .ok (.istore 6, 2) := by decide +kernel
theorem dX7_layWho_61 : decode cX7_layWho 61 = .ok (.iload 6, 2) := by decide +kernel
theorem dX7_layWho_63 : decode cX7_layWho 63 = .ok (.iload_n 1, 1) := by decide +kernel
theorem dX7_layWho_64 : decode cX7_layWho 64 = .ok (.if_icmp .ge 72, 3) := by decide +kernel
theorem dX7_layWho_67 : decode cX7_layWho 67 = .ok (.iload 4, 2) := by decide +kernel
theorem dX7_layWho_69 : decode cX7_layWho 69 = .ok (.iconst 2, 1) := by decide +kernel
theorem dX7_layWho_70 : decode cX7_layWho 70 = .ok (.aload_n 0, 1) := by decide +kernel
theorem dX7_layWho_71 : decode cX7_layWho 71 = .ok (.getfield 7, 3) := by decide +kernel
theorem dX7_layWho_74 : decode cX7_layWho 74 = .ok (.imul, 1) := by decide +kernel
theorem dX7_layWho_75 : decode cX7_layWho 75 = .ok (.irem, 1) := by decide +kernel
theorem dX7_layWho_76 : decode cX7_layWho 76 = .ok (.istore 7, 2) := by decide +kernel
theorem dX7_layWho_78 : decode cX7_layWho 78 = .ok (.iload 4, 2) := by decide +kernel
theorem dX7_layWho_80 : decode cX7_layWho 80 = .ok (.iconst 2, 1) := by decide +kernel
theorem dX7_layWho_81 : decode cX7_layWho 81 = .ok (.aload_n 0, 1) := by decide +kernel
theorem dX7_layWho_82 : decode cX7_layWho 82 = .ok (.getfield 7, 3) := by decide +kernel
theorem dX7_layWho_85 : decode cX7_layWho 85 = .ok (.imul, 1) := by decide +kernel
theorem dX7_layWho_86 : decode cX7_layWho 86 = .ok (.idiv, 1) := by decide +kernel
theorem dX7_layWho_87 : decode cX7_layWho 87 = .ok (.istore 4, 2) := by decide +kernel
theorem dX7_layWho_89 : decode cX7_layWho 89 = .ok (.aload_n 0, 1) := by decide +kernel
theorem dX7_layWho_90 : decode cX7_layWho 90 = .ok (.getfield 44, 3) := by decide +kernel
theorem dX7_layWho_93 : decode cX7_layWho 93 = .ok (.iload 7, 2) := by decide +kernel
theorem dX7_layWho_95 : decode cX7_layWho 95 = .ok (.iconst 2, 1) := by decide +kernel
theorem dX7_layWho_96 : decode cX7_layWho 96 = .ok (.idiv, 1) := by decide +kernel
theorem dX7_layWho_97 : decode cX7_layWho 97 = .ok (.dup2, 1) := by decide +kernel
theorem dX7_layWho_98 : decode cX7_layWho 98 = .ok (.iaload, 1) := by decide +kernel
theorem dX7_layWho_99 : decode cX7_layWho 99 = .ok (.iload 7, 2) := by decide +kernel
theorem dX7_layWho_101 : decode cX7_layWho 101 = .ok (.iconst 2, 1) := by decide +kernel
theorem dX7_layWho_102 : decode cX7_layWho 102 = .ok (.irem, 1) := by decide +kernel
theorem dX7_layWho_103 : decode cX7_layWho 103 = .ok (.ifCond .ne 10, 3) := by decide +kernel
theorem dX7_layWho_106 : decode cX7_layWho 106 = .ok (.aload_n 0, 1) := by decide +kernel
theorem dX7_layWho_107 : decode cX7_layWho 107 = .ok (.getfield 26, 3) := by decide +kernel
theorem dX7_layWho_110 : decode cX7_layWho 110 = .ok (.goto 7, 3) := by decide +kernel
theorem dX7_layWho_113 : decode cX7_layWho 113 = .ok (.aload_n 0, 1) := by decide +kernel
theorem dX7_layWho_114 : decode cX7_layWho 114 = .ok (.getfield 29, 3) := by decide +kernel
theorem dX7_layWho_117 : decode cX7_layWho 117 = .ok (.iadd, 1) := by decide +kernel
theorem dX7_layWho_118 : decode cX7_layWho 118 = .ok (.iastore, 1) := by decide +kernel
theorem dX7_layWho_119 : decode cX7_layWho 119 = .ok (.iload 5, 2) := by decide +kernel
theorem dX7_layWho_121 : decode cX7_layWho 121 = .ok (.iconst 1, 1) := by decide +kernel
theorem dX7_layWho_122 : decode cX7_layWho 122 = .ok (.iload 7, 2) := by decide +kernel
theorem dX7_layWho_124 : decode cX7_layWho 124 = .ok (.iconst 2, 1) := by decide +kernel
theorem dX7_layWho_125 : decode cX7_layWho 125 = .ok (.idiv, 1) := by decide +kernel
theorem dX7_layWho_126 : decode cX7_layWho 126 = .ok (.ishl, 1) := by decide +kernel
theorem dX7_layWho_127 : decode cX7_layWho 127 = .ok (.ior, 1) := by decide +kernel
theorem dX7_layWho_128 : decode cX7_layWho 128 = .ok (.istore 5, 2) := by decide +kernel
theorem dX7_layWho_130 : decode cX7_layWho 130 = .ok (.iinc 6 1, 3) := by decide +kernel
theorem dX7_layWho_133 : decode cX7_layWho 133 = .ok (.goto (-72), 3) := by decide +kernel
theorem dX7_layWho_136 : decode cX7_layWho 136 = .ok (.aload_n 0, 1) := by decide +kernel
theorem dX7_layWho_137 : decode cX7_layWho 137 = .ok (.invokevirtual 146, 3) := by decide +kernel
theorem dX7_layWho_140 : decode cX7_layWho 140 = .ok (.aload_n 0, 1) := by decide +kernel
theorem dX7_layWho_141 : decode cX7_layWho 141 = .ok (.invokevirtual 204, 3) := by decide +kernel
theorem dX7_layWho_144 : decode cX7_layWho 144 = .ok (.ifCond .eq 75, 3) := by decide +kernel
theorem dX7_layWho_147 : decode cX7_layWho 147 = .ok (.iconst 0, 1) := by decide +kernel
theorem dX7_layWho_148 : decode cX7_layWho 148 = .ok (.istore 6, 2) := by decide +kernel
theorem dX7_layWho_150 : decode cX7_layWho 150 = .ok (.iload 6, 2) := by decide +kernel
theorem dX7_layWho_152 : decode cX7_layWho 152 = .ok (.aload_n 0, 1) := by decide +kernel
theorem dX7_layWho_153 : decode cX7_layWho 153 = .ok (.getfield 7, 3) := by decide +kernel
theorem dX7_layWho_156 : decode cX7_layWho 156 = .ok (.if_icmp .ge 31, 3) := by decide +kernel
theorem dX7_layWho_159 : decode cX7_layWho 159 = .ok (.aload_n 0, 1) := by decide +kernel
theorem dX7_layWho_160 : decode cX7_layWho 160 = .ok (.getfield 63, 3) := by decide +kernel
theorem dX7_layWho_163 : decode cX7_layWho 163 = .ok (.bipush 8, 2) := by decide +kernel
theorem dX7_layWho_165 : decode cX7_layWho 165 = .ok (.aload_n 0, 1) := by decide +kernel
theorem dX7_layWho_166 : decode cX7_layWho 166 = .ok (.getfield 195, 3) := by decide +kernel
theorem dX7_layWho_169 : decode cX7_layWho 169 = .ok (.imul, 1) := by decide +kernel
theorem dX7_layWho_170 : decode cX7_layWho 170 = .ok (.iload 6, 2) := by decide +kernel
theorem dX7_layWho_172 : decode cX7_layWho 172 = .ok (.iadd, 1) := by decide +kernel
theorem dX7_layWho_173 : decode cX7_layWho 173 = .ok (.aload_n 0, 1) := by decide +kernel
theorem dX7_layWho_174 : decode cX7_layWho 174 = .ok (.getfield 44, 3) := by decide +kernel
theorem dX7_layWho_177 : decode cX7_layWho 177 = .ok (.iload 6, 2) := by decide +kernel
theorem dX7_layWho_179 : decode cX7_layWho 179 = .ok (.iaload, 1) := by decide +kernel
theorem dX7_layWho_180 : decode cX7_layWho 180 = .ok (.iastore, 1) := by decide +kernel
theorem dX7_layWho_181 : decode cX7_layWho 181 = .ok (.iinc 6 1, 3) := by decide +kernel
theorem dX7_layWho_184 : decode cX7_layWho 184 = .ok (.goto (-34), 3) := by decide +kernel
theorem dX7_layWho_187 : decode cX7_layWho 187 = .ok (.aload_n 0, 1) := by decide +kernel
theorem dX7_layWho_188 : decode cX7_layWho 188 = .ok (.dup, 1) := by decide +kernel
theorem dX7_layWho_189 : decode cX7_layWho 189 = .ok (.getfield 195, 3) := by decide +kernel
theorem dX7_layWho_192 : decode cX7_layWho 192 = .ok (.iconst 1, 1) := by decide +kernel
theorem dX7_layWho_193 : decode cX7_layWho 193 = .ok (.iadd, 1) := by decide +kernel
theorem dX7_layWho_194 : decode cX7_layWho 194 = .ok (.putfield 195, 3) := by decide +kernel
theorem dX7_layWho_197 : decode cX7_layWho 197 = .ok (.aload_n 0, 1) := by decide +kernel
theorem dX7_layWho_198 : decode cX7_layWho 198 = .ok (.dup, 1) := by decide +kernel
theorem dX7_layWho_199 : decode cX7_layWho 199 = .ok (.getfield 198, 3) := by decide +kernel
theorem dX7_layWho_202 : decode cX7_layWho 202 = .ok (.iload 5, 2) := by decide +kernel
theorem dX7_layWho_204 : decode cX7_layWho 204 = .ok (.ior, 1) := by decide +kernel
theorem dX7_layWho_205 : decode cX7_layWho 205 = .ok (.putfield 198, 3) := by decide +kernel
theorem dX7_layWho_208 : decode cX7_layWho 208 = .ok (.aload_n 0, 1) := by decide +kernel
theorem dX7_layWho_209 : decode cX7_layWho 209 = .ok (.dup, 1) := by decide +kernel
theorem dX7_layWho_210 : decode cX7_layWho 210 = .ok (.getfield 201, 3) := by decide +kernel
theorem dX7_layWho_213 : decode cX7_layWho 213 = .ok (.iload 5, 2) := by decide +kernel
theorem dX7_layWho_215 : decode cX7_layWho 215 = .ok (.iand, 1) := by decide +kernel
theorem dX7_layWho_216 : decode cX7_layWho 216 = .ok (.putfield 201, 3) := by decide +kernel
theorem dX7_layWho_219 : decode cX7_layWho 219 = .ok (.iinc 3 1, 3) := by decide +kernel
theorem dX7_layWho_222 : decode cX7_layWho 222 = .ok (.goto (-179), 3) := by decide +kernel
theorem dX7_layWho_225 : decode cX7_layWho 225 = .ok (.return_, 1) := by decide +kernel
theorem dX7_less_0 : decode cX7_less 0 = .ok (.iload_n 0, 1) := by decide +kernel
theorem dX7_less_1 : decode cX7_less 1 = .ok (.iload_n 1, 1) := by decide +kernel
theorem dX7_less_2 : decode cX7_less 2 = .ok (.if_icmp .le 9, 3) := by decide +kernel
theorem dX7_less_5 : decode cX7_less 5 = .ok (.iload_n 0, 1) := by decide +kernel
theorem dX7_less_6 : decode cX7_less 6 = .ok (.iload_n 1, 1) := by decide +kernel
theorem dX7_less_7 : decode cX7_less 7 = .ok (.isub, 1) := by decide +kernel
theorem dX7_less_8 : decode cX7_less 8 = .ok (.goto 4, 3) := by decide +kernel
theorem dX7_less_11 : decode cX7_less 11 = .ok (.iconst 0, 1) := by decide +kernel
theorem dX7_less_12 : decode cX7_less 12 = .ok (.ireturn, 1) := by decide +kernel
theorem dX7_next_0 : decode cX7_next 0 = .ok (.iload_n 1, 1) := by decide +kernel
theorem dX7_next_1 : decode cX7_next 1 = .ok (.iconst 0, 1) := by decide +kernel
theorem dX7_next_2 : decode cX7_next 2 = .ok (.iconst 3, 1) := by decide +kernel
theorem dX7_next_3 : decode cX7_next 3 = .ok (.invokestatic 91, 3) := by decide +kernel
theorem dX7_next_6 : decode cX7_next 6 = .ok (.ifCond .eq 12, 3) := by decide +kernel
theorem dX7_next_9 : decode cX7_next 9 = .ok (.iload_n 2, 1) := by decide +kernel
theorem dX7_next_10 : decode cX7_next 10 = .ok (.iconst 0, 1) := by decide +kernel
theorem dX7_next_11 : decode cX7_next 11 = .ok (.iconst 1, 1) := by decide +kernel
theorem dX7_next_12 : decode cX7_next 12 = .ok (.invokestatic 91, 3) := by decide +kernel
theorem dX7_next_15 : decode cX7_next 15 = .ok (.ifCond .ne 6, 3) := by decide +kernel
theorem dX7_next_18 : decode cX7_next 18 = .ok (.bipush (-2), 2) := by decide +kernel
theorem dX7_next_20 : decode cX7_next 20 = .ok (.ireturn, 1) := by decide +kernel
theorem dX7_next_21 : decode cX7_next 21 = .ok (.aload_n 0, 1) := by decide +kernel
theorem dX7_next_22 : decode cX7_next 22 = .ok (.iload_n 1, 1) := by decide +kernel
theorem dX7_next_23 : decode cX7_next 23 = .ok (.invokevirtual 207, 3) := by decide +kernel
theorem dX7_next_26 : decode cX7_next 26 = .ok (.ldc 181, 2) := by decide +kernel
theorem dX7_next_28 : decode cX7_next 28 = .ok (.istore_n 3, 1) := by decide +kernel
theorem dX7_next_29 : decode cX7_next 29 = .ok (.bipush (-6), 2) := by decide +kernel
theorem dX7_next_31 : decode cX7_next 31 = .ok (.istore 4, 2) := by decide +kernel
theorem dX7_next_33 : decode cX7_next 33 = .ok (.iconst 0, 1) := by decide +kernel
theorem dX7_next_34 : decode cX7_next 34 = .ok (.istore 5, 2) := by decide +kernel
theorem dX7_next_36 : decode cX7_next 36 = .ok (.iload 5, 2) := by decide +kernel
theorem dX7_next_38 : decode cX7_next 38 = .ok (.aload_n 0, 1) := by decide +kernel
theorem dX7_next_39 : decode cX7_next 39 = .ok (.getfield 7, 3) := by decide +kernel
theorem dX7_next_42 : decode cX7_next 42 = .ok (.if_icmp .ge 162, 3) := by decide +kernel
theorem dX7_next_45 : decode cX7_next 45 = .ok (.iconst 0, 1) := by decide +kernel
theorem dX7_next_46 : decode cX7_next 46 = .ok (.istore 6, 2) := by decide +kernel
theorem dX7_next_48 : decode cX7_next 48 = .ok (.iload 6, 2) := by decide +kernel
theorem dX7_next_50 : decode cX7_next 50 = .ok (.sipush 1100, 3) := by decide +kernel
theorem dX7_next_53 : decode cX7_next 53 = .ok (.if_icmp .ge 17, 3) := by decide +kernel
theorem dX7_next_56 : decode cX7_next 56 = .ok (.aload_n 0, 1) := by decide +kernel
theorem dX7_next_57 : decode cX7_next 57 = .ok (.getfield 66, 3) := by decide +kernel
theorem dX7_next_60 : decode cX7_next 60 = .ok (.iload 6, 2) := by decide +kernel
theorem dX7_next_62 : decode cX7_next 62 = .ok (.iconst 0, 1) := by decide +kernel
theorem dX7_next_63 : decode cX7_next 63 = .ok (.iastore, 1) := by decide +kernel
theorem dX7_next_64 : decode cX7_next 64 = .ok (.iinc 6 1, 3) := by decide +kernel
theorem dX7_next_67 : decode cX7_next 67 = .ok (.goto (-19), 3) := by decide +kernel
theorem dX7_next_70 : decode cX7_next 70 = .ok (.iconst 0, 1) := by decide +kernel
theorem dX7_next_71 : decode cX7_next 71 = .ok (.istore 6, 2) := by decide +kernel
theorem dX7_next_73 : decode cX7_next 73 = .ok (.iconst 0, 1) := by decide +kernel
theorem dX7_next_74 : decode cX7_next 74 = .ok (.istore 7, 2) := by decide +kernel
theorem dX7_next_76 : decode cX7_next 76 = .ok (.iload 7, 2) := by decide +kernel
theorem dX7_next_78 : decode cX7_next 78 = .ok (.aload_n 0, 1) := by decide +kernel
theorem dX7_next_79 : decode cX7_next 79 = .ok (.getfield 195, 3) := by decide +kernel
theorem dX7_next_82 : decode cX7_next 82 = .ok (.if_icmp .ge 61, 3) := by decide +kernel
theorem dX7_next_85 : decode cX7_next 85 = .ok (.aload_n 0, 1) := by decide +kernel
theorem dX7_next_86 : decode cX7_next 86 = .ok (.getfield 63, 3) := by decide +kernel
theorem dX7_next_89 : decode cX7_next 89 = .ok (.bipush 8, 2) := by decide +kernel
theorem dX7_next_91 : decode cX7_next 91 = .ok (.iload 7, 2) := by decide +kernel
theorem dX7_next_93 : decode cX7_next 93 = .ok (.imul, 1) := by decide +kernel
theorem dX7_next_94 : decode cX7_next 94 = .ok (.iload 5, 2) := by decide +kernel
theorem dX7_next_96 : decode cX7_next 96 = .ok (.iadd, 1) := by decide +kernel
theorem dX7_next_97 : decode cX7_next 97 = .ok (.iaload, 1) := by decide +kernel
theorem dX7_next_98 : decode cX7_next 98 = .ok (.istore 8, 2) := by decide +kernel
theorem dX7_next_100 : decode cX7_next 100 = .ok (.aload_n 0, 1) := by decide +kernel
theorem dX7_next_101 : decode cX7_next 101 = .ok (.getfield 66, 3) := by decide +kernel
theorem dX7_next_104 : decode cX7_next 104 = .ok (.iload 8, 2) := by decide +kernel
theorem dX7_next_106 : decode cX7_next 106 = .ok (.dup2, 1) := by decide +kernel
theorem dX7_next_107 : decode cX7_next 107 = .ok (.iaload, 1) := by decide +kernel
theorem dX7_next_108 : decode cX7_next 108 = .ok (.iconst 1, 1) := by decide +kernel
theorem dX7_next_109 : decode cX7_next 109 = .ok (.iadd, 1) := by decide +kernel
theorem dX7_next_110 : decode cX7_next 110 = .ok (.iastore, 1) := by decide +kernel
theorem dX7_next_111 : decode cX7_next 111 = .ok (.aload_n 0, 1) := by decide +kernel
theorem dX7_next_112 : decode cX7_next 112 = .ok (.getfield 66, 3) := by decide +kernel
theorem dX7_next_115 : decode cX7_next 115 = .ok (.iload 8, 2) := by decide +kernel
theorem dX7_next_117 : decode cX7_next 117 = .ok (.iaload, 1) := by decide +kernel
theorem dX7_next_118 : decode cX7_next 118 = .ok (.iload 6, 2) := by decide +kernel
theorem dX7_next_120 : decode cX7_next 120 = .ok (.if_icmp .le 13, 3) := by decide +kernel
theorem dX7_next_123 : decode cX7_next 123 = .ok (.aload_n 0, 1) := by decide +kernel
theorem dX7_next_124 : decode cX7_next 124 = .ok (.getfield 66, 3) := by decide +kernel
theorem dX7_next_127 : decode cX7_next 127 = .ok (.iload 8, 2) := by decide +kernel
theorem dX7_next_129 : decode cX7_next 129 = .ok (.iaload, 1) := by decide +kernel
theorem dX7_next_130 : decode cX7_next 130 = .ok (.goto 5, 3) := by decide +kernel
theorem dX7_next_133 : decode cX7_next 133 = .ok (.iload 6, 2) := by decide +kernel
theorem dX7_next_135 : decode cX7_next 135 = .ok (.istore 6, 2) := by decide +kernel
theorem dX7_next_137 : decode cX7_next 137 = .ok (.iinc 7 1, 3) := by decide +kernel
theorem dX7_next_140 : decode cX7_next 140 = .ok (.goto (-64), 3) := by decide +kernel
theorem dX7_next_143 : decode cX7_next 143 = .ok (.aload_n 0, 1) := by decide +kernel
theorem dX7_next_144 : decode cX7_next 144 = .ok (.getfield 195, 3) := by decide +kernel
theorem dX7_next_147 : decode cX7_next 147 = .ok (.ifCond .le 22, 3) := by decide +kernel
theorem dX7_next_150 : decode cX7_next 150 = .ok (.aload_n 0, 1) := by decide +kernel
theorem dX7_next_151 : decode cX7_next 151 = .ok (.iload 5, 2) := by decide +kernel
theorem dX7_next_153 : decode cX7_next 153 = .ok (.invokevirtual 210, 3) := by decide +kernel
theorem dX7_next_156 : decode cX7_next 156 = .ok (.ifCond .ne 13, 3) := by decide +kernel
theorem dX7_next_159 : decode cX7_next 159 = .ok (.iload 6, 2) := by decide +kernel
theorem dX7_next_161 : decode cX7_next 161 = .ok (.iload_n 3, 1) := by decide +kernel
theorem dX7_next_162 : decode cX7_next 162 = .ok (.if_icmp .ge 7, 3) := by decide +kernel
theorem dX7_next_165 : decode cX7_next 165 = .ok (.iconst 1, 1) := by decide +kernel
theorem dX7_next_166 : decode cX7_next 166 = .ok (.goto 4, 3) := by decide +kernel
theorem dX7_next_169 : decode cX7_next 169 = .ok (.iconst 0, 1) := by decide +kernel
theorem dX7_next_170 : decode cX7_next 170 = .ok (.istore 7, 2) := by decide +kernel
theorem dX7_next_172 : decode cX7_next 172 = .ok (.iload 7, 2) := by decide +kernel
theorem dX7_next_174 : decode cX7_next 174 = .ok (.ifCond .eq 8, 3) := by decide +kernel
theorem dX7_next_177 : decode cX7_next 177 = .ok (.iload 5, 2) := by decide +kernel
theorem dX7_next_179 : decode cX7_next 179 = .ok (.goto 5, 3) := by decide +kernel
theorem dX7_next_182 : decode cX7_next 182 = .ok (.iload 4, 2) := by decide +kernel
theorem dX7_next_184 : decode cX7_next 184 = .ok (.istore 4, 2) := by decide +kernel
theorem dX7_next_186 : decode cX7_next 186 = .ok (.iload 7, 2) := by decide +kernel
theorem dX7_next_188 : decode cX7_next 188 = .ok (.ifCond .eq 8, 3) := by decide +kernel
theorem dX7_next_191 : decode cX7_next 191 = .ok (.iload 6, 2) := by decide +kernel
theorem dX7_next_193 : decode cX7_next 193 = .ok (.goto 4, 3) := by decide +kernel
theorem dX7_next_196 : decode cX7_next 196 = .ok (.iload_n 3, 1) := by decide +kernel
theorem dX7_next_197 : decode cX7_next 197 = .ok (.istore_n 3, 1) := by decide +kernel
theorem dX7_next_198 : decode cX7_next 198 = .ok (.iinc 5 1, 3) := by decide +kernel
theorem dX7_next_201 : decode cX7_next 201 = .ok (.goto (-165), 3) := by decide +kernel
theorem dX7_next_204 : decode cX7_next 204 = .ok (.iload 4, 2) := by decide +kernel
theorem dX7_next_206 : decode cX7_next 206 = .ok (.ifCond .lt 7, 3) := by decide +kernel
theorem dX7_next_209 : decode cX7_next 209 = .ok (.iload_n 2, 1) := by decide +kernel
theorem dX7_next_210 : decode cX7_next 210 = .ok (.ifCond .ne 8, 3) := by decide +kernel
theorem dX7_next_213 : decode cX7_next 213 = .ok (.iload 4, 2) := by decide +kernel
theorem dX7_next_215 : decode cX7_next 215 = .ok (.goto 4, 3) := by decide +kernel
theorem dX7_next_218 : decode cX7_next 218 = .ok (.iload_n 3, 1) := by decide +kernel
theorem dX7_next_219 : decode cX7_next 219 = .ok (.ireturn, 1) := by decide +kernel
theorem dX7_night_0 : decode cX7_night 0 = .ok (.iconst 0, 1) := by decide +kernel
theorem dX7_night_1 : decode cX7_night 1 = .ok (.istore_n 1, 1) := by decide +kernel
theorem dX7_night_2 : decode cX7_night 2 = .ok (.iload_n 1, 1) := by decide +kernel
theorem dX7_night_3 : decode cX7_night 3 = .ok (.aload_n 0, 1) := by decide +kernel
theorem dX7_night_4 : decode cX7_night 4 = .ok (.getfield 7, 3) := by decide +kernel
theorem dX7_night_7 : decode cX7_night 7 = .ok (.if_icmp .ge 21, 3) := by decide +kernel
theorem dX7_night_10 : decode cX7_night 10 = .ok (.aload_n 0, 1) := by decide +kernel
theorem dX7_night_11 : decode cX7_night 11 = .ok (.getfield 47, 3) := by decide +kernel
theorem dX7_night_14 : decode cX7_night 14 = .ok (.iload_n 1, 1) := by decide +kernel
theorem dX7_night_15 : decode cX7_night 15 = .ok (.aload_n 0, 1) := by decide +kernel
theorem dX7_night_16 : decode cX7_night 16 = .ok (.getfield 44, 3) := by decide +kernel
theorem dX7_night_19 : decode cX7_night 19 = .ok (.iload_n 1, 1) := by decide +kernel
theorem dX7_night_20 : decode cX7_night 20 = .ok (.iaload, 1) := by decide +kernel
theorem dX7_night_21 : decode cX7_night 21 = .ok (.iastore, 1) := by decide +kernel
theorem dX7_night_22 : decode cX7_night 22 = .ok (.iinc 1 1, 3) := by decide +kernel
theorem dX7_night_25 : decode cX7_night 25 = .ok (.goto (-23), 3) := by decide +kernel
theorem dX7_night_28 : decode cX7_night 28 = .ok (.iconst 0, 1) := by decide +kernel
theorem dX7_night_29 : decode cX7_night 29 = .ok (.istore_n 1, 1) := by decide +kernel
theorem dX7_night_30 : decode cX7_night 30 = .ok (.iload_n 1, 1) := by decide +kernel
theorem dX7_night_31 : decode cX7_night 31 = .ok (.iconst 1, 1) := by decide +kernel
theorem dX7_night_32 : decode cX7_night 32 = .ok (.iadd, 1) := by decide +kernel
theorem dX7_night_33 : decode cX7_night 33 = .ok (.aload_n 0, 1) := by decide +kernel
theorem dX7_night_34 : decode cX7_night 34 = .ok (.getfield 7, 3) := by decide +kernel
theorem dX7_night_37 : decode cX7_night 37 = .ok (.if_icmp .ge 50, 3) := by decide +kernel
theorem dX7_night_40 : decode cX7_night 40 = .ok (.aload_n 0, 1) := by decide +kernel
theorem dX7_night_41 : decode cX7_night 41 = .ok (.getfield 44, 3) := by decide +kernel
theorem dX7_night_44 : decode cX7_night 44 = .ok (.iload_n 1, 1) := by decide +kernel
theorem dX7_night_45 : decode cX7_night 45 = .ok (.iaload, 1) := by decide +kernel
theorem dX7_night_46 : decode cX7_night 46 = .ok (.aload_n 0, 1) := by decide +kernel
theorem dX7_night_47 : decode cX7_night 47 = .ok (.getfield 44, 3) := by decide +kernel
theorem dX7_night_50 : decode cX7_night 50 = .ok (.iload_n 1, 1) := by decide +kernel
theorem dX7_night_51 : decode cX7_night 51 = .ok (.iconst 1, 1) := by decide +kernel
theorem dX7_night_52 : decode cX7_night 52 = .ok (.iadd, 1) := by decide +kernel
theorem dX7_night_53 : decode cX7_night 53 = .ok (.iaload, 1) := by decide +kernel
theorem dX7_night_54 : decode cX7_night 54 = .ok (.isub, 1) := by decide +kernel
theorem dX7_night_55 : decode cX7_night 55 = .ok (.iconst 2, 1) := by decide +kernel
theorem dX7_night_56 : decode cX7_night 56 = .ok (.if_icmp .lt 25, 3) := by decide +kernel
theorem dX7_night_59 : decode cX7_night 59 = .ok (.aload_n 0, 1) := by decide +kernel
theorem dX7_night_60 : decode cX7_night 60 = .ok (.getfield 47, 3) := by decide +kernel
theorem dX7_night_63 : decode cX7_night 63 = .ok (.iload_n 1, 1) := by decide +kernel
theorem dX7_night_64 : decode cX7_night 64 = .ok (.dup2, 1) := by decide +kernel
theorem dX7_night_65 : decode cX7_night 65 = .ok (.iaload, 1) := by decide +kernel
theorem dX7_night_66 : decode cX7_night 66 = .ok (.iconst 1, 1) := by decide +kernel
theorem dX7_night_67 : decode cX7_night 67 = .ok (.isub, 1) := by decide +kernel
theorem dX7_night_68 : decode cX7_night 68 = .ok (.iastore, 1) := by decide +kernel
theorem dX7_night_69 : decode cX7_night 69 = .ok (.aload_n 0, 1) := by decide +kernel
theorem dX7_night_70 : decode cX7_night 70 = .ok (.getfield 47, 3) := by decide +kernel
theorem dX7_night_73 : decode cX7_night 73 = .ok (.iload_n 1, 1) := by decide +kernel
theorem dX7_night_74 : decode cX7_night 74 = .ok (.iconst 1, 1) := by decide +kernel
theorem dX7_night_75 : decode cX7_night 75 = .ok (.iadd, 1) := by decide +kernel
theorem dX7_night_76 : decode cX7_night 76 = .ok (.dup2, 1) := by decide +kernel
theorem dX7_night_77 : decode cX7_night 77 = .ok (.iaload, 1) := by decide +kernel
theorem dX7_night_78 : decode cX7_night 78 = .ok (.iconst 1, 1) := by decide +kernel
theorem dX7_night_79 : decode cX7_night 79 = .ok (.iadd, 1) := by decide +kernel
theorem dX7_night_80 : decode cX7_night 80 = .ok (.iastore, 1) := by decide +kernel
theorem dX7_night_81 : decode cX7_night 81 = .ok (.iinc 1 1, 3) := by decide +kernel
theorem dX7_night_84 : decode cX7_night 84 = .ok (.goto (-54), 3) := by decide +kernel
theorem dX7_night_87 : decode cX7_night 87 = .ok (.iconst 0, 1) := by decide +kernel
theorem dX7_night_88 : decode cX7_night 88 = .ok (.istore_n 1, 1) := by decide +kernel
theorem dX7_night_89 : decode cX7_night 89 = .ok (.iload_n 1, 1) := by decide +kernel
theorem dX7_night_90 : decode cX7_night 90 = .ok (.aload_n 0, 1) := by decide +kernel
theorem dX7_night_91 : decode cX7_night 91 = .ok (.getfield 7, 3) := by decide +kernel
theorem dX7_night_94 : decode cX7_night 94 = .ok (.if_icmp .ge 21, 3) := by decide +kernel
theorem dX7_night_97 : decode cX7_night 97 = .ok (.aload_n 0, 1) := by decide +kernel
theorem dX7_night_98 : decode cX7_night 98 = .ok (.getfield 44, 3) := by decide +kernel
theorem dX7_night_101 : decode cX7_night 101 = .ok (.iload_n 1, 1) := by decide +kernel
theorem dX7_night_102 : decode cX7_night 102 = .ok (.aload_n 0, 1) := by decide +kernel
theorem dX7_night_103 : decode cX7_night 103 = .ok (.getfield 47, 3) := by decide +kernel
theorem dX7_night_106 : decode cX7_night 106 = .ok (.iload_n 1, 1) := by decide +kernel
theorem dX7_night_107 : decode cX7_night 107 = .ok (.iaload, 1) := by decide +kernel
theorem dX7_night_108 : decode cX7_night 108 = .ok (.iastore, 1) := by decide +kernel
theorem dX7_night_109 : decode cX7_night 109 = .ok (.iinc 1 1, 3) := by decide +kernel
theorem dX7_night_112 : decode cX7_night 112 = .ok (.goto (-23), 3) := by decide +kernel
theorem dX7_night_115 : decode cX7_night 115 = .ok (.return_, 1) := by decide +kernel
theorem dX7_others_0 : decode cX7_others 0 = .ok (.iconst 0, 1) := by decide +kernel
theorem dX7_others_1 : decode cX7_others 1 = .ok (.istore_n 3, 1) := by decide +kernel
theorem dX7_others_2 : decode cX7_others 2 = .ok (.iconst 0, 1) := by decide +kernel
theorem dX7_others_3 : decode cX7_others 3 = .ok (.istore 4, 2) := by decide +kernel
theorem dX7_others_5 : decode cX7_others 5 = .ok (.iload 4, 2) := by decide +kernel
theorem dX7_others_7 : decode cX7_others 7 = .ok (.aload_n 0, 1) := by decide +kernel
theorem dX7_others_8 : decode cX7_others 8 = .ok (.getfield 7, 3) := by decide +kernel
theorem dX7_others_11 : decode cX7_others 11 = .ok (.if_icmp .ge 34, 3) := by decide +kernel
theorem dX7_others_14 : decode cX7_others 14 = .ok (.iload_n 3, 1) := by decide +kernel
theorem dX7_others_15 : decode cX7_others 15 = .ok (.iload 4, 2) := by decide +kernel
theorem dX7_others_17 : decode cX7_others 17 = .ok (.iload_n 1, 1) := by decide +kernel
theorem dX7_others_18 : decode cX7_others 18 = .ok (.if_icmp .eq 18, 3) := by decide +kernel
theorem dX7_others_21 : decode cX7_others 21 = .ok (.aload_n 0, 1) := by decide +kernel
theorem dX7_others_22 : decode cX7_others 22 = .ok (.getfield 69, 3) := by decide +kernel
theorem dX7_others_25 : decode cX7_others 25 = .ok (.iload 4, 2) := by decide +kernel
theorem dX7_others_27 : decode cX7_others 27 = .ok (.iaload, 1) := by decide +kernel
theorem dX7_others_28 : decode cX7_others 28 = .ok (.iload_n 2, 1) := by decide +kernel
theorem dX7_others_29 : decode cX7_others 29 = .ok (.if_icmp .ne 7, 3) := by decide +kernel
theorem dX7_others_32 : decode cX7_others 32 = .ok (.iconst 1, 1) := by decide +kernel
theorem dX7_others_33 : decode cX7_others 33 = .ok (.goto 4, 3) := by decide +kernel
theorem dX7_others_36 : decode cX7_others 36 = .ok (.iconst 0, 1) := by decide +kernel
theorem dX7_others_37 : decode cX7_others 37 = .ok (.iadd, 1) := by decide +kernel
theorem dX7_others_38 : decode cX7_others 38 = .ok (.istore_n 3, 1) := by decide +kernel
theorem dX7_others_39 : decode cX7_others 39 = .ok (.iinc 4 1, 3) := by decide +kernel
theorem dX7_others_42 : decode cX7_others 42 = .ok (.goto (-37), 3) := by decide +kernel
theorem dX7_others_45 : decode cX7_others 45 = .ok (.iload_n 3, 1) := by decide +kernel
theorem dX7_others_46 : decode cX7_others 46 = .ok (.ireturn, 1) := by decide +kernel
theorem dX7_recognised_0 : decode cX7_recognised 0 = .ok (.aload_n 0, 1) := by decide +kernel
theorem dX7_recognised_1 : decode cX7_recognised 1 = .ok (.iload_n 1, 1) := by decide +kernel
theorem dX7_recognised_2 : decode cX7_recognised 2 = .ok (.invokevirtual 95, 3) := by decide +kernel
theorem dX7_recognised_5 : decode cX7_recognised 5 = .ok (.ifCond .ne 5, 3) := by decide +kernel
theorem dX7_recognised_8 : decode cX7_recognised 8 = .ok (.iconst (-1), 1) := by decide +kernel
theorem dX7_recognised_9 : decode cX7_recognised 9 = .ok (.ireturn, 1) := by decide +kernel
theorem dX7_recognised_10 : decode cX7_recognised 10 = .ok (.bipush (-6), 2) := by decide +kernel
theorem dX7_recognised_12 : decode cX7_recognised 12 = .ok (.istore_n 2, 1) := by decide +kernel
theorem dX7_recognised_13 : decode cX7_recognised 13 = .ok (.iconst 0, 1) := by decide +kernel
theorem dX7_recognised_14 : decode cX7_recognised 14 = .ok (.istore_n 3, 1) := by decide +kernel
theorem dX7_recognised_15 : decode cX7_recognised 15 = .ok (.iconst 0, 1) := by decide +kernel
theorem dX7_recognised_16 : decode cX7_recognised 16 = .ok (.istore 4, 2) := by decide +kernel
theorem dX7_recognised_18 : decode cX7_recognised 18 = .ok (.iload 4, 2) := by decide +kernel
theorem dX7_recognised_20 : decode cX7_recognised 20 = .ok (.aload_n 0, 1) := by decide +kernel
theorem dX7_recognised_21 : decode cX7_recognised 21 = .ok (.getfield 7, 3) := by decide +kernel
theorem dX7_recognised_24 : decode cX7_recognised 24 = .ok (.if_icmp .ge 65, 3) := by decide +kernel
theorem dX7_recognised_27 : decode cX7_recognised 27 = .ok (.aload_n 0, 1) := by decide +kernel
theorem dX7_recognised_28 : decode cX7_recognised 28 = .ok (.getfield 23, 3) := by decide +kernel
theorem dX7_recognised_31 : decode cX7_recognised 31 = .ok (.bipush 8, 2) := by decide +kernel
theorem dX7_recognised_33 : decode cX7_recognised 33 = .ok (.iload_n 1, 1) := by decide +kernel
theorem dX7_recognised_34 : decode cX7_recognised 34 = .ok (.imul, 1) := by decide +kernel
theorem dX7_recognised_35 : decode cX7_recognised 35 = .ok (.iload 4, 2) := by decide +kernel
theorem dX7_recognised_37 : decode cX7_recognised 37 = .ok (.iadd, 1) := by decide +kernel
theorem dX7_recognised_38 : decode cX7_recognised 38 = .ok (.iaload, 1) := by decide +kernel
theorem dX7_recognised_39 : decode cX7_recognised 39 = .ok (.iload_n 3, 1) := by decide +kernel
theorem dX7_recognised_40 : decode cX7_recognised 40 = .ok (.if_icmp .le 8, 3) := by decide +kernel
theorem dX7_recognised_43 : decode cX7_recognised 43 = .ok (.iload 4, 2) := by decide +kernel
theorem dX7_recognised_45 : decode cX7_recognised 45 = .ok (.goto 4, 3) := by decide +kernel
theorem dX7_recognised_48 : decode cX7_recognised 48 = .ok (.iload_n 2, 1) := by decide +kernel
theorem dX7_recognised_49 : decode cX7_recognised 49 = .ok (.istore_n 2, 1) := by decide +kernel
theorem dX7_recognised_50 : decode cX7_recognised 50 = .ok (.aload_n 0, 1) := by decide +kernel
theorem dX7_recognised_51 : decode cX7_recognised 51 = .ok (.getfield 23, 3) := by decide +kernel
theorem dX7_recognised_54 : decode cX7_recognised 54 = .ok (.bipush 8, 2) := by decide +kernel
theorem dX7_recognised_56 : decode cX7_recognised 56 = .ok (.iload_n 1, 1) := by decide +kernel
theorem dX7_recognised_57 : decode cX7_recognised 57 = .ok (.imul, 1) := by decide +kernel
theorem dX7_recognised_58 : decode cX7_recognised 58 = .ok (.iload 4, 2) := by decide +kernel
theorem dX7_recognised_60 : decode cX7_recognised 60 = .ok (.iadd, 1) := by decide +kernel
theorem dX7_recognised_61 : decode cX7_recognised 61 = .ok (.iaload, 1) := by decide +kernel
theorem dX7_recognised_62 : decode cX7_recognised 62 = .ok (.iload_n 3, 1) := by decide +kernel
theorem dX7_recognised_63 : decode cX7_recognised 63 = .ok (.if_icmp .le 18, 3) := by decide +kernel
theorem dX7_recognised_66 : decode cX7_recognised 66 = .ok (.aload_n 0, 1) := by decide +kernel
theorem dX7_recognised_67 : decode cX7_recognised 67 = .ok (.getfield 23, 3) := by decide +kernel
theorem dX7_recognised_70 : decode cX7_recognised 70 = .ok (.bipush 8, 2) := by decide +kernel
theorem dX7_recognised_72 : decode cX7_recognised 72 = .ok (.iload_n 1, 1) := by decide +kernel
theorem dX7_recognised_73 : decode cX7_recognised 73 = .ok (.imul, 1) := by decide +kernel
theorem dX7_recognised_74 : decode cX7_recognised 74 = .ok (.iload 4, 2) := by decide +kernel
theorem dX7_recognised_76 : decode cX7_recognised 76 = .ok (.iadd, 1) := by decide +kernel
theorem dX7_recognised_77 : decode cX7_recognised 77 = .ok (.iaload, 1) := by decide +kernel
theorem dX7_recognised_78 : decode cX7_recognised 78 = .ok (.goto 4, 3) := by decide +kernel
theorem dX7_recognised_81 : decode cX7_recognised 81 = .ok (.iload_n 3, 1) := by decide +kernel
theorem dX7_recognised_82 : decode cX7_recognised 82 = .ok (.istore_n 3, 1) := by decide +kernel
theorem dX7_recognised_83 : decode cX7_recognised 83 = .ok (.iinc 4 1, 3) := by decide +kernel
theorem dX7_recognised_86 : decode cX7_recognised 86 = .ok (.goto (-68), 3) := by decide +kernel
theorem dX7_recognised_89 : decode cX7_recognised 89 = .ok (.iload_n 2, 1) := by decide +kernel
theorem dX7_recognised_90 : decode cX7_recognised 90 = .ok (.ireturn, 1) := by decide +kernel
theorem dX7_restore_0 : decode cX7_restore 0 = .ok (.iload_n 1, 1) := by decide +kernel
theorem dX7_restore_1 : decode cX7_restore 1 = .ok (.iconst 0, 1) := by decide +kernel
theorem dX7_restore_2 : decode cX7_restore 2 = .ok (.iconst 1, 1) := by decide +kernel
theorem dX7_restore_3 : decode cX7_restore 3 = .ok (.invokestatic 91, 3) := by decide +kernel
theorem dX7_restore_6 : decode cX7_restore 6 = .ok (.ifCond .ne 6, 3) := by decide +kernel
theorem dX7_restore_9 : decode cX7_restore 9 = .ok (.bipush (-2), 2) := by decide +kernel
theorem dX7_restore_11 : decode cX7_restore 11 = .ok (.ireturn, 1) := by decide +kernel
theorem dX7_restore_12 : decode cX7_restore 12 = .ok (.aload_n 0, 1) := by decide +kernel
theorem dX7_restore_13 : decode cX7_restore 13 = .ok (.getfield 75, 3) := by decide +kernel
theorem dX7_restore_16 : decode cX7_restore 16 = .ok (.iload_n 1, 1) := by decide +kernel
theorem dX7_restore_17 : decode cX7_restore 17 = .ok (.baload, 1) := by decide +kernel
theorem dX7_restore_18 : decode cX7_restore 18 = .ok (.ifCond .ne 6, 3) := by decide +kernel
theorem dX7_restore_21 : decode cX7_restore 21 = .ok (.bipush (-3), 2) := by decide +kernel
theorem dX7_restore_23 : decode cX7_restore 23 = .ok (.ireturn, 1) := by decide +kernel
theorem dX7_restore_24 : decode cX7_restore 24 = .ok (.sipush 130, 3) := by decide +kernel
theorem dX7_restore_27 : decode cX7_restore 27 = .ok (.iload_n 1, 1) := by decide +kernel
theorem dX7_restore_28 : decode cX7_restore 28 = .ok (.imul, 1) := by decide +kernel
theorem dX7_restore_29 : decode cX7_restore 29 = .ok (.istore_n 2, 1) := by decide +kernel
theorem dX7_restore_30 : decode cX7_restore 30 = .ok (.iconst 0, 1) := by decide +kernel
theorem dX7_restore_31 : decode cX7_restore 31 = .ok (.istore_n 3, 1) := by decide +kernel
theorem dX7_restore_32 : decode cX7_restore 32 = .ok (.iload_n 3, 1) := by decide +kernel
theorem dX7_restore_33 : decode cX7_restore 33 = .ok (.bipush 8, 2) := by decide +kernel
theorem dX7_restore_35 : decode cX7_restore 35 = .ok (.if_icmp .ge 57, 3) := by decide +kernel
theorem dX7_restore_38 : decode cX7_restore 38 = .ok (.aload_n 0, 1) := by decide +kernel
theorem dX7_restore_39 : decode cX7_restore 39 = .ok (.getfield 13, 3) := by decide +kernel
theorem dX7_restore_42 : decode cX7_restore 42 = .ok (.iload_n 3, 1) := by decide +kernel
theorem dX7_restore_43 : decode cX7_restore 43 = .ok (.aload_n 0, 1) := by decide +kernel
theorem dX7_restore_44 : decode cX7_restore 44 = .ok (.getfield 72, 3) := by decide +kernel
theorem dX7_restore_47 : decode cX7_restore 47 = .ok (.iload_n 2, 1) := by decide +kernel
theorem dX7_restore_48 : decode cX7_restore 48 = .ok (.iload_n 3, 1) := by decide +kernel
theorem dX7_restore_49 : decode cX7_restore 49 = .ok (.iadd, 1) := by decide +kernel
theorem dX7_restore_50 : decode cX7_restore 50 = .ok (.iaload, 1) := by decide +kernel
theorem dX7_restore_51 : decode cX7_restore 51 = .ok (.iastore, 1) := by decide +kernel
theorem dX7_restore_52 : decode cX7_restore 52 = .ok (.aload_n 0, 1) := by decide +kernel
theorem dX7_restore_53 : decode cX7_restore 53 = .ok (.getfield 17, 3) := by decide +kernel
theorem dX7_restore_56 : decode cX7_restore 56 = .ok (.iload_n 3, 1) := by decide +kernel
theorem dX7_restore_57 : decode cX7_restore 57 = .ok (.aload_n 0, 1) := by decide +kernel
theorem dX7_restore_58 : decode cX7_restore 58 = .ok (.getfield 72, 3) := by decide +kernel
theorem dX7_restore_61 : decode cX7_restore 61 = .ok (.iload_n 2, 1) := by decide +kernel
theorem dX7_restore_62 : decode cX7_restore 62 = .ok (.bipush 8, 2) := by decide +kernel
theorem dX7_restore_64 : decode cX7_restore 64 = .ok (.iadd, 1) := by decide +kernel
theorem dX7_restore_65 : decode cX7_restore 65 = .ok (.iload_n 3, 1) := by decide +kernel
theorem dX7_restore_66 : decode cX7_restore 66 = .ok (.iadd, 1) := by decide +kernel
theorem dX7_restore_67 : decode cX7_restore 67 = .ok (.iaload, 1) := by decide +kernel
theorem dX7_restore_68 : decode cX7_restore 68 = .ok (.iastore, 1) := by decide +kernel
theorem dX7_restore_69 : decode cX7_restore 69 = .ok (.aload_n 0, 1) := by decide +kernel
theorem dX7_restore_70 : decode cX7_restore 70 = .ok (.getfield 20, 3) := by decide +kernel
theorem dX7_restore_73 : decode cX7_restore 73 = .ok (.iload_n 3, 1) := by decide +kernel
theorem dX7_restore_74 : decode cX7_restore 74 = .ok (.aload_n 0, 1) := by decide +kernel
theorem dX7_restore_75 : decode cX7_restore 75 = .ok (.getfield 72, 3) := by decide +kernel
theorem dX7_restore_78 : decode cX7_restore 78 = .ok (.iload_n 2, 1) := by decide +kernel
theorem dX7_restore_79 : decode cX7_restore 79 = .ok (.bipush 16, 2) := by decide +kernel
theorem dX7_restore_81 : decode cX7_restore 81 = .ok (.iadd, 1) := by decide +kernel
theorem dX7_restore_82 : decode cX7_restore 82 = .ok (.iload_n 3, 1) := by decide +kernel
theorem dX7_restore_83 : decode cX7_restore 83 = .ok (.iadd, 1) := by decide +kernel
theorem dX7_restore_84 : decode cX7_restore 84 = .ok (.iaload, 1) := by decide +kernel
theorem dX7_restore_85 : decode cX7_restore 85 = .ok (.iastore, 1) := by decide +kernel
theorem dX7_restore_86 : decode cX7_restore 86 = .ok (.iinc 3 1, 3) := by decide +kernel
theorem dX7_restore_89 : decode cX7_restore 89 = .ok (.goto (-57), 3) := by decide +kernel
theorem dX7_restore_92 : decode cX7_restore 92 = .ok (.iconst 0, 1) := by decide +kernel
theorem dX7_restore_93 : decode cX7_restore 93 = .ok (.istore_n 3, 1) := by decide +kernel
theorem dX7_restore_94 : decode cX7_restore 94 = .ok (.iload_n 3, 1) := by decide +kernel
theorem dX7_restore_95 : decode cX7_restore 95 = .ok (.bipush 64, 2) := by decide +kernel
theorem dX7_restore_97 : decode cX7_restore 97 = .ok (.if_icmp .ge 26, 3) := by decide +kernel
theorem dX7_restore_100 : decode cX7_restore 100 = .ok (.aload_n 0, 1) := by decide +kernel
theorem dX7_restore_101 : decode cX7_restore 101 = .ok (.getfield 23, 3) := by decide +kernel
theorem dX7_restore_104 : decode cX7_restore 104 = .ok (.iload_n 3, 1) := by decide +kernel
theorem dX7_restore_105 : decode cX7_restore 105 = .ok (.aload_n 0, 1) := by decide +kernel
theorem dX7_restore_106 : decode cX7_restore 106 = .ok (.getfield 72, 3) := by decide +kernel
theorem dX7_restore_109 : decode cX7_restore 109 = .ok (.iload_n 2, 1) := by decide +kernel
theorem dX7_restore_110 : decode cX7_restore 110 = .ok (.bipush 24, 2) := by decide +kernel
theorem dX7_restore_112 : decode cX7_restore 112 = .ok (.iadd, 1) := by decide +kernel
theorem dX7_restore_113 : decode cX7_restore 113 = .ok (.iload_n 3, 1) := by decide +kernel
theorem dX7_restore_114 : decode cX7_restore 114 = .ok (.iadd, 1) := by decide +kernel
theorem dX7_restore_115 : decode cX7_restore 115 = .ok (.iaload, 1) := by decide +kernel
theorem dX7_restore_116 : decode cX7_restore 116 = .ok (.iastore, 1) := by decide +kernel
theorem dX7_restore_117 : decode cX7_restore 117 = .ok (.iinc 3 1, 3) := by decide +kernel
theorem dX7_restore_120 : decode cX7_restore 120 = .ok (.goto (-26), 3) := by decide +kernel
theorem dX7_restore_123 : decode cX7_restore 123 = .ok (.iconst 0, 1) := by decide +kernel
theorem dX7_restore_124 : decode cX7_restore 124 = .ok (.istore_n 3, 1) := by decide +kernel
theorem dX7_restore_125 : decode cX7_restore 125 = .ok (.iload_n 3, 1) := by decide +kernel
theorem dX7_restore_126 : decode cX7_restore 126 = .ok (.bipush 16, 2) := by decide +kernel
theorem dX7_restore_128 : decode cX7_restore 128 = .ok (.if_icmp .ge 26, 3) := by decide +kernel
theorem dX7_restore_131 : decode cX7_restore 131 = .ok (.aload_n 0, 1) := by decide +kernel
theorem dX7_restore_132 : decode cX7_restore 132 = .ok (.getfield 38, 3) := by decide +kernel
theorem dX7_restore_135 : decode cX7_restore 135 = .ok (.iload_n 3, 1) := by decide +kernel
theorem dX7_restore_136 : decode cX7_restore 136 = .ok (.aload_n 0, 1) := by decide +kernel
theorem dX7_restore_137 : decode cX7_restore 137 = .ok (.getfield 72, 3) := by decide +kernel
theorem dX7_restore_140 : decode cX7_restore 140 = .ok (.iload_n 2, 1) := by decide +kernel
theorem dX7_restore_141 : decode cX7_restore 141 = .ok (.bipush 88, 2) := by decide +kernel
theorem dX7_restore_143 : decode cX7_restore 143 = .ok (.iadd, 1) := by decide +kernel
theorem dX7_restore_144 : decode cX7_restore 144 = .ok (.iload_n 3, 1) := by decide +kernel
theorem dX7_restore_145 : decode cX7_restore 145 = .ok (.iadd, 1) := by decide +kernel
theorem dX7_restore_146 : decode cX7_restore 146 = .ok (.iaload, 1) := by decide +kernel
theorem dX7_restore_147 : decode cX7_restore 147 = .ok (.iastore, 1) := by decide +kernel
theorem dX7_restore_148 : decode cX7_restore 148 = .ok (.iinc 3 1, 3) := by decide +kernel
theorem dX7_restore_151 : decode cX7_restore 151 = .ok (.goto (-26), 3) := by decide +kernel
theorem dX7_restore_154 : decode cX7_restore 154 = .ok (.aload_n 0, 1) := by decide +kernel
theorem dX7_restore_155 : decode cX7_restore 155 = .ok (.aload_n 0, 1) := by decide +kernel
theorem dX7_restore_156 : decode cX7_restore 156 = .ok (.getfield 72, 3) := by decide +kernel
theorem dX7_restore_159 : decode cX7_restore 159 = .ok (.iload_n 2, 1) := by decide +kernel
theorem dX7_restore_160 : decode cX7_restore 160 = .ok (.bipush 104, 2) := by decide +kernel
theorem dX7_restore_162 : decode cX7_restore 162 = .ok (.iadd, 1) := by decide +kernel
theorem dX7_restore_163 : decode cX7_restore 163 = .ok (.iaload, 1) := by decide +kernel
theorem dX7_restore_164 : decode cX7_restore 164 = .ok (.putfield 7, 3) := by decide +kernel
theorem dX7_restore_167 : decode cX7_restore 167 = .ok (.aload_n 0, 1) := by decide +kernel
theorem dX7_restore_168 : decode cX7_restore 168 = .ok (.aload_n 0, 1) := by decide +kernel
theorem dX7_restore_169 : decode cX7_restore 169 = .ok (.getfield 72, 3) := by decide +kernel
theorem dX7_restore_172 : decode cX7_restore 172 = .ok (.iload_n 2, 1) := by decide +kernel
theorem dX7_restore_173 : decode cX7_restore 173 = .ok (.bipush 105, 2) := by decide +kernel
theorem dX7_restore_175 : decode cX7_restore 175 = .ok (.iadd, 1) := by decide +kernel
theorem dX7_restore_176 : decode cX7_restore 176 = .ok (.iaload, 1) := by decide +kernel
theorem dX7_restore_177 : decode cX7_restore 177 = .ok (.putfield 82, 3) := by decide +kernel
theorem dX7_restore_180 : decode cX7_restore 180 = .ok (.aload_n 0, 1) := by decide +kernel
theorem dX7_restore_181 : decode cX7_restore 181 = .ok (.aload_n 0, 1) := by decide +kernel
theorem dX7_restore_182 : decode cX7_restore 182 = .ok (.getfield 72, 3) := by decide +kernel
theorem dX7_restore_185 : decode cX7_restore 185 = .ok (.iload_n 2, 1) := by decide +kernel
theorem dX7_restore_186 : decode cX7_restore 186 = .ok (.bipush 106, 2) := by decide +kernel
theorem dX7_restore_188 : decode cX7_restore 188 = .ok (.iadd, 1) := by decide +kernel
theorem dX7_restore_189 : decode cX7_restore 189 = .ok (.iaload, 1) := by decide +kernel
theorem dX7_restore_190 : decode cX7_restore 190 = .ok (.putfield 85, 3) := by decide +kernel
theorem dX7_restore_193 : decode cX7_restore 193 = .ok (.aload_n 0, 1) := by decide +kernel
theorem dX7_restore_194 : decode cX7_restore 194 = .ok (.aload_n 0, 1) := by decide +kernel
theorem dX7_restore_195 : decode cX7_restore 195 = .ok (.getfield 72, 3) := by decide +kernel
theorem dX7_restore_198 : decode cX7_restore 198 = .ok (.iload_n 2, 1) := by decide +kernel
theorem dX7_restore_199 : decode cX7_restore 199 = .ok (.bipush 107, 2) := by decide +kernel
theorem dX7_restore_201 : decode cX7_restore 201 = .ok (.iadd, 1) := by decide +kernel
theorem dX7_restore_202 : decode cX7_restore 202 = .ok (.iaload, 1) := by decide +kernel
theorem dX7_restore_203 : decode cX7_restore 203 = .ok (.putfield 26, 3) := by decide +kernel
theorem dX7_restore_206 : decode cX7_restore 206 = .ok (.aload_n 0, 1) := by decide +kernel
theorem dX7_restore_207 : decode cX7_restore 207 = .ok (.aload_n 0, 1) := by decide +kernel
theorem dX7_restore_208 : decode cX7_restore 208 = .ok (.getfield 72, 3) := by decide +kernel
theorem dX7_restore_211 : decode cX7_restore 211 = .ok (.iload_n 2, 1) := by decide +kernel
theorem dX7_restore_212 : decode cX7_restore 212 = .ok (.bipush 108, 2) := by decide +kernel
theorem dX7_restore_214 : decode cX7_restore 214 = .ok (.iadd, 1) := by decide +kernel
theorem dX7_restore_215 : decode cX7_restore 215 = .ok (.iaload, 1) := by decide +kernel
theorem dX7_restore_216 : decode cX7_restore 216 = .ok (.putfield 29, 3) := by decide +kernel
theorem dX7_restore_219 : decode cX7_restore 219 = .ok (.aload_n 0, 1) := by decide +kernel
theorem dX7_restore_220 : decode cX7_restore 220 = .ok (.aload_n 0, 1) := by decide +kernel
theorem dX7_restore_221 : decode cX7_restore 221 = .ok (.getfield 72, 3) := by decide +kernel
theorem dX7_restore_224 : decode cX7_restore 224 = .ok (.iload_n 2, 1) := by decide +kernel
theorem dX7_restore_225 : decode cX7_restore 225 = .ok (.bipush 109, 2) := by decide +kernel
theorem dX7_restore_227 : decode cX7_restore 227 = .ok (.iadd, 1) := by decide +kernel
theorem dX7_restore_228 : decode cX7_restore 228 = .ok (.iaload, 1) := by decide +kernel
theorem dX7_restore_229 : decode cX7_restore 229 = .ok (.putfield 32, 3) := by decide +kernel
theorem dX7_restore_232 : decode cX7_restore 232 = .ok (.aload_n 0, 1) := by decide +kernel
theorem dX7_restore_233 : decode cX7_restore 233 = .ok (.aload_n 0, 1) := by decide +kernel
theorem dX7_restore_234 : decode cX7_restore 234 = .ok (.getfield 72, 3) := by decide +kernel
theorem dX7_restore_237 : decode cX7_restore 237 = .ok (.iload_n 2, 1) := by decide +kernel
theorem dX7_restore_238 : decode cX7_restore 238 = .ok (.bipush 110, 2) := by decide +kernel
theorem dX7_restore_240 : decode cX7_restore 240 = .ok (.iadd, 1) := by decide +kernel
theorem dX7_restore_241 : decode cX7_restore 241 = .ok (.iaload, 1) := by decide +kernel
theorem dX7_restore_242 : decode cX7_restore 242 = .ok (.putfield 35, 3) := by decide +kernel
theorem dX7_restore_245 : decode cX7_restore 245 = .ok (.aload_n 0, 1) := by decide +kernel
theorem dX7_restore_246 : decode cX7_restore 246 = .ok (.aload_n 0, 1) := by decide +kernel
theorem dX7_restore_247 : decode cX7_restore 247 = .ok (.getfield 72, 3) := by decide +kernel
theorem dX7_restore_250 : decode cX7_restore 250 = .ok (.iload_n 2, 1) := by decide +kernel
theorem dX7_restore_251 : decode cX7_restore 251 = .ok (.bipush 111, 2) := by decide +kernel
theorem dX7_restore_253 : decode cX7_restore 253 = .ok (.iadd, 1) := by decide +kernel
theorem dX7_restore_254 : decode cX7_restore 254 = .ok (.iaload, 1) := by decide +kernel
theorem dX7_restore_255 : decode cX7_restore 255 = .ok (.putfield 88, 3) := by decide +kernel
theorem dX7_restore_258 : decode cX7_restore 258 = .ok (.iconst 1, 1) := by decide +kernel
theorem dX7_restore_259 : decode cX7_restore 259 = .ok (.ireturn, 1) := by decide +kernel
theorem dX7_salt_0 : decode cX7_salt 0 = .ok (.aload_n 0, 1) := by decide +kernel
theorem dX7_salt_1 : decode cX7_salt 1 = .ok (.getfield 44, 3) := by decide +kernel
theorem dX7_salt_4 : decode cX7_salt 4 = .ok (.iload_n 1, 1) := by decide +kernel
theorem dX7_salt_5 : decode cX7_salt 5 = .ok (.aload_n 0, 1) := by decide +kernel
theorem dX7_salt_6 : decode cX7_salt 6 = .ok (.getfield 44, 3) := by decide +kernel
theorem dX7_salt_9 : decode cX7_salt 9 = .ok (.iload_n 1, 1) := by decide +kernel
theorem dX7_salt_10 : decode cX7_salt 10 = .ok (.iaload, 1) := by decide +kernel
theorem dX7_salt_11 : decode cX7_salt 11 = .ok (.iconst 2, 1) := by decide +kernel
theorem dX7_salt_12 : decode cX7_salt 12 = .ok (.invokestatic 129, 3) := by decide +kernel
theorem dX7_salt_15 : decode cX7_salt 15 = .ok (.iastore, 1) := by decide +kernel
theorem dX7_salt_16 : decode cX7_salt 16 = .ok (.iload_n 1, 1) := by decide +kernel
theorem dX7_salt_17 : decode cX7_salt 17 = .ok (.ifCond .le 23, 3) := by decide +kernel
theorem dX7_salt_20 : decode cX7_salt 20 = .ok (.aload_n 0, 1) := by decide +kernel
theorem dX7_salt_21 : decode cX7_salt 21 = .ok (.getfield 44, 3) := by decide +kernel
theorem dX7_salt_24 : decode cX7_salt 24 = .ok (.iload_n 1, 1) := by decide +kernel
theorem dX7_salt_25 : decode cX7_salt 25 = .ok (.iconst 1, 1) := by decide +kernel
theorem dX7_salt_26 : decode cX7_salt 26 = .ok (.isub, 1) := by decide +kernel
theorem dX7_salt_27 : decode cX7_salt 27 = .ok (.aload_n 0, 1) := by decide +kernel
theorem dX7_salt_28 : decode cX7_salt 28 = .ok (.getfield 44, 3) := by decide +kernel
theorem dX7_salt_31 : decode cX7_salt 31 = .ok (.iload_n 1, 1) := by decide +kernel
theorem dX7_salt_32 : decode cX7_salt 32 = .ok (.iconst 1, 1) := by decide +kernel
theorem dX7_salt_33 : decode cX7_salt 33 = .ok (.isub, 1) := by decide +kernel
theorem dX7_salt_34 : decode cX7_salt 34 = .ok (.iaload, 1) := by decide +kernel
theorem dX7_salt_35 : decode cX7_salt 35 = .ok (.iconst 1, 1) := by decide +kernel
theorem dX7_salt_36 : decode cX7_salt 36 = .ok (.invokestatic 129, 3) := by decide +kernel
theorem dX7_salt_39 : decode cX7_salt 39 = .ok (.iastore, 1) := by decide +kernel
theorem dX7_salt_40 : decode cX7_salt 40 = .ok (.iload_n 1, 1) := by decide +kernel
theorem dX7_salt_41 : decode cX7_salt 41 = .ok (.aload_n 0, 1) := by decide +kernel
theorem dX7_salt_42 : decode cX7_salt 42 = .ok (.getfield 7, 3) := by decide +kernel
theorem dX7_salt_45 : decode cX7_salt 45 = .ok (.iconst 1, 1) := by decide +kernel
theorem dX7_salt_46 : decode cX7_salt 46 = .ok (.isub, 1) := by decide +kernel
theorem dX7_salt_47 : decode cX7_salt 47 = .ok (.if_icmp .ge 23, 3) := by decide +kernel
theorem dX7_salt_50 : decode cX7_salt 50 = .ok (.aload_n 0, 1) := by decide +kernel
theorem dX7_salt_51 : decode cX7_salt 51 = .ok (.getfield 44, 3) := by decide +kernel
theorem dX7_salt_54 : decode cX7_salt 54 = .ok (.iload_n 1, 1) := by decide +kernel
theorem dX7_salt_55 : decode cX7_salt 55 = .ok (.iconst 1, 1) := by decide +kernel
theorem dX7_salt_56 : decode cX7_salt 56 = .ok (.iadd, 1) := by decide +kernel
theorem dX7_salt_57 : decode cX7_salt 57 = .ok (.aload_n 0, 1) := by decide +kernel
theorem dX7_salt_58 : decode cX7_salt 58 = .ok (.getfield 44, 3) := by decide +kernel
theorem dX7_salt_61 : decode cX7_salt 61 = .ok (.iload_n 1, 1) := by decide +kernel
theorem dX7_salt_62 : decode cX7_salt 62 = .ok (.iconst 1, 1) := by decide +kernel
theorem dX7_salt_63 : decode cX7_salt 63 = .ok (.iadd, 1) := by decide +kernel
theorem dX7_salt_64 : decode cX7_salt 64 = .ok (.iaload, 1) := by decide +kernel
theorem dX7_salt_65 : decode cX7_salt 65 = .ok (.iconst 1, 1) := by decide +kernel
theorem dX7_salt_66 : decode cX7_salt 66 = .ok (.invokestatic 129, 3) := by decide +kernel
theorem dX7_salt_69 : decode cX7_salt 69 = .ok (.iastore, 1) := by decide +kernel
theorem dX7_salt_70 : decode cX7_salt 70 = .ok (.return_, 1) := by decide +kernel
theorem dX7_salted_0 : decode cX7_salted 0 = .ok (.iload_n 1, 1) := by decide +kernel
theorem dX7_salted_1 : decode cX7_salted 1 = .ok (.iconst 0, 1) := by decide +kernel
theorem dX7_salted_2 : decode cX7_salted 2 = .ok (.sipush 999, 3) := by decide +kernel
theorem dX7_salted_5 : decode cX7_salted 5 = .ok (.invokestatic 91, 3) := by decide +kernel
theorem dX7_salted_8 : decode cX7_salted 8 = .ok (.ifCond .ne 6, 3) := by decide +kernel
theorem dX7_salted_11 : decode cX7_salted 11 = .ok (.bipush (-2), 2) := by decide +kernel
theorem dX7_salted_13 : decode cX7_salted 13 = .ok (.ireturn, 1) := by decide +kernel
theorem dX7_salted_14 : decode cX7_salted 14 = .ok (.iconst 1, 1) := by decide +kernel
theorem dX7_salted_15 : decode cX7_salted 15 = .ok (.istore_n 2, 1) := by decide +kernel
theorem dX7_salted_16 : decode cX7_salted 16 = .ok (.iconst 0, 1) := by decide +kernel
theorem dX7_salted_17 : decode cX7_salted 17 = .ok (.istore_n 3, 1) := by decide +kernel
theorem dX7_salted_18 : decode cX7_salted 18 = .ok (.iload_n 3, 1) := by decide +kernel
theorem dX7_salted_19 : decode cX7_salted 19 = .ok (.bipush 6, 2) := by decide +kernel
theorem dX7_salted_21 : decode cX7_salted 21 = .ok (.if_icmp .ge 151, 3) := by decide +kernel
theorem dX7_salted_24 : decode cX7_salted 24 = .ok (.iconst 0, 1) := by decide +kernel
theorem dX7_salted_25 : decode cX7_salted 25 = .ok (.istore 4, 2) := by decide +kernel
theorem dX7_salted_27 : decode cX7_salted 27 = .ok (.iload 4, 2) := by decide +kernel
theorem dX7_salted_29 : decode cX7_salted 29 = .ok (.iload_n 2, 1) := by decide +kernel
theorem dX7_salted_30 : decode cX7_salted 30 = .ok (.if_icmp .ge 129, 3) := by decide +kernel
theorem dX7_salted_33 : decode cX7_salted 33 = .ok (.aload_n 0, 1) := by decide +kernel
theorem dX7_salted_34 : decode cX7_salted 34 = .ok (.invokevirtual 168, 3) := by decide +kernel
theorem dX7_salted_37 : decode cX7_salted 37 = .ok (.iload 4, 2) := by decide +kernel
theorem dX7_salted_39 : decode cX7_salted 39 = .ok (.istore 5, 2) := by decide +kernel
theorem dX7_salted_41 : decode cX7_salted 41 = .ok (.iconst 1, 1) := by decide +kernel
theorem dX7_salted_42 : decode cX7_salted 42 = .ok (.istore 6, 2) := by decide +kernel
theorem dX7_salted_44 : decode cX7_salted 44 = .ok (.iconst 0, 1) := by decide +kernel
theorem dX7_salted_45 : decode cX7_salted 45 = .ok (.istore 7, 2) := by decide +kernel
theorem dX7_salted_47 : decode cX7_salted 47 = .ok (.iload 7, 2) := by decide +kernel
theorem dX7_salted_49 : decode cX7_salted 49 = .ok (.iload_n 3, 1) := by decide +kernel
theorem dX7_salted_50 : decode cX7_salted 50 = .ok (.if_icmp .ge 55, 3) := by decide +kernel
theorem dX7_salted_53 : decode cX7_salted 53 = .ok (.iload 6, 2) := by decide +kernel
theorem dX7_salted_55 : decode cX7_salted 55 = .ok (.ifCond .eq 50, 3) := by decide +kernel
theorem dX7_salted_58 : decode cX7_salted 58 = .ok (.aload_n 0, 1) := by decide +kernel
theorem dX7_salted_59 : decode cX7_salted 59 = .ok (.iload 5, 2) := by decide +kernel
theorem dX7_salted_61 : decode cX7_salted 61 = .ok (.aload_n 0, 1) := by decide +kernel
theorem dX7_salted_62 : decode cX7_salted 62 = .ok (.getfield 7, 3) := by decide +kernel
theorem dX7_salted_65 : decode cX7_salted 65 = .ok (.irem, 1) := by decide +kernel
theorem dX7_salted_66 : decode cX7_salted 66 = .ok (.invokevirtual 152, 3) := by decide +kernel
theorem dX7_salted_69 : decode cX7_salted 69 = .ok (.ifCond .ne 7, 3) := by decide +kernel
theorem dX7_salted_72 : decode cX7_salted 72 = .ok (.iconst 1, 1) := by decide +kernel
theorem dX7_salted_73 : decode cX7_salted 73 = .ok (.goto 4, 3) := by decide +kernel
theorem dX7_salted_76 : decode cX7_salted 76 = .ok (.iconst 0, 1) := by decide +kernel
theorem dX7_salted_77 : decode cX7_salted 77 = .ok (.istore 6, 2) := by decide +kernel
theorem dX7_salted_79 : decode cX7_salted 79 = .ok (.aload_n 0, 1) := by decide +kernel
theorem dX7_salted_80 : decode cX7_salted 80 = .ok (.iload 5, 2) := by decide +kernel
theorem dX7_salted_82 : decode cX7_salted 82 = .ok (.aload_n 0, 1) := by decide +kernel
theorem dX7_salted_83 : decode cX7_salted 83 = .ok (.getfield 7, 3) := by decide +kernel
theorem dX7_salted_86 : decode cX7_salted 86 = .ok (.irem, 1) := by decide +kernel
theorem dX7_salted_87 : decode cX7_salted 87 = .ok (.invokevirtual 155, 3) := by decide +kernel
theorem dX7_salted_90 : decode cX7_salted 90 = .ok (.iload 5, 2) := by decide +kernel
theorem dX7_salted_92 : decode cX7_salted 92 = .ok (.aload_n 0, 1) := by decide +kernel
theorem dX7_salted_93 : decode cX7_salted 93 = .ok (.getfield 7, 3) := by decide +kernel
theorem dX7_salted_96 : decode cX7_salted 96 = .ok (.idiv, 1) := by decide +kernel
theorem dX7_salted_97 : decode cX7_salted 97 = .ok (.istore 5, 2) := by decide +kernel
theorem dX7_salted_99 : decode cX7_salted 99 = .ok (.iinc 7 1, 3) := by decide +kernel
theorem dX7_salted_102 : decode cX7_salted 102 = .ok (.goto (-55), 3) := by decide +kernel
theorem dX7_salted_105 : decode cX7_salted 105 = .ok (.iconst 0, 1) := by decide +kernel
theorem dX7_salted_106 : decode cX7_salted 106 = .ok (.istore 7, 2) := by decide +kernel
theorem dX7_salted_108 : decode cX7_salted 108 = .ok (.iload 7, 2) := by decide +kernel
theorem dX7_salted_110 : decode cX7_salted 110 = .ok (.aload_n 0, 1) := by decide +kernel
theorem dX7_salted_111 : decode cX7_salted 111 = .ok (.getfield 7, 3) := by decide +kernel
theorem dX7_salted_114 : decode cX7_salted 114 = .ok (.if_icmp .ge 32, 3) := by decide +kernel
theorem dX7_salted_117 : decode cX7_salted 117 = .ok (.iload 6, 2) := by decide +kernel
theorem dX7_salted_119 : decode cX7_salted 119 = .ok (.ifCond .eq 27, 3) := by decide +kernel
theorem dX7_salted_122 : decode cX7_salted 122 = .ok (.aload_n 0, 1) := by decide +kernel
theorem dX7_salted_123 : decode cX7_salted 123 = .ok (.getfield 44, 3) := by decide +kernel
theorem dX7_salted_126 : decode cX7_salted 126 = .ok (.iload 7, 2) := by decide +kernel
theorem dX7_salted_128 : decode cX7_salted 128 = .ok (.iaload, 1) := by decide +kernel
theorem dX7_salted_129 : decode cX7_salted 129 = .ok (.iload_n 1, 1) := by decide +kernel
theorem dX7_salted_130 : decode cX7_salted 130 = .ok (.if_icmp .gt 7, 3) := by decide +kernel
theorem dX7_salted_133 : decode cX7_salted 133 = .ok (.iconst 1, 1) := by decide +kernel
theorem dX7_salted_134 : decode cX7_salted 134 = .ok (.goto 4, 3) := by decide +kernel
theorem dX7_salted_137 : decode cX7_salted 137 = .ok (.iconst 0, 1) := by decide +kernel
theorem dX7_salted_138 : decode cX7_salted 138 = .ok (.istore 6, 2) := by decide +kernel
theorem dX7_salted_140 : decode cX7_salted 140 = .ok (.iinc 7 1, 3) := by decide +kernel
theorem dX7_salted_143 : decode cX7_salted 143 = .ok (.goto (-35), 3) := by decide +kernel
theorem dX7_salted_146 : decode cX7_salted 146 = .ok (.iload 6, 2) := by decide +kernel
theorem dX7_salted_148 : decode cX7_salted 148 = .ok (.ifCond .eq 5, 3) := by decide +kernel
theorem dX7_salted_151 : decode cX7_salted 151 = .ok (.iload_n 3, 1) := by decide +kernel
theorem dX7_salted_152 : decode cX7_salted 152 = .ok (.ireturn, 1) := by decide +kernel
theorem dX7_salted_153 : decode cX7_salted 153 = .ok (.iinc 4 1, 3) := by decide +kernel
theorem dX7_salted_156 : decode cX7_salted 156 = .ok (.goto (-129), 3) := by decide +kernel
theorem dX7_salted_159 : decode cX7_salted 159 = .ok (.iload_n 2, 1) := by decide +kernel
theorem dX7_salted_160 : decode cX7_salted 160 = .ok (.aload_n 0, 1) := by decide +kernel
theorem dX7_salted_161 : decode cX7_salted 161 = .ok (.getfield 7, 3) := by decide +kernel
theorem dX7_salted_164 : decode cX7_salted 164 = .ok (.imul, 1) := by decide +kernel
theorem dX7_salted_165 : decode cX7_salted 165 = .ok (.istore_n 2, 1) := by decide +kernel
theorem dX7_salted_166 : decode cX7_salted 166 = .ok (.iinc 3 1, 3) := by decide +kernel
theorem dX7_salted_169 : decode cX7_salted 169 = .ok (.goto (-151), 3) := by decide +kernel
theorem dX7_salted_172 : decode cX7_salted 172 = .ok (.bipush (-6), 2) := by decide +kernel
theorem dX7_salted_174 : decode cX7_salted 174 = .ok (.ireturn, 1) := by decide +kernel
theorem dX7_say_0 : decode cX7_say 0 = .ok (.iload_n 1, 1) := by decide +kernel
theorem dX7_say_1 : decode cX7_say 1 = .ok (.bipush 33, 2) := by decide +kernel
theorem dX7_say_3 : decode cX7_say 3 = .ok (.bipush 126, 2) := by decide +kernel
theorem dX7_say_5 : decode cX7_say 5 = .ok (.invokestatic 91, 3) := by decide +kernel
theorem dX7_say_8 : decode cX7_say 8 = .ok (.ifCond .ne 6, 3) := by decide +kernel
theorem dX7_say_11 : decode cX7_say 11 = .ok (.bipush (-2), 2) := by decide +kernel
theorem dX7_say_13 : decode cX7_say 13 = .ok (.ireturn, 1) := by decide +kernel
theorem dX7_say_14 : decode cX7_say 14 = .ok (.aload_n 0, 1) := by decide +kernel
theorem dX7_say_15 : decode cX7_say 15 = .ok (.getfield 99, 3) := by decide +kernel
theorem dX7_say_18 : decode cX7_say 18 = .ok (.bipush 60, 2) := by decide +kernel
theorem dX7_say_20 : decode cX7_say 20 = .ok (.if_icmp .ne 6, 3) := by decide +kernel
theorem dX7_say_23 : decode cX7_say 23 = .ok (.bipush (-4), 2) := by decide +kernel
theorem dX7_say_25 : decode cX7_say 25 = .ok (.ireturn, 1) := by decide +kernel
theorem dX7_say_26 : decode cX7_say 26 = .ok (.aload_n 0, 1) := by decide +kernel
theorem dX7_say_27 : decode cX7_say 27 = .ok (.getfield 41, 3) := by decide +kernel
theorem dX7_say_30 : decode cX7_say 30 = .ok (.aload_n 0, 1) := by decide +kernel
theorem dX7_say_31 : decode cX7_say 31 = .ok (.getfield 99, 3) := by decide +kernel
theorem dX7_say_34 : decode cX7_say 34 = .ok (.iload_n 1, 1) := by decide +kernel
theorem dX7_say_35 : decode cX7_say 35 = .ok (.iastore, 1) := by decide +kernel
theorem dX7_say_36 : decode cX7_say 36 = .ok (.aload_n 0, 1) := by decide +kernel
theorem dX7_say_37 : decode cX7_say 37 = .ok (.dup, 1) := by decide +kernel
theorem dX7_say_38 : decode cX7_say 38 = .ok (.getfield 99, 3) := by decide +kernel
theorem dX7_say_41 : decode cX7_say 41 = .ok (.iconst 1, 1) := by decide +kernel
theorem dX7_say_42 : decode cX7_say 42 = .ok (.iadd, 1) := by decide +kernel
theorem dX7_say_43 : decode cX7_say 43 = .ok (.putfield 99, 3) := by decide +kernel
theorem dX7_say_46 : decode cX7_say 46 = .ok (.aload_n 0, 1) := by decide +kernel
theorem dX7_say_47 : decode cX7_say 47 = .ok (.getfield 99, 3) := by decide +kernel
theorem dX7_say_50 : decode cX7_say 50 = .ok (.ireturn, 1) := by decide +kernel
theorem dX7_seen_0 : decode cX7_seen 0 = .ok (.aload_n 0, 1) := by decide +kernel
theorem dX7_seen_1 : decode cX7_seen 1 = .ok (.iload_n 1, 1) := by decide +kernel
theorem dX7_seen_2 : decode cX7_seen 2 = .ok (.invokevirtual 95, 3) := by decide +kernel
theorem dX7_seen_5 : decode cX7_seen 5 = .ok (.ifCond .ne 5, 3) := by decide +kernel
theorem dX7_seen_8 : decode cX7_seen 8 = .ok (.iconst (-1), 1) := by decide +kernel
theorem dX7_seen_9 : decode cX7_seen 9 = .ok (.ireturn, 1) := by decide +kernel
theorem dX7_seen_10 : decode cX7_seen 10 = .ok (.iload_n 2, 1) := by decide +kernel
theorem dX7_seen_11 : decode cX7_seen 11 = .ok (.iconst 0, 1) := by decide +kernel
theorem dX7_seen_12 : decode cX7_seen 12 = .ok (.sipush 999, 3) := by decide +kernel
theorem dX7_seen_15 : decode cX7_seen 15 = .ok (.invokestatic 91, 3) := by decide +kernel
theorem dX7_seen_18 : decode cX7_seen 18 = .ok (.ifCond .ne 6, 3) := by decide +kernel
theorem dX7_seen_21 : decode cX7_seen 21 = .ok (.bipush (-2), 2) := by decide +kernel
theorem dX7_seen_23 : decode cX7_seen 23 = .ok (.ireturn, 1) := by decide +kernel
theorem dX7_seen_24 : decode cX7_seen 24 = .ok (.aload_n 0, 1) := by decide +kernel
theorem dX7_seen_25 : decode cX7_seen 25 = .ok (.getfield 88, 3) := by decide +kernel
theorem dX7_seen_28 : decode cX7_seen 28 = .ok (.bipush 8, 2) := by decide +kernel
theorem dX7_seen_30 : decode cX7_seen 30 = .ok (.if_icmp .ne 6, 3) := by decide +kernel
theorem dX7_seen_33 : decode cX7_seen 33 = .ok (.bipush (-4), 2) := by decide +kernel
theorem dX7_seen_35 : decode cX7_seen 35 = .ok (.ireturn, 1) := by decide +kernel
theorem dX7_seen_36 : decode cX7_seen 36 = .ok (.aload_n 0, 1) := by decide +kernel
theorem dX7_seen_37 : decode cX7_seen 37 = .ok (.getfield 38, 3) := by decide +kernel
theorem dX7_seen_40 : decode cX7_seen 40 = .ok (.iconst 2, 1) := by decide +kernel
theorem dX7_seen_41 : decode cX7_seen 41 = .ok (.aload_n 0, 1) := by decide +kernel
theorem dX7_seen_42 : decode cX7_seen 42 = .ok (.getfield 88, 3) := by decide +kernel
theorem dX7_seen_45 : decode cX7_seen 45 = .ok (.imul, 1) := by decide +kernel
theorem dX7_seen_46 : decode cX7_seen 46 = .ok (.iload_n 1, 1) := by decide +kernel
theorem dX7_seen_47 : decode cX7_seen 47 = .ok (.iastore, 1) := by decide +kernel
theorem dX7_seen_48 : decode cX7_seen 48 = .ok (.aload_n 0, 1) := by decide +kernel
theorem dX7_seen_49 : decode cX7_seen 49 = .ok (.getfield 38, 3) := by decide +kernel
theorem dX7_seen_52 : decode cX7_seen 52 = .ok (.iconst 2, 1) := by decide +kernel
theorem dX7_seen_53 : decode cX7_seen 53 = .ok (.aload_n 0, 1) := by decide +kernel
theorem dX7_seen_54 : decode cX7_seen 54 = .ok (.getfield 88, 3) := by decide +kernel
theorem dX7_seen_57 : decode cX7_seen 57 = .ok (.imul, 1) := by decide +kernel
theorem dX7_seen_58 : decode cX7_seen 58 = .ok (.iconst 1, 1) := by decide +kernel
theorem dX7_seen_59 : decode cX7_seen 59 = .ok (.iadd, 1) := by decide +kernel
theorem dX7_seen_60 : decode cX7_seen 60 = .ok (.iload_n 2, 1) := by decide +kernel
theorem dX7_seen_61 : decode cX7_seen 61 = .ok (.iastore, 1) := by decide +kernel
theorem dX7_seen_62 : decode cX7_seen 62 = .ok (.aload_n 0, 1) := by decide +kernel
theorem dX7_seen_63 : decode cX7_seen 63 = .ok (.dup, 1) := by decide +kernel
theorem dX7_seen_64 : decode cX7_seen 64 = .ok (.getfield 88, 3) := by decide +kernel
theorem dX7_seen_67 : decode cX7_seen 67 = .ok (.iconst 1, 1) := by decide +kernel
theorem dX7_seen_68 : decode cX7_seen 68 = .ok (.iadd, 1) := by decide +kernel
theorem dX7_seen_69 : decode cX7_seen 69 = .ok (.putfield 88, 3) := by decide +kernel
theorem dX7_seen_72 : decode cX7_seen 72 = .ok (.aload_n 0, 1) := by decide +kernel
theorem dX7_seen_73 : decode cX7_seen 73 = .ok (.getfield 88, 3) := by decide +kernel
theorem dX7_seen_76 : decode cX7_seen 76 = .ok (.ireturn, 1) := by decide +kernel
theorem dX7_set_0 : decode cX7_set 0 = .ok (.iload_n 1, 1) := by decide +kernel
theorem dX7_set_1 : decode cX7_set 1 = .ok (.iconst 0, 1) := by decide +kernel
theorem dX7_set_2 : decode cX7_set 2 = .ok (.iconst 3, 1) := by decide +kernel
theorem dX7_set_3 : decode cX7_set 3 = .ok (.invokestatic 91, 3) := by decide +kernel
theorem dX7_set_6 : decode cX7_set 6 = .ok (.ifCond .eq 22, 3) := by decide +kernel
theorem dX7_set_9 : decode cX7_set 9 = .ok (.iload_n 2, 1) := by decide +kernel
theorem dX7_set_10 : decode cX7_set 10 = .ok (.iload_n 1, 1) := by decide +kernel
theorem dX7_set_11 : decode cX7_set 11 = .ok (.iconst 3, 1) := by decide +kernel
theorem dX7_set_12 : decode cX7_set 12 = .ok (.if_icmp .ne 7, 3) := by decide +kernel
theorem dX7_set_15 : decode cX7_set 15 = .ok (.iconst 1, 1) := by decide +kernel
theorem dX7_set_16 : decode cX7_set 16 = .ok (.goto 4, 3) := by decide +kernel
theorem dX7_set_19 : decode cX7_set 19 = .ok (.iconst 0, 1) := by decide +kernel
theorem dX7_set_20 : decode cX7_set 20 = .ok (.bipush 9, 2) := by decide +kernel
theorem dX7_set_22 : decode cX7_set 22 = .ok (.invokestatic 91, 3) := by decide +kernel
theorem dX7_set_25 : decode cX7_set 25 = .ok (.ifCond .ne 6, 3) := by decide +kernel
theorem dX7_set_28 : decode cX7_set 28 = .ok (.bipush (-2), 2) := by decide +kernel
theorem dX7_set_30 : decode cX7_set 30 = .ok (.ireturn, 1) := by decide +kernel
theorem dX7_set_31 : decode cX7_set 31 = .ok (.iload_n 1, 1) := by decide +kernel
theorem dX7_set_32 : decode cX7_set 32 = .ok (.ifCond .ne 10, 3) := by decide +kernel
theorem dX7_set_35 : decode cX7_set 35 = .ok (.aload_n 0, 1) := by decide +kernel
theorem dX7_set_36 : decode cX7_set 36 = .ok (.getfield 26, 3) := by decide +kernel
theorem dX7_set_39 : decode cX7_set 39 = .ok (.goto 31, 3) := by decide +kernel
theorem dX7_set_42 : decode cX7_set 42 = .ok (.iload_n 1, 1) := by decide +kernel
theorem dX7_set_43 : decode cX7_set 43 = .ok (.iconst 1, 1) := by decide +kernel
theorem dX7_set_44 : decode cX7_set 44 = .ok (.if_icmp .ne 10, 3) := by decide +kernel
theorem dX7_set_47 : decode cX7_set 47 = .ok (.aload_n 0, 1) := by decide +kernel
theorem dX7_set_48 : decode cX7_set 48 = .ok (.getfield 29, 3) := by decide +kernel
theorem dX7_set_51 : decode cX7_set 51 = .ok (.goto 19, 3) := by decide +kernel
theorem dX7_set_54 : decode cX7_set 54 = .ok (.iload_n 1, 1) := by decide +kernel
theorem dX7_set_55 : decode cX7_set 55 = .ok (.iconst 2, 1) := by decide +kernel
theorem dX7_set_56 : decode cX7_set 56 = .ok (.if_icmp .ne 10, 3) := by decide +kernel
theorem dX7_set_59 : decode cX7_set 59 = .ok (.aload_n 0, 1) := by decide +kernel
theorem dX7_set_60 : decode cX7_set 60 = .ok (.getfield 32, 3) := by decide +kernel
theorem dX7_set_63 : decode cX7_set 63 = .ok (.goto 7, 3) := by decide +kernel
theorem dX7_set_66 : decode cX7_set 66 = .ok (.aload_n 0, 1) := by decide +kernel
theorem dX7_set_67 : decode cX7_set 67 = .ok (.getfield 35, 3) := by decide +kernel
theorem dX7_set_70 : decode cX7_set 70 = .ok (.istore_n 3, 1) := by decide +kernel
theorem dX7_set_71 : decode cX7_set 71 = .ok (.aload_n 0, 1) := by decide +kernel
theorem dX7_set_72 : decode cX7_set 72 = .ok (.iload_n 1, 1) := by decide +kernel
theorem dX7_set_73 : decode cX7_set 73 = .ok (.ifCond .ne 7, 3) := by decide +kernel
theorem dX7_set_76 : decode cX7_set 76 = .ok (.iload_n 2, 1) := by decide +kernel
theorem dX7_set_77 : decode cX7_set 77 = .ok (.goto 7, 3) := by decide +kernel
theorem dX7_set_80 : decode cX7_set 80 = .ok (.aload_n 0, 1) := by decide +kernel
theorem dX7_set_81 : decode cX7_set 81 = .ok (.getfield 26, 3) := by decide +kernel
theorem dX7_set_84 : decode cX7_set 84 = .ok (.putfield 26, 3) := by decide +kernel
theorem dX7_set_87 : decode cX7_set 87 = .ok (.aload_n 0, 1) := by decide +kernel
theorem dX7_set_88 : decode cX7_set 88 = .ok (.iload_n 1, 1) := by decide +kernel
theorem dX7_set_89 : decode cX7_set 89 = .ok (.iconst 1, 1) := by decide +kernel
theorem dX7_set_90 : decode cX7_set 90 = .ok (.if_icmp .ne 7, 3) := by decide +kernel
theorem dX7_set_93 : decode cX7_set 93 = .ok (.iload_n 2, 1) := by decide +kernel
theorem dX7_set_94 : decode cX7_set 94 = .ok (.goto 7, 3) := by decide +kernel
theorem dX7_set_97 : decode cX7_set 97 = .ok (.aload_n 0, 1) := by decide +kernel
theorem dX7_set_98 : decode cX7_set 98 = .ok (.getfield 29, 3) := by decide +kernel
theorem dX7_set_101 : decode cX7_set 101 = .ok (.putfield 29, 3) := by decide +kernel
theorem dX7_set_104 : decode cX7_set 104 = .ok (.aload_n 0, 1) := by decide +kernel
theorem dX7_set_105 : decode cX7_set 105 = .ok (.iload_n 1, 1) := by decide +kernel
theorem dX7_set_106 : decode cX7_set 106 = .ok (.iconst 2, 1) := by decide +kernel
theorem dX7_set_107 : decode cX7_set 107 = .ok (.if_icmp .ne 7, 3) := by decide +kernel
theorem dX7_set_110 : decode cX7_set 110 = .ok (.iload_n 2, 1) := by decide +kernel
theorem dX7_set_111 : decode cX7_set 111 = .ok (.goto 7, 3) := by decide +kernel
theorem dX7_set_114 : decode cX7_set 114 = .ok (.aload_n 0, 1) := by decide +kernel
theorem dX7_set_115 : decode cX7_set 115 = .ok (.getfield 32, 3) := by decide +kernel
theorem dX7_set_118 : decode cX7_set 118 = .ok (.putfield 32, 3) := by decide +kernel
theorem dX7_set_121 : decode cX7_set 121 = .ok (.aload_n 0, 1) := by decide +kernel
theorem dX7_set_122 : decode cX7_set 122 = .ok (.iload_n 1, 1) := by decide +kernel
theorem dX7_set_123 : decode cX7_set 123 = .ok (.iconst 3, 1) := by decide +kernel
theorem dX7_set_124 : decode cX7_set 124 = .ok (.if_icmp .ne 7, 3) := by decide +kernel
theorem dX7_set_127 : decode cX7_set 127 = .ok (.iload_n 2, 1) := by decide +kernel
theorem dX7_set_128 : decode cX7_set 128 = .ok (.goto 7, 3) := by decide +kernel
theorem dX7_set_131 : decode cX7_set 131 = .ok (.aload_n 0, 1) := by decide +kernel
theorem dX7_set_132 : decode cX7_set 132 = .ok (.getfield 35, 3) := by decide +kernel
theorem dX7_set_135 : decode cX7_set 135 = .ok (.putfield 35, 3) := by decide +kernel
theorem dX7_set_138 : decode cX7_set 138 = .ok (.iload_n 3, 1) := by decide +kernel
theorem dX7_set_139 : decode cX7_set 139 = .ok (.ireturn, 1) := by decide +kernel
theorem dX7_slide_0 : decode cX7_slide 0 = .ok (.aload_n 0, 1) := by decide +kernel
theorem dX7_slide_1 : decode cX7_slide 1 = .ok (.iload_n 1, 1) := by decide +kernel
theorem dX7_slide_2 : decode cX7_slide 2 = .ok (.invokevirtual 95, 3) := by decide +kernel
theorem dX7_slide_5 : decode cX7_slide 5 = .ok (.ifCond .ne 5, 3) := by decide +kernel
theorem dX7_slide_8 : decode cX7_slide 8 = .ok (.iconst (-1), 1) := by decide +kernel
theorem dX7_slide_9 : decode cX7_slide 9 = .ok (.ireturn, 1) := by decide +kernel
theorem dX7_slide_10 : decode cX7_slide 10 = .ok (.iload_n 2, 1) := by decide +kernel
theorem dX7_slide_11 : decode cX7_slide 11 = .ok (.iconst 1, 1) := by decide +kernel
theorem dX7_slide_12 : decode cX7_slide 12 = .ok (.sipush 999, 3) := by decide +kernel
theorem dX7_slide_15 : decode cX7_slide 15 = .ok (.invokestatic 91, 3) := by decide +kernel
theorem dX7_slide_18 : decode cX7_slide 18 = .ok (.ifCond .eq 12, 3) := by decide +kernel
theorem dX7_slide_21 : decode cX7_slide 21 = .ok (.iload_n 3, 1) := by decide +kernel
theorem dX7_slide_22 : decode cX7_slide 22 = .ok (.iconst 0, 1) := by decide +kernel
theorem dX7_slide_23 : decode cX7_slide 23 = .ok (.iconst 1, 1) := by decide +kernel
theorem dX7_slide_24 : decode cX7_slide 24 = .ok (.invokestatic 91, 3) := by decide +kernel
theorem dX7_slide_27 : decode cX7_slide 27 = .ok (.ifCond .ne 6, 3) := by decide +kernel
theorem dX7_slide_30 : decode cX7_slide 30 = .ok (.bipush (-2), 2) := by decide +kernel
theorem dX7_slide_32 : decode cX7_slide 32 = .ok (.ireturn, 1) := by decide +kernel
theorem dX7_slide_33 : decode cX7_slide 33 = .ok (.aload_n 0, 1) := by decide +kernel
theorem dX7_slide_34 : decode cX7_slide 34 = .ok (.getfield 13, 3) := by decide +kernel
theorem dX7_slide_37 : decode cX7_slide 37 = .ok (.iload_n 1, 1) := by decide +kernel
theorem dX7_slide_38 : decode cX7_slide 38 = .ok (.iaload, 1) := by decide +kernel
theorem dX7_slide_39 : decode cX7_slide 39 = .ok (.iload_n 2, 1) := by decide +kernel
theorem dX7_slide_40 : decode cX7_slide 40 = .ok (.if_icmp .ge 6, 3) := by decide +kernel
theorem dX7_slide_43 : decode cX7_slide 43 = .ok (.bipush (-3), 2) := by decide +kernel
theorem dX7_slide_45 : decode cX7_slide 45 = .ok (.ireturn, 1) := by decide +kernel
theorem dX7_slide_46 : decode cX7_slide 46 = .ok (.aload_n 0, 1) := by decide +kernel
theorem dX7_slide_47 : decode cX7_slide 47 = .ok (.iload_n 1, 1) := by decide +kernel
theorem dX7_slide_48 : decode cX7_slide 48 = .ok (.iload_n 2, 1) := by decide +kernel
theorem dX7_slide_49 : decode cX7_slide 49 = .ok (.invokevirtual 192, 3) := by decide +kernel
theorem dX7_slide_52 : decode cX7_slide 52 = .ok (.istore 4, 2) := by decide +kernel
theorem dX7_slide_54 : decode cX7_slide 54 = .ok (.iload_n 3, 1) := by decide +kernel
theorem dX7_slide_55 : decode cX7_slide 55 = .ok (.ifCond .ne 8, 3) := by decide +kernel
theorem dX7_slide_58 : decode cX7_slide 58 = .ok (.iload 4, 2) := by decide +kernel
theorem dX7_slide_60 : decode cX7_slide 60 = .ok (.goto 7, 3) := by decide +kernel
theorem dX7_slide_63 : decode cX7_slide 63 = .ok (.aload_n 0, 1) := by decide +kernel
theorem dX7_slide_64 : decode cX7_slide 64 = .ok (.getfield 189, 3) := by decide +kernel
theorem dX7_slide_67 : decode cX7_slide 67 = .ok (.ireturn, 1) := by decide +kernel
theorem dX7_slideOf_0 : decode cX7_slideOf 0 = .ok (.aload_n 0, 1) := by decide +kernel
theorem dX7_slideOf_1 : decode cX7_slideOf 1 = .ok (.aload_n 0, 1) := by decide +kernel
theorem dX7_slideOf_2 : decode cX7_slideOf 2 = .ok (.getfield 13, 3) := by decide +kernel
theorem dX7_slideOf_5 : decode cX7_slideOf 5 = .ok (.iload_n 1, 1) := by decide +kernel
theorem dX7_slideOf_6 : decode cX7_slideOf 6 = .ok (.iaload, 1) := by decide +kernel
theorem dX7_slideOf_7 : decode cX7_slideOf 7 = .ok (.putfield 189, 3) := by decide +kernel
theorem dX7_slideOf_10 : decode cX7_slideOf 10 = .ok (.iload_n 1, 1) := by decide +kernel
theorem dX7_slideOf_11 : decode cX7_slideOf 11 = .ok (.iconst 1, 1) := by decide +kernel
theorem dX7_slideOf_12 : decode cX7_slideOf 12 = .ok (.iadd, 1) := by decide +kernel
theorem dX7_slideOf_13 : decode cX7_slideOf 13 = .ok (.istore_n 3, 1) := by decide +kernel
theorem dX7_slideOf_14 : decode cX7_slideOf 14 = .ok (.iload_n 3, 1) := by decide +kernel
theorem dX7_slideOf_15 : decode cX7_slideOf 15 = .ok (.aload_n 0, 1) := by decide +kernel
theorem dX7_slideOf_16 : decode cX7_slideOf 16 = .ok (.getfield 7, 3) := by decide +kernel
theorem dX7_slideOf_19 : decode cX7_slideOf 19 = .ok (.if_icmp .ge 34, 3) := by decide +kernel
theorem dX7_slideOf_22 : decode cX7_slideOf 22 = .ok (.aload_n 0, 1) := by decide +kernel
theorem dX7_slideOf_23 : decode cX7_slideOf 23 = .ok (.getfield 13, 3) := by decide +kernel
theorem dX7_slideOf_26 : decode cX7_slideOf 26 = .ok (.iload_n 3, 1) := by decide +kernel
theorem dX7_slideOf_27 : decode cX7_slideOf 27 = .ok (.iaload, 1) := by decide +kernel
theorem dX7_slideOf_28 : decode cX7_slideOf 28 = .ok (.iload_n 2, 1) := by decide +kernel
theorem dX7_slideOf_29 : decode cX7_slideOf 29 = .ok (.if_icmp .lt 24, 3) := by decide +kernel
theorem dX7_slideOf_32 : decode cX7_slideOf 32 = .ok (.aload_n 0, 1) := by decide +kernel
theorem dX7_slideOf_33 : decode cX7_slideOf 33 = .ok (.dup, 1) := by decide +kernel
theorem dX7_slideOf_34 : decode cX7_slideOf 34 = .ok (.getfield 189, 3) := by decide +kernel
theorem dX7_slideOf_37 : decode cX7_slideOf 37 = .ok (.aload_n 0, 1) := by decide +kernel
theorem dX7_slideOf_38 : decode cX7_slideOf 38 = .ok (.getfield 13, 3) := by decide +kernel
theorem dX7_slideOf_41 : decode cX7_slideOf 41 = .ok (.iload_n 3, 1) := by decide +kernel
theorem dX7_slideOf_42 : decode cX7_slideOf 42 = .ok (.iaload, 1) := by decide +kernel
theorem dX7_slideOf_43 : decode cX7_slideOf 43 = .ok (.iadd, 1) := by decide +kernel
theorem dX7_slideOf_44 : decode cX7_slideOf 44 = .ok (.putfield 189, 3) := by decide +kernel
theorem dX7_slideOf_47 : decode cX7_slideOf 47 = .ok (.iinc 3 1, 3) := by decide +kernel
theorem dX7_slideOf_50 : decode cX7_slideOf 50 = .ok (.goto (-36), 3) := by decide +kernel
theorem dX7_slideOf_53 : decode cX7_slideOf 53 = .ok (.iload_n 3, 1) := by decide +kernel
theorem dX7_slideOf_54 : decode cX7_slideOf 54 = .ok (.aload_n 0, 1) := by decide +kernel
theorem dX7_slideOf_55 : decode cX7_slideOf 55 = .ok (.getfield 7, 3) := by decide +kernel
theorem dX7_slideOf_58 : decode cX7_slideOf 58 = .ok (.if_icmp .ge 7, 3) := by decide +kernel
theorem dX7_slideOf_61 : decode cX7_slideOf 61 = .ok (.iload_n 3, 1) := by decide +kernel
theorem dX7_slideOf_62 : decode cX7_slideOf 62 = .ok (.goto 5, 3) := by decide +kernel
theorem dX7_slideOf_65 : decode cX7_slideOf 65 = .ok (.bipush (-6), 2) := by decide +kernel
theorem dX7_slideOf_67 : decode cX7_slideOf 67 = .ok (.ireturn, 1) := by decide +kernel
theorem dX7_snow_0 : decode cX7_snow 0 = .ok (.aload_n 0, 1) := by decide +kernel
theorem dX7_snow_1 : decode cX7_snow 1 = .ok (.iload_n 1, 1) := by decide +kernel
theorem dX7_snow_2 : decode cX7_snow 2 = .ok (.iload_n 2, 1) := by decide +kernel
theorem dX7_snow_3 : decode cX7_snow 3 = .ok (.iload_n 3, 1) := by decide +kernel
theorem dX7_snow_4 : decode cX7_snow 4 = .ok (.invokevirtual 125, 3) := by decide +kernel
theorem dX7_snow_7 : decode cX7_snow 7 = .ok (.istore 4, 2) := by decide +kernel
theorem dX7_snow_9 : decode cX7_snow 9 = .ok (.aload_n 0, 1) := by decide +kernel
theorem dX7_snow_10 : decode cX7_snow 10 = .ok (.getfield 44, 3) := by decide +kernel
theorem dX7_snow_13 : decode cX7_snow 13 = .ok (.iload_n 1, 1) := by decide +kernel
theorem dX7_snow_14 : decode cX7_snow 14 = .ok (.dup2, 1) := by decide +kernel
theorem dX7_snow_15 : decode cX7_snow 15 = .ok (.iaload, 1) := by decide +kernel
theorem dX7_snow_16 : decode cX7_snow 16 = .ok (.iload 4, 2) := by decide +kernel
theorem dX7_snow_18 : decode cX7_snow 18 = .ok (.iadd, 1) := by decide +kernel
theorem dX7_snow_19 : decode cX7_snow 19 = .ok (.iastore, 1) := by decide +kernel
theorem dX7_snow_20 : decode cX7_snow 20 = .ok (.aload_n 0, 1) := by decide +kernel
theorem dX7_snow_21 : decode cX7_snow 21 = .ok (.getfield 53, 3) := by decide +kernel
theorem dX7_snow_24 : decode cX7_snow 24 = .ok (.bipush 8, 2) := by decide +kernel
theorem dX7_snow_26 : decode cX7_snow 26 = .ok (.iload_n 1, 1) := by decide +kernel
theorem dX7_snow_27 : decode cX7_snow 27 = .ok (.imul, 1) := by decide +kernel
theorem dX7_snow_28 : decode cX7_snow 28 = .ok (.iload_n 2, 1) := by decide +kernel
theorem dX7_snow_29 : decode cX7_snow 29 = .ok (.iadd, 1) := by decide +kernel
theorem dX7_snow_30 : decode cX7_snow 30 = .ok (.dup2, 1) := by decide +kernel
theorem dX7_snow_31 : decode cX7_snow 31 = .ok (.iaload, 1) := by decide +kernel
theorem dX7_snow_32 : decode cX7_snow 32 = .ok (.iload 4, 2) := by decide +kernel
theorem dX7_snow_34 : decode cX7_snow 34 = .ok (.iadd, 1) := by decide +kernel
theorem dX7_snow_35 : decode cX7_snow 35 = .ok (.iastore, 1) := by decide +kernel
theorem dX7_snow_36 : decode cX7_snow 36 = .ok (.aload_n 0, 1) := by decide +kernel
theorem dX7_snow_37 : decode cX7_snow 37 = .ok (.getfield 50, 3) := by decide +kernel
theorem dX7_snow_40 : decode cX7_snow 40 = .ok (.iload_n 1, 1) := by decide +kernel
theorem dX7_snow_41 : decode cX7_snow 41 = .ok (.dup2, 1) := by decide +kernel
theorem dX7_snow_42 : decode cX7_snow 42 = .ok (.iaload, 1) := by decide +kernel
theorem dX7_snow_43 : decode cX7_snow 43 = .ok (.iconst 1, 1) := by decide +kernel
theorem dX7_snow_44 : decode cX7_snow 44 = .ok (.iload_n 2, 1) := by decide +kernel
theorem dX7_snow_45 : decode cX7_snow 45 = .ok (.ishl, 1) := by decide +kernel
theorem dX7_snow_46 : decode cX7_snow 46 = .ok (.ior, 1) := by decide +kernel
theorem dX7_snow_47 : decode cX7_snow 47 = .ok (.iastore, 1) := by decide +kernel
theorem dX7_snow_48 : decode cX7_snow 48 = .ok (.return_, 1) := by decide +kernel
theorem dX7_speak_0 : decode cX7_speak 0 = .ok (.iload_n 3, 1) := by decide +kernel
theorem dX7_speak_1 : decode cX7_speak 1 = .ok (.bipush 43, 2) := by decide +kernel
theorem dX7_speak_3 : decode cX7_speak 3 = .ok (.if_icmp .ne 25, 3) := by decide +kernel
theorem dX7_speak_6 : decode cX7_speak 6 = .ok (.aload_n 0, 1) := by decide +kernel
theorem dX7_speak_7 : decode cX7_speak 7 = .ok (.getfield 44, 3) := by decide +kernel
theorem dX7_speak_10 : decode cX7_speak 10 = .ok (.iload_n 1, 1) := by decide +kernel
theorem dX7_speak_11 : decode cX7_speak 11 = .ok (.aload_n 0, 1) := by decide +kernel
theorem dX7_speak_12 : decode cX7_speak 12 = .ok (.getfield 44, 3) := by decide +kernel
theorem dX7_speak_15 : decode cX7_speak 15 = .ok (.iload_n 1, 1) := by decide +kernel
theorem dX7_speak_16 : decode cX7_speak 16 = .ok (.iaload, 1) := by decide +kernel
theorem dX7_speak_17 : decode cX7_speak 17 = .ok (.aload_n 0, 1) := by decide +kernel
theorem dX7_speak_18 : decode cX7_speak 18 = .ok (.getfield 35, 3) := by decide +kernel
theorem dX7_speak_21 : decode cX7_speak 21 = .ok (.invokestatic 129, 3) := by decide +kernel
theorem dX7_speak_24 : decode cX7_speak 24 = .ok (.iastore, 1) := by decide +kernel
theorem dX7_speak_25 : decode cX7_speak 25 = .ok (.goto 10, 3) := by decide +kernel
theorem dX7_speak_28 : decode cX7_speak 28 = .ok (.aload_n 0, 1) := by decide +kernel
theorem dX7_speak_29 : decode cX7_speak 29 = .ok (.iload_n 1, 1) := by decide +kernel
theorem dX7_speak_30 : decode cX7_speak 30 = .ok (.iload_n 2, 1) := by decide +kernel
theorem dX7_speak_31 : decode cX7_speak 31 = .ok (.iload_n 3, 1) := by decide +kernel
theorem dX7_speak_32 : decode cX7_speak 32 = .ok (.invokevirtual 133, 3) := by decide +kernel
theorem dX7_speak_35 : decode cX7_speak 35 = .ok (.return_, 1) := by decide +kernel
theorem dX7_state_0 : decode cX7_state 0 = .ok (.aload_n 0, 1) := by decide +kernel
theorem dX7_state_1 : decode cX7_state 1 = .ok (.iload_n 1, 1) := by decide +kernel
theorem dX7_state_2 : decode cX7_state 2 = .ok (.invokevirtual 95, 3) := by decide +kernel
theorem dX7_state_5 : decode cX7_state 5 = .ok (.ifCond .ne 5, 3) := by decide +kernel
theorem dX7_state_8 : decode cX7_state 8 = .ok (.iconst (-1), 1) := by decide +kernel
theorem dX7_state_9 : decode cX7_state 9 = .ok (.ireturn, 1) := by decide +kernel
theorem dX7_state_10 : decode cX7_state 10 = .ok (.iload_n 2, 1) := by decide +kernel
theorem dX7_state_11 : decode cX7_state 11 = .ok (.ifCond .ne 12, 3) := by decide +kernel
theorem dX7_state_14 : decode cX7_state 14 = .ok (.aload_n 0, 1) := by decide +kernel
theorem dX7_state_15 : decode cX7_state 15 = .ok (.getfield 13, 3) := by decide +kernel
theorem dX7_state_18 : decode cX7_state 18 = .ok (.iload_n 1, 1) := by decide +kernel
theorem dX7_state_19 : decode cX7_state 19 = .ok (.iaload, 1) := by decide +kernel
theorem dX7_state_20 : decode cX7_state 20 = .ok (.goto 21, 3) := by decide +kernel
theorem dX7_state_23 : decode cX7_state 23 = .ok (.iload_n 2, 1) := by decide +kernel
theorem dX7_state_24 : decode cX7_state 24 = .ok (.iconst 1, 1) := by decide +kernel
theorem dX7_state_25 : decode cX7_state 25 = .ok (.if_icmp .ne 14, 3) := by decide +kernel
theorem dX7_state_28 : decode cX7_state 28 = .ok (.aload_n 0, 1) := by decide +kernel
theorem dX7_state_29 : decode cX7_state 29 = .ok (.getfield 82, 3) := by decide +kernel
theorem dX7_state_32 : decode cX7_state 32 = .ok (.iload_n 1, 1) := by decide +kernel
theorem dX7_state_33 : decode cX7_state 33 = .ok (.ishr, 1) := by decide +kernel
theorem dX7_state_34 : decode cX7_state 34 = .ok (.iconst 1, 1) := by decide +kernel
theorem dX7_state_35 : decode cX7_state 35 = .ok (.iand, 1) := by decide +kernel
theorem dX7_state_36 : decode cX7_state 36 = .ok (.goto 5, 3) := by decide +kernel
theorem dX7_state_39 : decode cX7_state 39 = .ok (.bipush (-2), 2) := by decide +kernel
theorem dX7_state_41 : decode cX7_state 41 = .ok (.ireturn, 1) := by decide +kernel
theorem dX7_tens_0 : decode cX7_tens 0 = .ok (.lconst 1, 1) := by decide +kernel
theorem dX7_tens_1 : decode cX7_tens 1 = .ok (.lstore_n 1, 1) := by decide +kernel
theorem dX7_tens_2 : decode cX7_tens 2 = .ok (.iconst 0, 1) := by decide +kernel
theorem dX7_tens_3 : decode cX7_tens 3 = .ok (.istore_n 3, 1) := by decide +kernel
theorem dX7_tens_4 : decode cX7_tens 4 = .ok (.iload_n 3, 1) := by decide +kernel
theorem dX7_tens_5 : decode cX7_tens 5 = .ok (.iload_n 0, 1) := by decide +kernel
theorem dX7_tens_6 : decode cX7_tens 6 = .ok (.if_icmp .ge 15, 3) := by decide +kernel
theorem dX7_tens_9 : decode cX7_tens 9 = .ok (.lload_n 1, 1) := by decide +kernel
theorem dX7_tens_10 : decode cX7_tens 10 = .ok (.ldc2_w 216, 3) := by decide +kernel
theorem dX7_tens_13 : decode cX7_tens 13 = .ok (.lmul, 1) := by decide +kernel
theorem dX7_tens_14 : decode cX7_tens 14 = .ok (.lstore_n 1, 1) := by decide +kernel
theorem dX7_tens_15 : decode cX7_tens 15 = .ok (.iinc 3 1, 3) := by decide +kernel
theorem dX7_tens_18 : decode cX7_tens 18 = .ok (.goto (-14), 3) := by decide +kernel
theorem dX7_tens_21 : decode cX7_tens 21 = .ok (.lload_n 1, 1) := by decide +kernel
theorem dX7_tens_22 : decode cX7_tens 22 = .ok (.lreturn, 1) := by decide +kernel
theorem dX7_thaw_0 : decode cX7_thaw 0 = .ok (.iconst 0, 1) := by decide +kernel
theorem dX7_thaw_1 : decode cX7_thaw 1 = .ok (.istore_n 1, 1) := by decide +kernel
theorem dX7_thaw_2 : decode cX7_thaw 2 = .ok (.iload_n 1, 1) := by decide +kernel
theorem dX7_thaw_3 : decode cX7_thaw 3 = .ok (.aload_n 0, 1) := by decide +kernel
theorem dX7_thaw_4 : decode cX7_thaw 4 = .ok (.getfield 7, 3) := by decide +kernel
theorem dX7_thaw_7 : decode cX7_thaw 7 = .ok (.if_icmp .ge 57, 3) := by decide +kernel
theorem dX7_thaw_10 : decode cX7_thaw 10 = .ok (.aload_n 0, 1) := by decide +kernel
theorem dX7_thaw_11 : decode cX7_thaw 11 = .ok (.getfield 44, 3) := by decide +kernel
theorem dX7_thaw_14 : decode cX7_thaw 14 = .ok (.iload_n 1, 1) := by decide +kernel
theorem dX7_thaw_15 : decode cX7_thaw 15 = .ok (.iaload, 1) := by decide +kernel
theorem dX7_thaw_16 : decode cX7_thaw 16 = .ok (.iconst 3, 1) := by decide +kernel
theorem dX7_thaw_17 : decode cX7_thaw 17 = .ok (.if_icmp .ge 12, 3) := by decide +kernel
theorem dX7_thaw_20 : decode cX7_thaw 20 = .ok (.aload_n 0, 1) := by decide +kernel
theorem dX7_thaw_21 : decode cX7_thaw 21 = .ok (.getfield 44, 3) := by decide +kernel
theorem dX7_thaw_24 : decode cX7_thaw 24 = .ok (.iload_n 1, 1) := by decide +kernel
theorem dX7_thaw_25 : decode cX7_thaw 25 = .ok (.iaload, 1) := by decide +kernel
theorem dX7_thaw_26 : decode cX7_thaw 26 = .ok (.goto 4, 3) := by decide +kernel
theorem dX7_thaw_29 : decode cX7_thaw 29 = .ok (.iconst 3, 1) := by decide +kernel
theorem dX7_thaw_30 : decode cX7_thaw 30 = .ok (.istore_n 2, 1) := by decide +kernel
theorem dX7_thaw_31 : decode cX7_thaw 31 = .ok (.aload_n 0, 1) := by decide +kernel
theorem dX7_thaw_32 : decode cX7_thaw 32 = .ok (.getfield 44, 3) := by decide +kernel
theorem dX7_thaw_35 : decode cX7_thaw 35 = .ok (.iload_n 1, 1) := by decide +kernel
theorem dX7_thaw_36 : decode cX7_thaw 36 = .ok (.dup2, 1) := by decide +kernel
theorem dX7_thaw_37 : decode cX7_thaw 37 = .ok (.iaload, 1) := by decide +kernel
theorem dX7_thaw_38 : decode cX7_thaw 38 = .ok (.iload_n 2, 1) := by decide +kernel
theorem dX7_thaw_39 : decode cX7_thaw 39 = .ok (.isub, 1) := by decide +kernel
theorem dX7_thaw_40 : decode cX7_thaw 40 = .ok (.iastore, 1) := by decide +kernel
theorem dX7_thaw_41 : decode cX7_thaw 41 = .ok (.aload_n 0, 1) := by decide +kernel
theorem dX7_thaw_42 : decode cX7_thaw 42 = .ok (.dup, 1) := by decide +kernel
theorem dX7_thaw_43 : decode cX7_thaw 43 = .ok (.getfield 109, 3) := by decide +kernel
theorem dX7_thaw_46 : decode cX7_thaw 46 = .ok (.iload_n 2, 1) := by decide +kernel
theorem dX7_thaw_47 : decode cX7_thaw 47 = .ok (.iadd, 1) := by decide +kernel
theorem dX7_thaw_48 : decode cX7_thaw 48 = .ok (.putfield 109, 3) := by decide +kernel
theorem dX7_thaw_51 : decode cX7_thaw 51 = .ok (.aload_n 0, 1) := by decide +kernel
theorem dX7_thaw_52 : decode cX7_thaw 52 = .ok (.getfield 50, 3) := by decide +kernel
theorem dX7_thaw_55 : decode cX7_thaw 55 = .ok (.iload_n 1, 1) := by decide +kernel
theorem dX7_thaw_56 : decode cX7_thaw 56 = .ok (.iconst 0, 1) := by decide +kernel
theorem dX7_thaw_57 : decode cX7_thaw 57 = .ok (.iastore, 1) := by decide +kernel
theorem dX7_thaw_58 : decode cX7_thaw 58 = .ok (.iinc 1 1, 3) := by decide +kernel
theorem dX7_thaw_61 : decode cX7_thaw 61 = .ok (.goto (-59), 3) := by decide +kernel
theorem dX7_thaw_64 : decode cX7_thaw 64 = .ok (.iconst 0, 1) := by decide +kernel
theorem dX7_thaw_65 : decode cX7_thaw 65 = .ok (.istore_n 1, 1) := by decide +kernel
theorem dX7_thaw_66 : decode cX7_thaw 66 = .ok (.iload_n 1, 1) := by decide +kernel
theorem dX7_thaw_67 : decode cX7_thaw 67 = .ok (.bipush 64, 2) := by decide +kernel
theorem dX7_thaw_69 : decode cX7_thaw 69 = .ok (.if_icmp .ge 16, 3) := by decide +kernel
theorem dX7_thaw_72 : decode cX7_thaw 72 = .ok (.aload_n 0, 1) := by decide +kernel
theorem dX7_thaw_73 : decode cX7_thaw 73 = .ok (.getfield 53, 3) := by decide +kernel
theorem dX7_thaw_76 : decode cX7_thaw 76 = .ok (.iload_n 1, 1) := by decide +kernel
theorem dX7_thaw_77 : decode cX7_thaw 77 = .ok (.iconst 0, 1) := by decide +kernel
theorem dX7_thaw_78 : decode cX7_thaw 78 = .ok (.iastore, 1) := by decide +kernel
theorem dX7_thaw_79 : decode cX7_thaw 79 = .ok (.iinc 1 1, 3) := by decide +kernel
theorem dX7_thaw_82 : decode cX7_thaw 82 = .ok (.goto (-16), 3) := by decide +kernel
theorem dX7_thaw_85 : decode cX7_thaw 85 = .ok (.return_, 1) := by decide +kernel
theorem dX7_told_0 : decode cX7_told 0 = .ok (.iload_n 1, 1) := by decide +kernel
theorem dX7_told_1 : decode cX7_told 1 = .ok (.bipush 10, 2) := by decide +kernel
theorem dX7_told_3 : decode cX7_told 3 = .ok (.if_icmp .lt 29, 3) := by decide +kernel
theorem dX7_told_6 : decode cX7_told 6 = .ok (.aload_n 0, 1) := by decide +kernel
theorem dX7_told_7 : decode cX7_told 7 = .ok (.iload_n 1, 1) := by decide +kernel
theorem dX7_told_8 : decode cX7_told 8 = .ok (.bipush 10, 2) := by decide +kernel
theorem dX7_told_10 : decode cX7_told 10 = .ok (.isub, 1) := by decide +kernel
theorem dX7_told_11 : decode cX7_told 11 = .ok (.invokevirtual 95, 3) := by decide +kernel
theorem dX7_told_14 : decode cX7_told 14 = .ok (.ifCond .eq 15, 3) := by decide +kernel
theorem dX7_told_17 : decode cX7_told 17 = .ok (.aload_n 0, 1) := by decide +kernel
theorem dX7_told_18 : decode cX7_told 18 = .ok (.getfield 17, 3) := by decide +kernel
theorem dX7_told_21 : decode cX7_told 21 = .ok (.iload_n 1, 1) := by decide +kernel
theorem dX7_told_22 : decode cX7_told 22 = .ok (.bipush 10, 2) := by decide +kernel
theorem dX7_told_24 : decode cX7_told 24 = .ok (.isub, 1) := by decide +kernel
theorem dX7_told_25 : decode cX7_told 25 = .ok (.iaload, 1) := by decide +kernel
theorem dX7_told_26 : decode cX7_told 26 = .ok (.goto 5, 3) := by decide +kernel
theorem dX7_told_29 : decode cX7_told 29 = .ok (.bipush (-2), 2) := by decide +kernel
theorem dX7_told_31 : decode cX7_told 31 = .ok (.ireturn, 1) := by decide +kernel
theorem dX7_told_32 : decode cX7_told 32 = .ok (.iload_n 1, 1) := by decide +kernel
theorem dX7_told_33 : decode cX7_told 33 = .ok (.tableswitch 78 0 6 #[43, 48, 53, 58, 63, 68, 73], 43) := by decide +kernel
theorem dX7_told_76 : decode cX7_told 76 = .ok (.aload_n 0, 1) := by decide +kernel
theorem dX7_told_77 : decode cX7_told 77 = .ok (.getfield 99, 3) := by decide +kernel
theorem dX7_told_80 : decode cX7_told 80 = .ok (.ireturn, 1) := by decide +kernel
theorem dX7_told_81 : decode cX7_told 81 = .ok (.aload_n 0, 1) := by decide +kernel
theorem dX7_told_82 : decode cX7_told 82 = .ok (.getfield 7, 3) := by decide +kernel
theorem dX7_told_85 : decode cX7_told 85 = .ok (.ireturn, 1) := by decide +kernel
theorem dX7_told_86 : decode cX7_told 86 = .ok (.aload_n 0, 1) := by decide +kernel
theorem dX7_told_87 : decode cX7_told 87 = .ok (.getfield 85, 3) := by decide +kernel
theorem dX7_told_90 : decode cX7_told 90 = .ok (.ireturn, 1) := by decide +kernel
theorem dX7_told_91 : decode cX7_told 91 = .ok (.aload_n 0, 1) := by decide +kernel
theorem dX7_told_92 : decode cX7_told 92 = .ok (.getfield 26, 3) := by decide +kernel
theorem dX7_told_95 : decode cX7_told 95 = .ok (.ireturn, 1) := by decide +kernel
theorem dX7_told_96 : decode cX7_told 96 = .ok (.aload_n 0, 1) := by decide +kernel
theorem dX7_told_97 : decode cX7_told 97 = .ok (.getfield 29, 3) := by decide +kernel
theorem dX7_told_100 : decode cX7_told 100 = .ok (.ireturn, 1) := by decide +kernel
theorem dX7_told_101 : decode cX7_told 101 = .ok (.aload_n 0, 1) := by decide +kernel
theorem dX7_told_102 : decode cX7_told 102 = .ok (.getfield 32, 3) := by decide +kernel
theorem dX7_told_105 : decode cX7_told 105 = .ok (.ireturn, 1) := by decide +kernel
theorem dX7_told_106 : decode cX7_told 106 = .ok (.aload_n 0, 1) := by decide +kernel
theorem dX7_told_107 : decode cX7_told 107 = .ok (.getfield 35, 3) := by decide +kernel
theorem dX7_told_110 : decode cX7_told 110 = .ok (.ireturn, 1) := by decide +kernel
theorem dX7_told_111 : decode cX7_told 111 = .ok (.iload_n 1, 1) := by decide +kernel
theorem dX7_told_112 : decode cX7_told 112 = .ok (.bipush 7, 2) := by decide +kernel
theorem dX7_told_114 : decode cX7_told 114 = .ok (.if_icmp .ne 10, 3) := by decide +kernel
theorem dX7_told_117 : decode cX7_told 117 = .ok (.aload_n 0, 1) := by decide +kernel
theorem dX7_told_118 : decode cX7_told 118 = .ok (.getfield 88, 3) := by decide +kernel
theorem dX7_told_121 : decode cX7_told 121 = .ok (.goto 5, 3) := by decide +kernel
theorem dX7_told_124 : decode cX7_told 124 = .ok (.bipush (-2), 2) := by decide +kernel
theorem dX7_told_126 : decode cX7_told 126 = .ok (.ireturn, 1) := by decide +kernel
theorem dX7_unsaid_0 : decode cX7_unsaid 0 = .ok (.iconst 0, 1) := by decide +kernel
theorem dX7_unsaid_1 : decode cX7_unsaid 1 = .ok (.istore_n 1, 1) := by decide +kernel
theorem dX7_unsaid_2 : decode cX7_unsaid 2 = .ok (.aload_n 0, 1) := by decide +kernel
theorem dX7_unsaid_3 : decode cX7_unsaid 3 = .ok (.invokevirtual 168, 3) := by decide +kernel
theorem dX7_unsaid_6 : decode cX7_unsaid 6 = .ok (.iconst 0, 1) := by decide +kernel
theorem dX7_unsaid_7 : decode cX7_unsaid 7 = .ok (.istore_n 2, 1) := by decide +kernel
theorem dX7_unsaid_8 : decode cX7_unsaid 8 = .ok (.iload_n 2, 1) := by decide +kernel
theorem dX7_unsaid_9 : decode cX7_unsaid 9 = .ok (.aload_n 0, 1) := by decide +kernel
theorem dX7_unsaid_10 : decode cX7_unsaid 10 = .ok (.getfield 178, 3) := by decide +kernel
theorem dX7_unsaid_13 : decode cX7_unsaid 13 = .ok (.if_icmp .ge 104, 3) := by decide +kernel
theorem dX7_unsaid_16 : decode cX7_unsaid 16 = .ok (.aload_n 0, 1) := by decide +kernel
theorem dX7_unsaid_17 : decode cX7_unsaid 17 = .ok (.getfield 41, 3) := by decide +kernel
theorem dX7_unsaid_20 : decode cX7_unsaid 20 = .ok (.iconst 3, 1) := by decide +kernel
theorem dX7_unsaid_21 : decode cX7_unsaid 21 = .ok (.iload_n 2, 1) := by decide +kernel
theorem dX7_unsaid_22 : decode cX7_unsaid 22 = .ok (.imul, 1) := by decide +kernel
theorem dX7_unsaid_23 : decode cX7_unsaid 23 = .ok (.iconst 1, 1) := by decide +kernel
theorem dX7_unsaid_24 : decode cX7_unsaid 24 = .ok (.iadd, 1) := by decide +kernel
theorem dX7_unsaid_25 : decode cX7_unsaid 25 = .ok (.iaload, 1) := by decide +kernel
theorem dX7_unsaid_26 : decode cX7_unsaid 26 = .ok (.bipush 65, 2) := by decide +kernel
theorem dX7_unsaid_28 : decode cX7_unsaid 28 = .ok (.isub, 1) := by decide +kernel
theorem dX7_unsaid_29 : decode cX7_unsaid 29 = .ok (.istore_n 3, 1) := by decide +kernel
theorem dX7_unsaid_30 : decode cX7_unsaid 30 = .ok (.aload_n 0, 1) := by decide +kernel
theorem dX7_unsaid_31 : decode cX7_unsaid 31 = .ok (.getfield 41, 3) := by decide +kernel
theorem dX7_unsaid_34 : decode cX7_unsaid 34 = .ok (.iconst 3, 1) := by decide +kernel
theorem dX7_unsaid_35 : decode cX7_unsaid 35 = .ok (.iload_n 2, 1) := by decide +kernel
theorem dX7_unsaid_36 : decode cX7_unsaid 36 = .ok (.imul, 1) := by decide +kernel
theorem dX7_unsaid_37 : decode cX7_unsaid 37 = .ok (.iconst 2, 1) := by decide +kernel
theorem dX7_unsaid_38 : decode cX7_unsaid 38 = .ok (.iadd, 1) := by decide +kernel
theorem dX7_unsaid_39 : decode cX7_unsaid 39 = .ok (.iaload, 1) := by decide +kernel
theorem dX7_unsaid_40 : decode cX7_unsaid 40 = .ok (.istore 4, 2) := by decide +kernel
theorem dX7_unsaid_42 : decode cX7_unsaid 42 = .ok (.aload_n 0, 1) := by decide +kernel
theorem dX7_unsaid_43 : decode cX7_unsaid 43 = .ok (.getfield 56, 3) := by decide +kernel
theorem dX7_unsaid_46 : decode cX7_unsaid 46 = .ok (.iload_n 2, 1) := by decide +kernel
theorem dX7_unsaid_47 : decode cX7_unsaid 47 = .ok (.iaload, 1) := by decide +kernel
theorem dX7_unsaid_48 : decode cX7_unsaid 48 = .ok (.aload_n 0, 1) := by decide +kernel
theorem dX7_unsaid_49 : decode cX7_unsaid 49 = .ok (.getfield 7, 3) := by decide +kernel
theorem dX7_unsaid_52 : decode cX7_unsaid 52 = .ok (.if_icmp .ne 9, 3) := by decide +kernel
theorem dX7_unsaid_55 : decode cX7_unsaid 55 = .ok (.iinc 1 1, 3) := by decide +kernel
theorem dX7_unsaid_58 : decode cX7_unsaid 58 = .ok (.goto 53, 3) := by decide +kernel
theorem dX7_unsaid_61 : decode cX7_unsaid 61 = .ok (.aload_n 0, 1) := by decide +kernel
theorem dX7_unsaid_62 : decode cX7_unsaid 62 = .ok (.aload_n 0, 1) := by decide +kernel
theorem dX7_unsaid_63 : decode cX7_unsaid 63 = .ok (.getfield 56, 3) := by decide +kernel
theorem dX7_unsaid_66 : decode cX7_unsaid 66 = .ok (.iload_n 2, 1) := by decide +kernel
theorem dX7_unsaid_67 : decode cX7_unsaid 67 = .ok (.iaload, 1) := by decide +kernel
theorem dX7_unsaid_68 : decode cX7_unsaid 68 = .ok (.iload_n 3, 1) := by decide +kernel
theorem dX7_unsaid_69 : decode cX7_unsaid 69 = .ok (.iload 4, 2) := by decide +kernel
theorem dX7_unsaid_71 : decode cX7_unsaid 71 = .ok (.invokevirtual 159, 3) := by decide +kernel
theorem dX7_unsaid_74 : decode cX7_unsaid 74 = .ok (.ifCond .le 6, 3) := by decide +kernel
theorem dX7_unsaid_77 : decode cX7_unsaid 77 = .ok (.ldc 181, 2) := by decide +kernel
theorem dX7_unsaid_79 : decode cX7_unsaid 79 = .ok (.ireturn, 1) := by decide +kernel
theorem dX7_unsaid_80 : decode cX7_unsaid 80 = .ok (.aload_n 0, 1) := by decide +kernel
theorem dX7_unsaid_81 : decode cX7_unsaid 81 = .ok (.aload_n 0, 1) := by decide +kernel
theorem dX7_unsaid_82 : decode cX7_unsaid 82 = .ok (.getfield 56, 3) := by decide +kernel
theorem dX7_unsaid_85 : decode cX7_unsaid 85 = .ok (.iload_n 2, 1) := by decide +kernel
theorem dX7_unsaid_86 : decode cX7_unsaid 86 = .ok (.iaload, 1) := by decide +kernel
theorem dX7_unsaid_87 : decode cX7_unsaid 87 = .ok (.iload_n 3, 1) := by decide +kernel
theorem dX7_unsaid_88 : decode cX7_unsaid 88 = .ok (.iload 4, 2) := by decide +kernel
theorem dX7_unsaid_90 : decode cX7_unsaid 90 = .ok (.invokevirtual 162, 3) := by decide +kernel
theorem dX7_unsaid_93 : decode cX7_unsaid 93 = .ok (.aload_n 0, 1) := by decide +kernel
theorem dX7_unsaid_94 : decode cX7_unsaid 94 = .ok (.invokevirtual 165, 3) := by decide +kernel
theorem dX7_unsaid_97 : decode cX7_unsaid 97 = .ok (.aload_n 0, 1) := by decide +kernel
theorem dX7_unsaid_98 : decode cX7_unsaid 98 = .ok (.getfield 106, 3) := by decide +kernel
theorem dX7_unsaid_101 : decode cX7_unsaid 101 = .ok (.aload_n 0, 1) := by decide +kernel
theorem dX7_unsaid_102 : decode cX7_unsaid 102 = .ok (.getfield 82, 3) := by decide +kernel
theorem dX7_unsaid_105 : decode cX7_unsaid 105 = .ok (.if_icmp .eq 6, 3) := by decide +kernel
theorem dX7_unsaid_108 : decode cX7_unsaid 108 = .ok (.ldc 181, 2) := by decide +kernel
theorem dX7_unsaid_110 : decode cX7_unsaid 110 = .ok (.ireturn, 1) := by decide +kernel
theorem dX7_unsaid_111 : decode cX7_unsaid 111 = .ok (.iinc 2 1, 3) := by decide +kernel
theorem dX7_unsaid_114 : decode cX7_unsaid 114 = .ok (.goto (-106), 3) := by decide +kernel
theorem dX7_unsaid_117 : decode cX7_unsaid 117 = .ok (.iload_n 1, 1) := by decide +kernel
theorem dX7_unsaid_118 : decode cX7_unsaid 118 = .ok (.ireturn, 1) := by decide +kernel
theorem dX7_where_0 : decode cX7_where 0 = .ok (.aload_n 0, 1) := by decide +kernel
theorem dX7_where_1 : decode cX7_where 1 = .ok (.invokevirtual 182, 3) := by decide +kernel
theorem dX7_where_4 : decode cX7_where 4 = .ok (.ifCond .ne 6, 3) := by decide +kernel
theorem dX7_where_7 : decode cX7_where 7 = .ok (.bipush (-5), 2) := by decide +kernel
theorem dX7_where_9 : decode cX7_where 9 = .ok (.ireturn, 1) := by decide +kernel
theorem dX7_where_10 : decode cX7_where 10 = .ok (.aload_n 0, 1) := by decide +kernel
theorem dX7_where_11 : decode cX7_where 11 = .ok (.getfield 99, 3) := by decide +kernel
theorem dX7_where_14 : decode cX7_where 14 = .ok (.bipush 12, 2) := by decide +kernel
theorem dX7_where_16 : decode cX7_where 16 = .ok (.if_icmp .le 6, 3) := by decide +kernel
theorem dX7_where_19 : decode cX7_where 19 = .ok (.bipush (-4), 2) := by decide +kernel
theorem dX7_where_21 : decode cX7_where 21 = .ok (.ireturn, 1) := by decide +kernel
theorem dX7_where_22 : decode cX7_where 22 = .ok (.aload_n 0, 1) := by decide +kernel
theorem dX7_where_23 : decode cX7_where 23 = .ok (.aload_n 0, 1) := by decide +kernel
theorem dX7_where_24 : decode cX7_where 24 = .ok (.getfield 99, 3) := by decide +kernel
theorem dX7_where_27 : decode cX7_where 27 = .ok (.iconst 3, 1) := by decide +kernel
theorem dX7_where_28 : decode cX7_where 28 = .ok (.idiv, 1) := by decide +kernel
theorem dX7_where_29 : decode cX7_where 29 = .ok (.putfield 178, 3) := by decide +kernel
theorem dX7_where_32 : decode cX7_where 32 = .ok (.iconst 1, 1) := by decide +kernel
theorem dX7_where_33 : decode cX7_where 33 = .ok (.istore_n 2, 1) := by decide +kernel
theorem dX7_where_34 : decode cX7_where 34 = .ok (.iconst 0, 1) := by decide +kernel
theorem dX7_where_35 : decode cX7_where 35 = .ok (.istore_n 3, 1) := by decide +kernel
theorem dX7_where_36 : decode cX7_where 36 = .ok (.iload_n 3, 1) := by decide +kernel
theorem dX7_where_37 : decode cX7_where 37 = .ok (.aload_n 0, 1) := by decide +kernel
theorem dX7_where_38 : decode cX7_where 38 = .ok (.getfield 178, 3) := by decide +kernel
theorem dX7_where_41 : decode cX7_where 41 = .ok (.if_icmp .ge 18, 3) := by decide +kernel
theorem dX7_where_44 : decode cX7_where 44 = .ok (.iload_n 2, 1) := by decide +kernel
theorem dX7_where_45 : decode cX7_where 45 = .ok (.aload_n 0, 1) := by decide +kernel
theorem dX7_where_46 : decode cX7_where 46 = .ok (.getfield 7, 3) := by decide +kernel
theorem dX7_where_49 : decode cX7_where 49 = .ok (.iconst 1, 1) := by decide +kernel
theorem dX7_where_50 : decode cX7_where 50 = .ok (.iadd, 1) := by decide +kernel
theorem dX7_where_51 : decode cX7_where 51 = .ok (.imul, 1) := by decide +kernel
theorem dX7_where_52 : decode cX7_where 52 = .ok (.istore_n 2, 1) := by decide +kernel
theorem dX7_where_53 : decode cX7_where 53 = .ok (.iinc 3 1, 3) := by decide +kernel
theorem dX7_where_56 : decode cX7_where 56 = .ok (.goto (-20), 3) := by decide +kernel
theorem dX7_where_59 : decode cX7_where 59 = .ok (.ldc 181, 2) := by decide +kernel
theorem dX7_where_61 : decode cX7_where 61 = .ok (.istore_n 3, 1) := by decide +kernel
theorem dX7_where_62 : decode cX7_where 62 = .ok (.iconst 0, 1) := by decide +kernel
theorem dX7_where_63 : decode cX7_where 63 = .ok (.istore 4, 2) := by decide +kernel
theorem dX7_where_65 : decode cX7_where 65 = .ok (.iload 4, 2) := by decide +kernel
theorem dX7_where_67 : decode cX7_where 67 = .ok (.iload_n 2, 1) := by decide +kernel
theorem dX7_where_68 : decode cX7_where 68 = .ok (.if_icmp .ge 106, 3) := by decide +kernel
theorem dX7_where_71 : decode cX7_where 71 = .ok (.iload 4, 2) := by decide +kernel
theorem dX7_where_73 : decode cX7_where 73 = .ok (.istore 5, 2) := by decide +kernel
theorem dX7_where_75 : decode cX7_where 75 = .ok (.aload_n 0, 1) := by decide +kernel
theorem dX7_where_76 : decode cX7_where 76 = .ok (.getfield 178, 3) := by decide +kernel
theorem dX7_where_79 : decode cX7_where 79 = .ok (.iconst 1, 1) := by decide +kernel
theorem dX7_where_80 : decode cX7_where 80 = .ok (.isub, 1) := by decide +kernel
theorem dX7_where_81 : decode cX7_where 81 = .ok (.istore 6, 2) := by decide +kernel
theorem dX7_where_83 : decode cX7_where 83 = .ok (.iload 6, 2) := by decide +kernel
theorem dX7_where_85 : decode cX7_where 85 = .ok (.ifCond .lt 36, 3) := by decide +kernel
theorem dX7_where_88 : decode cX7_where 88 = .ok (.aload_n 0, 1) := by decide +kernel
theorem dX7_where_89 : decode cX7_where 89 = .ok (.getfield 56, 3) := by decide +kernel
theorem dX7_where_92 : decode cX7_where 92 = .ok (.iload 6, 2) := by decide +kernel
theorem dX7_where_94 : decode cX7_where 94 = .ok (.iload 5, 2) := by decide +kernel
theorem dX7_where_96 : decode cX7_where 96 = .ok (.aload_n 0, 1) := by decide +kernel
theorem dX7_where_97 : decode cX7_where 97 = .ok (.getfield 7, 3) := by decide +kernel
theorem dX7_where_100 : decode cX7_where 100 = .ok (.iconst 1, 1) := by decide +kernel
theorem dX7_where_101 : decode cX7_where 101 = .ok (.iadd, 1) := by decide +kernel
theorem dX7_where_102 : decode cX7_where 102 = .ok (.irem, 1) := by decide +kernel
theorem dX7_where_103 : decode cX7_where 103 = .ok (.iastore, 1) := by decide +kernel
theorem dX7_where_104 : decode cX7_where 104 = .ok (.iload 5, 2) := by decide +kernel
theorem dX7_where_106 : decode cX7_where 106 = .ok (.aload_n 0, 1) := by decide +kernel
theorem dX7_where_107 : decode cX7_where 107 = .ok (.getfield 7, 3) := by decide +kernel
theorem dX7_where_110 : decode cX7_where 110 = .ok (.iconst 1, 1) := by decide +kernel
theorem dX7_where_111 : decode cX7_where 111 = .ok (.iadd, 1) := by decide +kernel
theorem dX7_where_112 : decode cX7_where 112 = .ok (.idiv, 1) := by decide +kernel
theorem dX7_where_113 : decode cX7_where 113 = .ok (.istore 5, 2) := by decide +kernel
theorem dX7_where_115 : decode cX7_where 115 = .ok (.iinc 6 (-1), 3) := by decide +kernel
theorem dX7_where_118 : decode cX7_where 118 = .ok (.goto (-35), 3) := by decide +kernel
theorem dX7_where_121 : decode cX7_where 121 = .ok (.aload_n 0, 1) := by decide +kernel
theorem dX7_where_122 : decode cX7_where 122 = .ok (.invokevirtual 186, 3) := by decide +kernel
theorem dX7_where_125 : decode cX7_where 125 = .ok (.istore 6, 2) := by decide +kernel
theorem dX7_where_127 : decode cX7_where 127 = .ok (.iload 6, 2) := by decide +kernel
theorem dX7_where_129 : decode cX7_where 129 = .ok (.iload_n 3, 1) := by decide +kernel
theorem dX7_where_130 : decode cX7_where 130 = .ok (.if_icmp .ge 38, 3) := by decide +kernel
theorem dX7_where_133 : decode cX7_where 133 = .ok (.iload 6, 2) := by decide +kernel
theorem dX7_where_135 : decode cX7_where 135 = .ok (.istore_n 3, 1) := by decide +kernel
theorem dX7_where_136 : decode cX7_where 136 = .ok (.iconst 0, 1) := by decide +kernel
theorem dX7_where_137 : decode cX7_where 137 = .ok (.istore 7, 2) := by decide +kernel
theorem dX7_where_139 : decode cX7_where 139 = .ok (.iload 7, 2) := by decide +kernel
theorem dX7_where_141 : decode cX7_where 141 = .ok (.aload_n 0, 1) := by decide +kernel
theorem dX7_where_142 : decode cX7_where 142 = .ok (.getfield 178, 3) := by decide +kernel
theorem dX7_where_145 : decode cX7_where 145 = .ok (.if_icmp .ge 23, 3) := by decide +kernel
theorem dX7_where_148 : decode cX7_where 148 = .ok (.aload_n 0, 1) := by decide +kernel
theorem dX7_where_149 : decode cX7_where 149 = .ok (.getfield 59, 3) := by decide +kernel
theorem dX7_where_152 : decode cX7_where 152 = .ok (.iload 7, 2) := by decide +kernel
theorem dX7_where_154 : decode cX7_where 154 = .ok (.aload_n 0, 1) := by decide +kernel
theorem dX7_where_155 : decode cX7_where 155 = .ok (.getfield 56, 3) := by decide +kernel
theorem dX7_where_158 : decode cX7_where 158 = .ok (.iload 7, 2) := by decide +kernel
theorem dX7_where_160 : decode cX7_where 160 = .ok (.iaload, 1) := by decide +kernel
theorem dX7_where_161 : decode cX7_where 161 = .ok (.iastore, 1) := by decide +kernel
theorem dX7_where_162 : decode cX7_where 162 = .ok (.iinc 7 1, 3) := by decide +kernel
theorem dX7_where_165 : decode cX7_where 165 = .ok (.goto (-26), 3) := by decide +kernel
theorem dX7_where_168 : decode cX7_where 168 = .ok (.iinc 4 1, 3) := by decide +kernel
theorem dX7_where_171 : decode cX7_where 171 = .ok (.goto (-106), 3) := by decide +kernel
theorem dX7_where_174 : decode cX7_where 174 = .ok (.iload_n 1, 1) := by decide +kernel
theorem dX7_where_175 : decode cX7_where 175 = .ok (.iconst (-1), 1) := by decide +kernel
theorem dX7_where_176 : decode cX7_where 176 = .ok (.if_icmp .ne 5, 3) := by decide +kernel
theorem dX7_where_179 : decode cX7_where 179 = .ok (.iload_n 3, 1) := by decide +kernel
theorem dX7_where_180 : decode cX7_where 180 = .ok (.ireturn, 1) := by decide +kernel
theorem dX7_where_181 : decode cX7_where 181 = .ok (.iload_n 1, 1) := by decide +kernel
theorem dX7_where_182 : decode cX7_where 182 = .ok (.iconst 0, 1) := by decide +kernel
theorem dX7_where_183 : decode cX7_where 183 = .ok (.aload_n 0, 1) := by decide +kernel
theorem dX7_where_184 : decode cX7_where 184 = .ok (.getfield 178, 3) := by decide +kernel
theorem dX7_where_187 : decode cX7_where 187 = .ok (.iconst 1, 1) := by decide +kernel
theorem dX7_where_188 : decode cX7_where 188 = .ok (.isub, 1) := by decide +kernel
theorem dX7_where_189 : decode cX7_where 189 = .ok (.invokestatic 91, 3) := by decide +kernel
theorem dX7_where_192 : decode cX7_where 192 = .ok (.ifCond .eq 25, 3) := by decide +kernel
theorem dX7_where_195 : decode cX7_where 195 = .ok (.aload_n 0, 1) := by decide +kernel
theorem dX7_where_196 : decode cX7_where 196 = .ok (.getfield 59, 3) := by decide +kernel
theorem dX7_where_199 : decode cX7_where 199 = .ok (.iload_n 1, 1) := by decide +kernel
theorem dX7_where_200 : decode cX7_where 200 = .ok (.iaload, 1) := by decide +kernel
theorem dX7_where_201 : decode cX7_where 201 = .ok (.aload_n 0, 1) := by decide +kernel
theorem dX7_where_202 : decode cX7_where 202 = .ok (.getfield 7, 3) := by decide +kernel
theorem dX7_where_205 : decode cX7_where 205 = .ok (.if_icmp .ge 12, 3) := by decide +kernel
theorem dX7_where_208 : decode cX7_where 208 = .ok (.aload_n 0, 1) := by decide +kernel
theorem dX7_where_209 : decode cX7_where 209 = .ok (.getfield 59, 3) := by decide +kernel
theorem dX7_where_212 : decode cX7_where 212 = .ok (.iload_n 1, 1) := by decide +kernel
theorem dX7_where_213 : decode cX7_where 213 = .ok (.iaload, 1) := by decide +kernel
theorem dX7_where_214 : decode cX7_where 214 = .ok (.goto 5, 3) := by decide +kernel
theorem dX7_where_217 : decode cX7_where 217 = .ok (.bipush (-6), 2) := by decide +kernel
theorem dX7_where_219 : decode cX7_where 219 = .ok (.ireturn, 1) := by decide +kernel
theorem dX7_who_0 : decode cX7_who 0 = .ok (.iload_n 1, 1) := by decide +kernel
theorem dX7_who_1 : decode cX7_who 1 = .ok (.iconst 0, 1) := by decide +kernel
theorem dX7_who_2 : decode cX7_who 2 = .ok (.iconst 3, 1) := by decide +kernel
theorem dX7_who_3 : decode cX7_who 3 = .ok (.invokestatic 91, 3) := by decide +kernel
theorem dX7_who_6 : decode cX7_who 6 = .ok (.ifCond .eq 12, 3) := by decide +kernel
theorem dX7_who_9 : decode cX7_who 9 = .ok (.iload_n 2, 1) := by decide +kernel
theorem dX7_who_10 : decode cX7_who 10 = .ok (.iconst 0, 1) := by decide +kernel
theorem dX7_who_11 : decode cX7_who 11 = .ok (.iconst 2, 1) := by decide +kernel
theorem dX7_who_12 : decode cX7_who 12 = .ok (.invokestatic 91, 3) := by decide +kernel
theorem dX7_who_15 : decode cX7_who 15 = .ok (.ifCond .ne 6, 3) := by decide +kernel
theorem dX7_who_18 : decode cX7_who 18 = .ok (.bipush (-2), 2) := by decide +kernel
theorem dX7_who_20 : decode cX7_who 20 = .ok (.ireturn, 1) := by decide +kernel
theorem dX7_who_21 : decode cX7_who 21 = .ok (.aload_n 0, 1) := by decide +kernel
theorem dX7_who_22 : decode cX7_who 22 = .ok (.iload_n 1, 1) := by decide +kernel
theorem dX7_who_23 : decode cX7_who 23 = .ok (.invokevirtual 207, 3) := by decide +kernel
theorem dX7_who_26 : decode cX7_who 26 = .ok (.iload_n 2, 1) := by decide +kernel
theorem dX7_who_27 : decode cX7_who 27 = .ok (.ifCond .ne 10, 3) := by decide +kernel
theorem dX7_who_30 : decode cX7_who 30 = .ok (.aload_n 0, 1) := by decide +kernel
theorem dX7_who_31 : decode cX7_who 31 = .ok (.getfield 195, 3) := by decide +kernel
theorem dX7_who_34 : decode cX7_who 34 = .ok (.goto 30, 3) := by decide +kernel
theorem dX7_who_37 : decode cX7_who 37 = .ok (.iload_n 2, 1) := by decide +kernel
theorem dX7_who_38 : decode cX7_who 38 = .ok (.iconst 1, 1) := by decide +kernel
theorem dX7_who_39 : decode cX7_who 39 = .ok (.if_icmp .ne 10, 3) := by decide +kernel
theorem dX7_who_42 : decode cX7_who 42 = .ok (.aload_n 0, 1) := by decide +kernel
theorem dX7_who_43 : decode cX7_who 43 = .ok (.getfield 198, 3) := by decide +kernel
theorem dX7_who_46 : decode cX7_who 46 = .ok (.goto 18, 3) := by decide +kernel
theorem dX7_who_49 : decode cX7_who 49 = .ok (.aload_n 0, 1) := by decide +kernel
theorem dX7_who_50 : decode cX7_who 50 = .ok (.getfield 195, 3) := by decide +kernel
theorem dX7_who_53 : decode cX7_who 53 = .ok (.ifCond .ne 7, 3) := by decide +kernel
theorem dX7_who_56 : decode cX7_who 56 = .ok (.iconst 0, 1) := by decide +kernel
theorem dX7_who_57 : decode cX7_who 57 = .ok (.goto 7, 3) := by decide +kernel
theorem dX7_who_60 : decode cX7_who 60 = .ok (.aload_n 0, 1) := by decide +kernel
theorem dX7_who_61 : decode cX7_who 61 = .ok (.getfield 201, 3) := by decide +kernel
theorem dX7_who_64 : decode cX7_who 64 = .ok (.ireturn, 1) := by decide +kernel
theorem dX7_whyNot_0 : decode cX7_whyNot 0 = .ok (.iload_n 1, 1) := by decide +kernel
theorem dX7_whyNot_1 : decode cX7_whyNot 1 = .ok (.iload_n 2, 1) := by decide +kernel
theorem dX7_whyNot_2 : decode cX7_whyNot 2 = .ok (.if_icmp .ne 5, 3) := by decide +kernel
theorem dX7_whyNot_5 : decode cX7_whyNot 5 = .ok (.iconst 1, 1) := by decide +kernel
theorem dX7_whyNot_6 : decode cX7_whyNot 6 = .ok (.ireturn, 1) := by decide +kernel
theorem dX7_whyNot_7 : decode cX7_whyNot 7 = .ok (.iload_n 3, 1) := by decide +kernel
theorem dX7_whyNot_8 : decode cX7_whyNot 8 = .ok (.bipush 43, 2) := by decide +kernel
theorem dX7_whyNot_10 : decode cX7_whyNot 10 = .ok (.if_icmp .ne 18, 3) := by decide +kernel
theorem dX7_whyNot_13 : decode cX7_whyNot 13 = .ok (.aload_n 0, 1) := by decide +kernel
theorem dX7_whyNot_14 : decode cX7_whyNot 14 = .ok (.getfield 44, 3) := by decide +kernel
theorem dX7_whyNot_17 : decode cX7_whyNot 17 = .ok (.iload_n 1, 1) := by decide +kernel
theorem dX7_whyNot_18 : decode cX7_whyNot 18 = .ok (.iaload, 1) := by decide +kernel
theorem dX7_whyNot_19 : decode cX7_whyNot 19 = .ok (.ifCond .ne 7, 3) := by decide +kernel
theorem dX7_whyNot_22 : decode cX7_whyNot 22 = .ok (.iconst 2, 1) := by decide +kernel
theorem dX7_whyNot_23 : decode cX7_whyNot 23 = .ok (.goto 4, 3) := by decide +kernel
theorem dX7_whyNot_26 : decode cX7_whyNot 26 = .ok (.iconst 0, 1) := by decide +kernel
theorem dX7_whyNot_27 : decode cX7_whyNot 27 = .ok (.ireturn, 1) := by decide +kernel
theorem dX7_whyNot_28 : decode cX7_whyNot 28 = .ok (.aload_n 0, 1) := by decide +kernel
theorem dX7_whyNot_29 : decode cX7_whyNot 29 = .ok (.getfield 44, 3) := by decide +kernel
theorem dX7_whyNot_32 : decode cX7_whyNot 32 = .ok (.iload_n 1, 1) := by decide +kernel
theorem dX7_whyNot_33 : decode cX7_whyNot 33 = .ok (.iaload, 1) := by decide +kernel
theorem dX7_whyNot_34 : decode cX7_whyNot 34 = .ok (.aload_n 0, 1) := by decide +kernel
theorem dX7_whyNot_35 : decode cX7_whyNot 35 = .ok (.iload_n 1, 1) := by decide +kernel
theorem dX7_whyNot_36 : decode cX7_whyNot 36 = .ok (.iload_n 2, 1) := by decide +kernel
theorem dX7_whyNot_37 : decode cX7_whyNot 37 = .ok (.iload_n 3, 1) := by decide +kernel
theorem dX7_whyNot_38 : decode cX7_whyNot 38 = .ok (.invokevirtual 125, 3) := by decide +kernel
theorem dX7_whyNot_41 : decode cX7_whyNot 41 = .ok (.iadd, 1) := by decide +kernel
theorem dX7_whyNot_42 : decode cX7_whyNot 42 = .ok (.sipush 999, 3) := by decide +kernel
theorem dX7_whyNot_45 : decode cX7_whyNot 45 = .ok (.if_icmp .le 7, 3) := by decide +kernel
theorem dX7_whyNot_48 : decode cX7_whyNot 48 = .ok (.iconst 3, 1) := by decide +kernel
theorem dX7_whyNot_49 : decode cX7_whyNot 49 = .ok (.goto 4, 3) := by decide +kernel
theorem dX7_whyNot_52 : decode cX7_whyNot 52 = .ok (.iconst 0, 1) := by decide +kernel
theorem dX7_whyNot_53 : decode cX7_whyNot 53 = .ok (.ireturn, 1) := by decide +kernel
theorem dX7_winter_0 : decode cX7_winter 0 = .ok (.iload_n 1, 1) := by decide +kernel
theorem dX7_winter_1 : decode cX7_winter 1 = .ok (.iconst 0, 1) := by decide +kernel
theorem dX7_winter_2 : decode cX7_winter 2 = .ok (.sipush 9999, 3) := by decide +kernel
theorem dX7_winter_5 : decode cX7_winter 5 = .ok (.invokestatic 91, 3) := by decide +kernel
theorem dX7_winter_8 : decode cX7_winter 8 = .ok (.ifCond .eq 22, 3) := by decide +kernel
theorem dX7_winter_11 : decode cX7_winter 11 = .ok (.iload_n 2, 1) := by decide +kernel
theorem dX7_winter_12 : decode cX7_winter 12 = .ok (.iconst 1, 1) := by decide +kernel
theorem dX7_winter_13 : decode cX7_winter 13 = .ok (.bipush 99, 2) := by decide +kernel
theorem dX7_winter_15 : decode cX7_winter 15 = .ok (.invokestatic 91, 3) := by decide +kernel
theorem dX7_winter_18 : decode cX7_winter 18 = .ok (.ifCond .eq 12, 3) := by decide +kernel
theorem dX7_winter_21 : decode cX7_winter 21 = .ok (.iload_n 3, 1) := by decide +kernel
theorem dX7_winter_22 : decode cX7_winter 22 = .ok (.iconst 0, 1) := by decide +kernel
theorem dX7_winter_23 : decode cX7_winter 23 = .ok (.iconst 2, 1) := by decide +kernel
theorem dX7_winter_24 : decode cX7_winter 24 = .ok (.invokestatic 91, 3) := by decide +kernel
theorem dX7_winter_27 : decode cX7_winter 27 = .ok (.ifCond .ne 6, 3) := by decide +kernel
theorem dX7_winter_30 : decode cX7_winter 30 = .ok (.bipush (-2), 2) := by decide +kernel
theorem dX7_winter_32 : decode cX7_winter 32 = .ok (.ireturn, 1) := by decide +kernel
theorem dX7_winter_33 : decode cX7_winter 33 = .ok (.aload_n 0, 1) := by decide +kernel
theorem dX7_winter_34 : decode cX7_winter 34 = .ok (.invokevirtual 168, 3) := by decide +kernel
theorem dX7_winter_37 : decode cX7_winter 37 = .ok (.iload_n 1, 1) := by decide +kernel
theorem dX7_winter_38 : decode cX7_winter 38 = .ok (.istore 4, 2) := by decide +kernel
theorem dX7_winter_40 : decode cX7_winter 40 = .ok (.iconst 0, 1) := by decide +kernel
theorem dX7_winter_41 : decode cX7_winter 41 = .ok (.istore 5, 2) := by decide +kernel
theorem dX7_winter_43 : decode cX7_winter 43 = .ok (.iload 5, 2) := by decide +kernel
theorem dX7_winter_45 : decode cX7_winter 45 = .ok (.iload_n 2, 1) := by decide +kernel
theorem dX7_winter_46 : decode cX7_winter 46 = .ok (.if_icmp .ge 139, 3) := by decide +kernel
theorem dX7_winter_49 : decode cX7_winter 49 = .ok (.bipush 75, 2) := by decide +kernel
theorem dX7_winter_51 : decode cX7_winter 51 = .ok (.iload 4, 2) := by decide +kernel
theorem dX7_winter_53 : decode cX7_winter 53 = .ok (.imul, 1) := by decide +kernel
theorem dX7_winter_54 : decode cX7_winter 54 = .ok (.bipush 74, 2) := by decide +kernel
theorem dX7_winter_56 : decode cX7_winter 56 = .ok (.iadd, 1) := by decide +kernel
theorem dX7_winter_57 : decode cX7_winter 57 = .ok (.ldc 233, 2) := by decide +kernel
theorem dX7_winter_59 : decode cX7_winter 59 = .ok (.irem, 1) := by decide +kernel
theorem dX7_winter_60 : decode cX7_winter 60 = .ok (.istore 4, 2) := by decide +kernel
theorem dX7_winter_62 : decode cX7_winter 62 = .ok (.iload 4, 2) := by decide +kernel
theorem dX7_winter_64 : decode cX7_winter 64 = .ok (.bipush 8, 2) := by decide +kernel
theorem dX7_winter_66 : decode cX7_winter 66 = .ok (.irem, 1) := by decide +kernel
theorem dX7_winter_67 : decode cX7_winter 67 = .ok (.istore 6, 2) := by decide +kernel
theorem dX7_winter_69 : decode cX7_winter 69 = .ok (.iload 4, 2) := by decide +kernel
theorem dX7_winter_71 : decode cX7_winter 71 = .ok (.bipush 8, 2) := by decide +kernel
theorem dX7_winter_73 : decode cX7_winter 73 = .ok (.idiv, 1) := by decide +kernel
theorem dX7_winter_74 : decode cX7_winter 74 = .ok (.aload_n 0, 1) := by decide +kernel
theorem dX7_winter_75 : decode cX7_winter 75 = .ok (.getfield 7, 3) := by decide +kernel
theorem dX7_winter_78 : decode cX7_winter 78 = .ok (.irem, 1) := by decide +kernel
theorem dX7_winter_79 : decode cX7_winter 79 = .ok (.istore 7, 2) := by decide +kernel
theorem dX7_winter_81 : decode cX7_winter 81 = .ok (.iload 4, 2) := by decide +kernel
theorem dX7_winter_83 : decode cX7_winter 83 = .ok (.bipush 64, 2) := by decide +kernel
theorem dX7_winter_85 : decode cX7_winter 85 = .ok (.idiv, 1) := by decide +kernel
theorem dX7_winter_86 : decode cX7_winter 86 = .ok (.aload_n 0, 1) := by decide +kernel
theorem dX7_winter_87 : decode cX7_winter 87 = .ok (.getfield 7, 3) := by decide +kernel
theorem dX7_winter_90 : decode cX7_winter 90 = .ok (.irem, 1) := by decide +kernel
theorem dX7_winter_91 : decode cX7_winter 91 = .ok (.istore 8, 2) := by decide +kernel
theorem dX7_winter_93 : decode cX7_winter 93 = .ok (.iload 6, 2) := by decide +kernel
theorem dX7_winter_95 : decode cX7_winter 95 = .ok (.iconst 2, 1) := by decide +kernel
theorem dX7_winter_96 : decode cX7_winter 96 = .ok (.if_icmp .ne 8, 3) := by decide +kernel
theorem dX7_winter_99 : decode cX7_winter 99 = .ok (.bipush 43, 2) := by decide +kernel
theorem dX7_winter_101 : decode cX7_winter 101 = .ok (.goto 16, 3) := by decide +kernel
theorem dX7_winter_104 : decode cX7_winter 104 = .ok (.iload 6, 2) := by decide +kernel
theorem dX7_winter_106 : decode cX7_winter 106 = .ok (.iconst 5, 1) := by decide +kernel
theorem dX7_winter_107 : decode cX7_winter 107 = .ok (.if_icmp .ge 8, 3) := by decide +kernel
theorem dX7_winter_110 : decode cX7_winter 110 = .ok (.bipush 116, 2) := by decide +kernel
theorem dX7_winter_112 : decode cX7_winter 112 = .ok (.goto 5, 3) := by decide +kernel
theorem dX7_winter_115 : decode cX7_winter 115 = .ok (.bipush 108, 2) := by decide +kernel
theorem dX7_winter_117 : decode cX7_winter 117 = .ok (.istore 9, 2) := by decide +kernel
theorem dX7_winter_119 : decode cX7_winter 119 = .ok (.iload 6, 2) := by decide +kernel
theorem dX7_winter_121 : decode cX7_winter 121 = .ok (.ifCond .ne 14, 3) := by decide +kernel
theorem dX7_winter_124 : decode cX7_winter 124 = .ok (.aload_n 0, 1) := by decide +kernel
theorem dX7_winter_125 : decode cX7_winter 125 = .ok (.invokevirtual 146, 3) := by decide +kernel
theorem dX7_winter_128 : decode cX7_winter 128 = .ok (.aload_n 0, 1) := by decide +kernel
theorem dX7_winter_129 : decode cX7_winter 129 = .ok (.invokevirtual 165, 3) := by decide +kernel
theorem dX7_winter_132 : decode cX7_winter 132 = .ok (.goto 47, 3) := by decide +kernel
theorem dX7_winter_135 : decode cX7_winter 135 = .ok (.iload 6, 2) := by decide +kernel
theorem dX7_winter_137 : decode cX7_winter 137 = .ok (.iconst 1, 1) := by decide +kernel
theorem dX7_winter_138 : decode cX7_winter 138 = .ok (.if_icmp .ne 14, 3) := by decide +kernel
theorem dX7_winter_141 : decode cX7_winter 141 = .ok (.aload_n 0, 1) := by decide +kernel
theorem dX7_winter_142 : decode cX7_winter 142 = .ok (.invokevirtual 149, 3) := by decide +kernel
theorem dX7_winter_145 : decode cX7_winter 145 = .ok (.aload_n 0, 1) := by decide +kernel
theorem dX7_winter_146 : decode cX7_winter 146 = .ok (.invokevirtual 165, 3) := by decide +kernel
theorem dX7_winter_149 : decode cX7_winter 149 = .ok (.goto 30, 3) := by decide +kernel
theorem dX7_winter_152 : decode cX7_winter 152 = .ok (.aload_n 0, 1) := by decide +kernel
theorem dX7_winter_153 : decode cX7_winter 153 = .ok (.iload 7, 2) := by decide +kernel
theorem dX7_winter_155 : decode cX7_winter 155 = .ok (.iload 8, 2) := by decide +kernel
theorem dX7_winter_157 : decode cX7_winter 157 = .ok (.iload 9, 2) := by decide +kernel
theorem dX7_winter_159 : decode cX7_winter 159 = .ok (.invokevirtual 159, 3) := by decide +kernel
theorem dX7_winter_162 : decode cX7_winter 162 = .ok (.ifCond .ne 17, 3) := by decide +kernel
theorem dX7_winter_165 : decode cX7_winter 165 = .ok (.aload_n 0, 1) := by decide +kernel
theorem dX7_winter_166 : decode cX7_winter 166 = .ok (.iload 7, 2) := by decide +kernel
theorem dX7_winter_168 : decode cX7_winter 168 = .ok (.iload 8, 2) := by decide +kernel
theorem dX7_winter_170 : decode cX7_winter 170 = .ok (.iload 9, 2) := by decide +kernel
theorem dX7_winter_172 : decode cX7_winter 172 = .ok (.invokevirtual 162, 3) := by decide +kernel
theorem dX7_winter_175 : decode cX7_winter 175 = .ok (.aload_n 0, 1) := by decide +kernel
theorem dX7_winter_176 : decode cX7_winter 176 = .ok (.invokevirtual 165, 3) := by decide +kernel
theorem dX7_winter_179 : decode cX7_winter 179 = .ok (.iinc 5 1, 3) := by decide +kernel
theorem dX7_winter_182 : decode cX7_winter 182 = .ok (.goto (-139), 3) := by decide +kernel
theorem dX7_winter_185 : decode cX7_winter 185 = .ok (.iconst 0, 1) := by decide +kernel
theorem dX7_winter_186 : decode cX7_winter 186 = .ok (.istore 5, 2) := by decide +kernel
theorem dX7_winter_188 : decode cX7_winter 188 = .ok (.iconst 0, 1) := by decide +kernel
theorem dX7_winter_189 : decode cX7_winter 189 = .ok (.istore 6, 2) := by decide +kernel
theorem dX7_winter_191 : decode cX7_winter 191 = .ok (.iload 6, 2) := by decide +kernel
theorem dX7_winter_193 : decode cX7_winter 193 = .ok (.aload_n 0, 1) := by decide +kernel
theorem dX7_winter_194 : decode cX7_winter 194 = .ok (.getfield 7, 3) := by decide +kernel
theorem dX7_winter_197 : decode cX7_winter 197 = .ok (.if_icmp .ge 21, 3) := by decide +kernel
theorem dX7_winter_200 : decode cX7_winter 200 = .ok (.iload 5, 2) := by decide +kernel
theorem dX7_winter_202 : decode cX7_winter 202 = .ok (.aload_n 0, 1) := by decide +kernel
theorem dX7_winter_203 : decode cX7_winter 203 = .ok (.getfield 44, 3) := by decide +kernel
theorem dX7_winter_206 : decode cX7_winter 206 = .ok (.iload 6, 2) := by decide +kernel
theorem dX7_winter_208 : decode cX7_winter 208 = .ok (.iaload, 1) := by decide +kernel
theorem dX7_winter_209 : decode cX7_winter 209 = .ok (.iadd, 1) := by decide +kernel
theorem dX7_winter_210 : decode cX7_winter 210 = .ok (.istore 5, 2) := by decide +kernel
theorem dX7_winter_212 : decode cX7_winter 212 = .ok (.iinc 6 1, 3) := by decide +kernel
theorem dX7_winter_215 : decode cX7_winter 215 = .ok (.goto (-24), 3) := by decide +kernel
theorem dX7_winter_218 : decode cX7_winter 218 = .ok (.iload_n 3, 1) := by decide +kernel
theorem dX7_winter_219 : decode cX7_winter 219 = .ok (.ifCond .ne 8, 3) := by decide +kernel
theorem dX7_winter_222 : decode cX7_winter 222 = .ok (.iload 5, 2) := by decide +kernel
theorem dX7_winter_224 : decode cX7_winter 224 = .ok (.goto 19, 3) := by decide +kernel
theorem dX7_winter_227 : decode cX7_winter 227 = .ok (.iload_n 3, 1) := by decide +kernel
theorem dX7_winter_228 : decode cX7_winter 228 = .ok (.iconst 1, 1) := by decide +kernel
theorem dX7_winter_229 : decode cX7_winter 229 = .ok (.if_icmp .ne 10, 3) := by decide +kernel
theorem dX7_winter_232 : decode cX7_winter 232 = .ok (.aload_n 0, 1) := by decide +kernel
theorem dX7_winter_233 : decode cX7_winter 233 = .ok (.getfield 106, 3) := by decide +kernel
theorem dX7_winter_236 : decode cX7_winter 236 = .ok (.goto 7, 3) := by decide +kernel
theorem dX7_winter_239 : decode cX7_winter 239 = .ok (.aload_n 0, 1) := by decide +kernel
theorem dX7_winter_240 : decode cX7_winter 240 = .ok (.getfield 109, 3) := by decide +kernel
theorem dX7_winter_243 : decode cX7_winter 243 = .ok (.ireturn, 1) := by decide +kernel
theorem dX7_wipe_0 : decode cX7_wipe 0 = .ok (.aload_n 0, 1) := by decide +kernel
theorem dX7_wipe_1 : decode cX7_wipe 1 = .ok (.getfield 99, 3) := by decide +kernel
theorem dX7_wipe_4 : decode cX7_wipe 4 = .ok (.istore_n 1, 1) := by decide +kernel
theorem dX7_wipe_5 : decode cX7_wipe 5 = .ok (.aload_n 0, 1) := by decide +kernel
theorem dX7_wipe_6 : decode cX7_wipe 6 = .ok (.iconst 0, 1) := by decide +kernel
theorem dX7_wipe_7 : decode cX7_wipe 7 = .ok (.putfield 99, 3) := by decide +kernel
theorem dX7_wipe_10 : decode cX7_wipe 10 = .ok (.iload_n 1, 1) := by decide +kernel
theorem dX7_wipe_11 : decode cX7_wipe 11 = .ok (.ireturn, 1) := by decide +kernel
