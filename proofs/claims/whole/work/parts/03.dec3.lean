/-! decode rows (by program) -/
theorem d36_0 : decode (jm_b 36) 0 = .ok (.iload_n 0, 1) := by decide +kernel
theorem d36_1 : decode (jm_b 36) 1 = .ok (.istore_n 2, 1) := by decide +kernel
theorem d36_2 : decode (jm_b 36) 2 = .ok (.iload_n 1, 1) := by decide +kernel
theorem d36_3 : decode (jm_b 36) 3 = .ok (.istore_n 3, 1) := by decide +kernel
theorem d36_4 : decode (jm_b 36) 4 = .ok (.iconst 0, 1) := by decide +kernel
theorem d36_5 : decode (jm_b 36) 5 = .ok (.istore 4, 2) := by decide +kernel
theorem d36_7 : decode (jm_b 36) 7 = .ok (.iload 4, 2) := by decide +kernel
theorem d36_9 : decode (jm_b 36) 9 = .ok (.bipush 64, 2) := by decide +kernel
theorem d36_11 : decode (jm_b 36) 11 = .ok (.if_icmp .ge 23, 3) := by decide +kernel
theorem d36_14 : decode (jm_b 36) 14 = .ok (.iload_n 3, 1) := by decide +kernel
theorem d36_15 : decode (jm_b 36) 15 = .ok (.ifCond .eq 19, 3) := by decide +kernel
theorem d36_18 : decode (jm_b 36) 18 = .ok (.iload_n 2, 1) := by decide +kernel
theorem d36_19 : decode (jm_b 36) 19 = .ok (.iload_n 3, 1) := by decide +kernel
theorem d36_20 : decode (jm_b 36) 20 = .ok (.irem, 1) := by decide +kernel
theorem d36_21 : decode (jm_b 36) 21 = .ok (.istore 5, 2) := by decide +kernel
theorem d36_23 : decode (jm_b 36) 23 = .ok (.iload_n 3, 1) := by decide +kernel
theorem d36_24 : decode (jm_b 36) 24 = .ok (.istore_n 2, 1) := by decide +kernel
theorem d36_25 : decode (jm_b 36) 25 = .ok (.iload 5, 2) := by decide +kernel
theorem d36_27 : decode (jm_b 36) 27 = .ok (.istore_n 3, 1) := by decide +kernel
theorem d36_28 : decode (jm_b 36) 28 = .ok (.iinc 4 1, 3) := by decide +kernel
theorem d36_31 : decode (jm_b 36) 31 = .ok (.goto (-24), 3) := by decide +kernel
theorem d36_34 : decode (jm_b 36) 34 = .ok (.iload_n 2, 1) := by decide +kernel
theorem d36_35 : decode (jm_b 36) 35 = .ok (.ireturn, 1) := by decide +kernel
theorem d37_0 : decode (jm_b 37) 0 = .ok (.iload_n 1, 1) := by decide +kernel
theorem d37_1 : decode (jm_b 37) 1 = .ok (.ifCond .ge 5, 3) := by decide +kernel
theorem d37_4 : decode (jm_b 37) 4 = .ok (.iconst (-1), 1) := by decide +kernel
theorem d37_5 : decode (jm_b 37) 5 = .ok (.ireturn, 1) := by decide +kernel
theorem d37_6 : decode (jm_b 37) 6 = .ok (.aload_n 0, 1) := by decide +kernel
theorem d37_7 : decode (jm_b 37) 7 = .ok (.getfield 41, 3) := by decide +kernel
theorem d37_10 : decode (jm_b 37) 10 = .ok (.getfield 298, 3) := by decide +kernel
theorem d37_13 : decode (jm_b 37) 13 = .ok (.istore_n 2, 1) := by decide +kernel
theorem d37_14 : decode (jm_b 37) 14 = .ok (.aload_n 0, 1) := by decide +kernel
theorem d37_15 : decode (jm_b 37) 15 = .ok (.getfield 41, 3) := by decide +kernel
theorem d37_18 : decode (jm_b 37) 18 = .ok (.iload_n 1, 1) := by decide +kernel
theorem d37_19 : decode (jm_b 37) 19 = .ok (.putfield 298, 3) := by decide +kernel
theorem d37_22 : decode (jm_b 37) 22 = .ok (.iload_n 2, 1) := by decide +kernel
theorem d37_23 : decode (jm_b 37) 23 = .ok (.ireturn, 1) := by decide +kernel
theorem d38_0 : decode (jm_b 38) 0 = .ok (.aload_n 0, 1) := by decide +kernel
theorem d38_1 : decode (jm_b 38) 1 = .ok (.invokevirtual 169, 3) := by decide +kernel
theorem d38_4 : decode (jm_b 38) 4 = .ok (.ifCond .eq 34, 3) := by decide +kernel
theorem d38_7 : decode (jm_b 38) 7 = .ok (.iload_n 1, 1) := by decide +kernel
theorem d38_8 : decode (jm_b 38) 8 = .ok (.iconst 1, 1) := by decide +kernel
theorem d38_9 : decode (jm_b 38) 9 = .ok (.if_icmp .lt 29, 3) := by decide +kernel
theorem d38_12 : decode (jm_b 38) 12 = .ok (.iload_n 1, 1) := by decide +kernel
theorem d38_13 : decode (jm_b 38) 13 = .ok (.bipush 10, 2) := by decide +kernel
theorem d38_15 : decode (jm_b 38) 15 = .ok (.if_icmp .gt 23, 3) := by decide +kernel
theorem d38_18 : decode (jm_b 38) 18 = .ok (.iload_n 2, 1) := by decide +kernel
theorem d38_19 : decode (jm_b 38) 19 = .ok (.iconst 1, 1) := by decide +kernel
theorem d38_20 : decode (jm_b 38) 20 = .ok (.if_icmp .lt 18, 3) := by decide +kernel
theorem d38_23 : decode (jm_b 38) 23 = .ok (.iload_n 2, 1) := by decide +kernel
theorem d38_24 : decode (jm_b 38) 24 = .ok (.bipush 60, 2) := by decide +kernel
theorem d38_26 : decode (jm_b 38) 26 = .ok (.if_icmp .gt 12, 3) := by decide +kernel
theorem d38_29 : decode (jm_b 38) 29 = .ok (.iload_n 3, 1) := by decide +kernel
theorem d38_30 : decode (jm_b 38) 30 = .ok (.ifCond .lt 8, 3) := by decide +kernel
theorem d38_33 : decode (jm_b 38) 33 = .ok (.iload_n 3, 1) := by decide +kernel
theorem d38_34 : decode (jm_b 38) 34 = .ok (.iconst 1, 1) := by decide +kernel
theorem d38_35 : decode (jm_b 38) 35 = .ok (.if_icmp .le 5, 3) := by decide +kernel
theorem d38_38 : decode (jm_b 38) 38 = .ok (.iconst (-1), 1) := by decide +kernel
theorem d38_39 : decode (jm_b 38) 39 = .ok (.ireturn, 1) := by decide +kernel
theorem d38_40 : decode (jm_b 38) 40 = .ok (.aload_n 0, 1) := by decide +kernel
theorem d38_41 : decode (jm_b 38) 41 = .ok (.getfield 65, 3) := by decide +kernel
theorem d38_44 : decode (jm_b 38) 44 = .ok (.aload_n 0, 1) := by decide +kernel
theorem d38_45 : decode (jm_b 38) 45 = .ok (.getfield 41, 3) := by decide +kernel
theorem d38_48 : decode (jm_b 38) 48 = .ok (.iload_n 1, 1) := by decide +kernel
theorem d38_49 : decode (jm_b 38) 49 = .ok (.iload_n 2, 1) := by decide +kernel
theorem d38_50 : decode (jm_b 38) 50 = .ok (.invokevirtual 301, 3) := by decide +kernel
theorem d38_53 : decode (jm_b 38) 53 = .ok (.iload_n 3, 1) := by decide +kernel
theorem d38_54 : decode (jm_b 38) 54 = .ok (.ifCond .ne 13, 3) := by decide +kernel
theorem d38_57 : decode (jm_b 38) 57 = .ok (.aload_n 0, 1) := by decide +kernel
theorem d38_58 : decode (jm_b 38) 58 = .ok (.getfield 65, 3) := by decide +kernel
theorem d38_61 : decode (jm_b 38) 61 = .ok (.getfield 305, 3) := by decide +kernel
theorem d38_64 : decode (jm_b 38) 64 = .ok (.goto 10, 3) := by decide +kernel
theorem d38_67 : decode (jm_b 38) 67 = .ok (.aload_n 0, 1) := by decide +kernel
theorem d38_68 : decode (jm_b 38) 68 = .ok (.getfield 65, 3) := by decide +kernel
theorem d38_71 : decode (jm_b 38) 71 = .ok (.getfield 308, 3) := by decide +kernel
theorem d38_74 : decode (jm_b 38) 74 = .ok (.ireturn, 1) := by decide +kernel
theorem d9009_0 : decode (jm_b 9009) 0 = .ok (.aload_n 0, 1) := by decide +kernel
theorem d9009_1 : decode (jm_b 9009) 1 = .ok (.iconst 0, 1) := by decide +kernel
theorem d9009_2 : decode (jm_b 9009) 2 = .ok (.putfield 99, 3) := by decide +kernel
theorem d9009_5 : decode (jm_b 9009) 5 = .ok (.aload_n 0, 1) := by decide +kernel
theorem d9009_6 : decode (jm_b 9009) 6 = .ok (.iconst 0, 1) := by decide +kernel
theorem d9009_7 : decode (jm_b 9009) 7 = .ok (.putfield 102, 3) := by decide +kernel
theorem d9009_10 : decode (jm_b 9009) 10 = .ok (.aload_n 1, 1) := by decide +kernel
theorem d9009_11 : decode (jm_b 9009) 11 = .ok (.getfield 105, 3) := by decide +kernel
theorem d9009_14 : decode (jm_b 9009) 14 = .ok (.istore 4, 2) := by decide +kernel
theorem d9009_16 : decode (jm_b 9009) 16 = .ok (.iconst 0, 1) := by decide +kernel
theorem d9009_17 : decode (jm_b 9009) 17 = .ok (.istore 5, 2) := by decide +kernel
theorem d9009_19 : decode (jm_b 9009) 19 = .ok (.iload 5, 2) := by decide +kernel
theorem d9009_21 : decode (jm_b 9009) 21 = .ok (.iload_n 2, 1) := by decide +kernel
theorem d9009_22 : decode (jm_b 9009) 22 = .ok (.if_icmp .ge 141, 3) := by decide +kernel
theorem d9009_25 : decode (jm_b 9009) 25 = .ok (.aload_n 0, 1) := by decide +kernel
theorem d9009_26 : decode (jm_b 9009) 26 = .ok (.getfield 12, 3) := by decide +kernel
theorem d9009_29 : decode (jm_b 9009) 29 = .ok (.aload_n 1, 1) := by decide +kernel
theorem d9009_30 : decode (jm_b 9009) 30 = .ok (.getfield 110, 3) := by decide +kernel
theorem d9009_33 : decode (jm_b 9009) 33 = .ok (.invokevirtual 29, 3) := by decide +kernel
theorem d9009_36 : decode (jm_b 9009) 36 = .ok (.iconst 0, 1) := by decide +kernel
theorem d9009_37 : decode (jm_b 9009) 37 = .ok (.istore 6, 2) := by decide +kernel
theorem d9009_39 : decode (jm_b 9009) 39 = .ok (.iload 6, 2) := by decide +kernel
theorem d9009_41 : decode (jm_b 9009) 41 = .ok (.iload_n 3, 1) := by decide +kernel
theorem d9009_42 : decode (jm_b 9009) 42 = .ok (.if_icmp .ge 58, 3) := by decide +kernel
theorem d9009_45 : decode (jm_b 9009) 45 = .ok (.iload 4, 2) := by decide +kernel
theorem d9009_47 : decode (jm_b 9009) 47 = .ok (.i2l, 1) := by decide +kernel
theorem d9009_48 : decode (jm_b 9009) 48 = .ok (.ldc2_w 113, 3) := by decide +kernel
theorem d9009_51 : decode (jm_b 9009) 51 = .ok (.lmul, 1) := by decide +kernel
theorem d9009_52 : decode (jm_b 9009) 52 = .ok (.ldc2_w 115, 3) := by decide +kernel
theorem d9009_55 : decode (jm_b 9009) 55 = .ok (.ladd, 1) := by decide +kernel
theorem d9009_56 : decode (jm_b 9009) 56 = .ok (.ldc2_w 117, 3) := by decide +kernel
theorem d9009_59 : decode (jm_b 9009) 59 = .ok (.land, 1) := by decide +kernel
theorem d9009_60 : decode (jm_b 9009) 60 = .ok (.l2i, 1) := by decide +kernel
theorem d9009_61 : decode (jm_b 9009) 61 = .ok (.istore 4, 2) := by decide +kernel
theorem d9009_63 : decode (jm_b 9009) 63 = .ok (.aload_n 0, 1) := by decide +kernel
theorem d9009_64 : decode (jm_b 9009) 64 = .ok (.dup, 1) := by decide +kernel
theorem d9009_65 : decode (jm_b 9009) 65 = .ok (.getfield 99, 3) := by decide +kernel
theorem d9009_68 : decode (jm_b 9009) 68 = .ok (.aload_n 0, 1) := by decide +kernel
theorem d9009_69 : decode (jm_b 9009) 69 = .ok (.getfield 25, 3) := by decide +kernel
theorem d9009_72 : decode (jm_b 9009) 72 = .ok (.aload_n 0, 1) := by decide +kernel
theorem d9009_73 : decode (jm_b 9009) 73 = .ok (.getfield 12, 3) := by decide +kernel
theorem d9009_76 : decode (jm_b 9009) 76 = .ok (.iload 4, 2) := by decide +kernel
theorem d9009_78 : decode (jm_b 9009) 78 = .ok (.ldc 119, 2) := by decide +kernel
theorem d9009_80 : decode (jm_b 9009) 80 = .ok (.idiv, 1) := by decide +kernel
theorem d9009_81 : decode (jm_b 9009) 81 = .ok (.bipush 10, 2) := by decide +kernel
theorem d9009_83 : decode (jm_b 9009) 83 = .ok (.irem, 1) := by decide +kernel
theorem d9009_84 : decode (jm_b 9009) 84 = .ok (.invokevirtual 35, 3) := by decide +kernel
theorem d9009_87 : decode (jm_b 9009) 87 = .ok (.invokestatic 85, 3) := by decide +kernel
theorem d9009_90 : decode (jm_b 9009) 90 = .ok (.iadd, 1) := by decide +kernel
theorem d9009_91 : decode (jm_b 9009) 91 = .ok (.putfield 99, 3) := by decide +kernel
theorem d9009_94 : decode (jm_b 9009) 94 = .ok (.iinc 6 1, 3) := by decide +kernel
theorem d9009_97 : decode (jm_b 9009) 97 = .ok (.goto (-58), 3) := by decide +kernel
theorem d9009_100 : decode (jm_b 9009) 100 = .ok (.iconst 0, 1) := by decide +kernel
theorem d9009_101 : decode (jm_b 9009) 101 = .ok (.istore 6, 2) := by decide +kernel
theorem d9009_103 : decode (jm_b 9009) 103 = .ok (.iload 6, 2) := by decide +kernel
theorem d9009_105 : decode (jm_b 9009) 105 = .ok (.aload_n 0, 1) := by decide +kernel
theorem d9009_106 : decode (jm_b 9009) 106 = .ok (.getfield 25, 3) := by decide +kernel
theorem d9009_109 : decode (jm_b 9009) 109 = .ok (.getfield 64, 3) := by decide +kernel
theorem d9009_112 : decode (jm_b 9009) 112 = .ok (.getfield 82, 3) := by decide +kernel
theorem d9009_115 : decode (jm_b 9009) 115 = .ok (.if_icmp .ge 42, 3) := by decide +kernel
theorem d9009_118 : decode (jm_b 9009) 118 = .ok (.aload_n 0, 1) := by decide +kernel
theorem d9009_119 : decode (jm_b 9009) 119 = .ok (.dup, 1) := by decide +kernel
theorem d9009_120 : decode (jm_b 9009) 120 = .ok (.getfield 102, 3) := by decide +kernel
theorem d9009_123 : decode (jm_b 9009) 123 = .ok (.aload_n 0, 1) := by decide +kernel
theorem d9009_124 : decode (jm_b 9009) 124 = .ok (.getfield 12, 3) := by decide +kernel
theorem d9009_127 : decode (jm_b 9009) 127 = .ok (.getfield 120, 3) := by decide +kernel
theorem d9009_130 : decode (jm_b 9009) 130 = .ok (.iload 6, 2) := by decide +kernel
theorem d9009_132 : decode (jm_b 9009) 132 = .ok (.iaload, 1) := by decide +kernel
theorem d9009_133 : decode (jm_b 9009) 133 = .ok (.aload_n 1, 1) := by decide +kernel
theorem d9009_134 : decode (jm_b 9009) 134 = .ok (.getfield 110, 3) := by decide +kernel
theorem d9009_137 : decode (jm_b 9009) 137 = .ok (.getfield 120, 3) := by decide +kernel
theorem d9009_140 : decode (jm_b 9009) 140 = .ok (.iload 6, 2) := by decide +kernel
theorem d9009_142 : decode (jm_b 9009) 142 = .ok (.iaload, 1) := by decide +kernel
theorem d9009_143 : decode (jm_b 9009) 143 = .ok (.isub, 1) := by decide +kernel
theorem d9009_144 : decode (jm_b 9009) 144 = .ok (.invokestatic 123, 3) := by decide +kernel
theorem d9009_147 : decode (jm_b 9009) 147 = .ok (.iadd, 1) := by decide +kernel
theorem d9009_148 : decode (jm_b 9009) 148 = .ok (.putfield 102, 3) := by decide +kernel
theorem d9009_151 : decode (jm_b 9009) 151 = .ok (.iinc 6 1, 3) := by decide +kernel
theorem d9009_154 : decode (jm_b 9009) 154 = .ok (.goto (-51), 3) := by decide +kernel
theorem d9009_157 : decode (jm_b 9009) 157 = .ok (.iinc 5 1, 3) := by decide +kernel
theorem d9009_160 : decode (jm_b 9009) 160 = .ok (.goto (-141), 3) := by decide +kernel
theorem d9009_163 : decode (jm_b 9009) 163 = .ok (.return_, 1) := by decide +kernel
theorem d39_0 : decode (jm_b 39) 0 = .ok (.iload_n 1, 1) := by decide +kernel
theorem d39_1 : decode (jm_b 39) 1 = .ok (.tableswitch 189 0 12 #[67, 78, 89, 100, 111, 116, 124, 135, 146, 157, 165, 173, 181], 67) := by decide +kernel
theorem d39_68 : decode (jm_b 39) 68 = .ok (.aload_n 0, 1) := by decide +kernel
theorem d39_69 : decode (jm_b 39) 69 = .ok (.getfield 41, 3) := by decide +kernel
theorem d39_72 : decode (jm_b 39) 72 = .ok (.getfield 143, 3) := by decide +kernel
theorem d39_75 : decode (jm_b 39) 75 = .ok (.getfield 293, 3) := by decide +kernel
theorem d39_78 : decode (jm_b 39) 78 = .ok (.ireturn, 1) := by decide +kernel
theorem d39_79 : decode (jm_b 39) 79 = .ok (.aload_n 0, 1) := by decide +kernel
theorem d39_80 : decode (jm_b 39) 80 = .ok (.getfield 41, 3) := by decide +kernel
theorem d39_83 : decode (jm_b 39) 83 = .ok (.getfield 143, 3) := by decide +kernel
theorem d39_86 : decode (jm_b 39) 86 = .ok (.getfield 311, 3) := by decide +kernel
theorem d39_89 : decode (jm_b 39) 89 = .ok (.ireturn, 1) := by decide +kernel
theorem d39_90 : decode (jm_b 39) 90 = .ok (.aload_n 0, 1) := by decide +kernel
theorem d39_91 : decode (jm_b 39) 91 = .ok (.getfield 41, 3) := by decide +kernel
theorem d39_94 : decode (jm_b 39) 94 = .ok (.getfield 143, 3) := by decide +kernel
theorem d39_97 : decode (jm_b 39) 97 = .ok (.getfield 106, 3) := by decide +kernel
theorem d39_100 : decode (jm_b 39) 100 = .ok (.ireturn, 1) := by decide +kernel
theorem d39_101 : decode (jm_b 39) 101 = .ok (.aload_n 0, 1) := by decide +kernel
theorem d39_102 : decode (jm_b 39) 102 = .ok (.getfield 41, 3) := by decide +kernel
theorem d39_105 : decode (jm_b 39) 105 = .ok (.getfield 143, 3) := by decide +kernel
theorem d39_108 : decode (jm_b 39) 108 = .ok (.getfield 314, 3) := by decide +kernel
theorem d39_111 : decode (jm_b 39) 111 = .ok (.ireturn, 1) := by decide +kernel
theorem d39_112 : decode (jm_b 39) 112 = .ok (.aload_n 0, 1) := by decide +kernel
theorem d39_113 : decode (jm_b 39) 113 = .ok (.getfield 111, 3) := by decide +kernel
theorem d39_116 : decode (jm_b 39) 116 = .ok (.ireturn, 1) := by decide +kernel
theorem d39_117 : decode (jm_b 39) 117 = .ok (.aload_n 0, 1) := by decide +kernel
theorem d39_118 : decode (jm_b 39) 118 = .ok (.getfield 41, 3) := by decide +kernel
theorem d39_121 : decode (jm_b 39) 121 = .ok (.getfield 117, 3) := by decide +kernel
theorem d39_124 : decode (jm_b 39) 124 = .ok (.ireturn, 1) := by decide +kernel
theorem d39_125 : decode (jm_b 39) 125 = .ok (.aload_n 0, 1) := by decide +kernel
theorem d39_126 : decode (jm_b 39) 126 = .ok (.getfield 41, 3) := by decide +kernel
theorem d39_129 : decode (jm_b 39) 129 = .ok (.getfield 124, 3) := by decide +kernel
theorem d39_132 : decode (jm_b 39) 132 = .ok (.getfield 177, 3) := by decide +kernel
theorem d39_135 : decode (jm_b 39) 135 = .ok (.ireturn, 1) := by decide +kernel
theorem d39_136 : decode (jm_b 39) 136 = .ok (.aload_n 0, 1) := by decide +kernel
theorem d39_137 : decode (jm_b 39) 137 = .ok (.getfield 41, 3) := by decide +kernel
theorem d39_140 : decode (jm_b 39) 140 = .ok (.getfield 124, 3) := by decide +kernel
theorem d39_143 : decode (jm_b 39) 143 = .ok (.getfield 217, 3) := by decide +kernel
theorem d39_146 : decode (jm_b 39) 146 = .ok (.ireturn, 1) := by decide +kernel
theorem d39_147 : decode (jm_b 39) 147 = .ok (.aload_n 0, 1) := by decide +kernel
theorem d39_148 : decode (jm_b 39) 148 = .ok (.getfield 41, 3) := by decide +kernel
theorem d39_151 : decode (jm_b 39) 151 = .ok (.getfield 124, 3) := by decide +kernel
theorem d39_154 : decode (jm_b 39) 154 = .ok (.invokevirtual 317, 3) := by decide +kernel
theorem d39_157 : decode (jm_b 39) 157 = .ok (.ireturn, 1) := by decide +kernel
theorem d39_158 : decode (jm_b 39) 158 = .ok (.aload_n 0, 1) := by decide +kernel
theorem d39_159 : decode (jm_b 39) 159 = .ok (.getfield 41, 3) := by decide +kernel
theorem d39_162 : decode (jm_b 39) 162 = .ok (.getfield 248, 3) := by decide +kernel
theorem d39_165 : decode (jm_b 39) 165 = .ok (.ireturn, 1) := by decide +kernel
theorem d39_166 : decode (jm_b 39) 166 = .ok (.aload_n 0, 1) := by decide +kernel
theorem d39_167 : decode (jm_b 39) 167 = .ok (.getfield 41, 3) := by decide +kernel
theorem d39_170 : decode (jm_b 39) 170 = .ok (.getfield 220, 3) := by decide +kernel
theorem d39_173 : decode (jm_b 39) 173 = .ok (.ireturn, 1) := by decide +kernel
theorem d39_174 : decode (jm_b 39) 174 = .ok (.aload_n 0, 1) := by decide +kernel
theorem d39_175 : decode (jm_b 39) 175 = .ok (.getfield 41, 3) := by decide +kernel
theorem d39_178 : decode (jm_b 39) 178 = .ok (.getfield 298, 3) := by decide +kernel
theorem d39_181 : decode (jm_b 39) 181 = .ok (.ireturn, 1) := by decide +kernel
theorem d39_182 : decode (jm_b 39) 182 = .ok (.aload_n 0, 1) := by decide +kernel
theorem d39_183 : decode (jm_b 39) 183 = .ok (.getfield 10, 3) := by decide +kernel
theorem d39_186 : decode (jm_b 39) 186 = .ok (.getfield 84, 3) := by decide +kernel
theorem d39_189 : decode (jm_b 39) 189 = .ok (.ireturn, 1) := by decide +kernel
theorem d39_190 : decode (jm_b 39) 190 = .ok (.iconst (-1), 1) := by decide +kernel
theorem d39_191 : decode (jm_b 39) 191 = .ok (.ireturn, 1) := by decide +kernel
theorem d4007_0 : decode (jm_b 4007) 0 = .ok (.iconst 0, 1) := by decide +kernel
theorem d4007_1 : decode (jm_b 4007) 1 = .ok (.istore_n 1, 1) := by decide +kernel
theorem d4007_2 : decode (jm_b 4007) 2 = .ok (.iconst 0, 1) := by decide +kernel
theorem d4007_3 : decode (jm_b 4007) 3 = .ok (.istore_n 2, 1) := by decide +kernel
theorem d4007_4 : decode (jm_b 4007) 4 = .ok (.iload_n 2, 1) := by decide +kernel
theorem d4007_5 : decode (jm_b 4007) 5 = .ok (.bipush 8, 2) := by decide +kernel
theorem d4007_7 : decode (jm_b 4007) 7 = .ok (.if_icmp .ge 18, 3) := by decide +kernel
theorem d4007_10 : decode (jm_b 4007) 10 = .ok (.iload_n 1, 1) := by decide +kernel
theorem d4007_11 : decode (jm_b 4007) 11 = .ok (.aload_n 0, 1) := by decide +kernel
theorem d4007_12 : decode (jm_b 4007) 12 = .ok (.getfield 21, 3) := by decide +kernel
theorem d4007_15 : decode (jm_b 4007) 15 = .ok (.iload_n 2, 1) := by decide +kernel
theorem d4007_16 : decode (jm_b 4007) 16 = .ok (.iaload, 1) := by decide +kernel
theorem d4007_17 : decode (jm_b 4007) 17 = .ok (.iadd, 1) := by decide +kernel
theorem d4007_18 : decode (jm_b 4007) 18 = .ok (.istore_n 1, 1) := by decide +kernel
theorem d4007_19 : decode (jm_b 4007) 19 = .ok (.iinc 2 1, 3) := by decide +kernel
theorem d4007_22 : decode (jm_b 4007) 22 = .ok (.goto (-18), 3) := by decide +kernel
theorem d4007_25 : decode (jm_b 4007) 25 = .ok (.iload_n 1, 1) := by decide +kernel
theorem d4007_26 : decode (jm_b 4007) 26 = .ok (.ireturn, 1) := by decide +kernel
theorem d40_0 : decode (jm_b 40) 0 = .ok (.iload_n 1, 1) := by decide +kernel
theorem d40_1 : decode (jm_b 40) 1 = .ok (.ifCond .lt 8, 3) := by decide +kernel
theorem d40_4 : decode (jm_b 40) 4 = .ok (.iload_n 1, 1) := by decide +kernel
theorem d40_5 : decode (jm_b 40) 5 = .ok (.iconst 4, 1) := by decide +kernel
theorem d40_6 : decode (jm_b 40) 6 = .ok (.if_icmp .lt 5, 3) := by decide +kernel
theorem d40_9 : decode (jm_b 40) 9 = .ok (.iconst (-1), 1) := by decide +kernel
theorem d40_10 : decode (jm_b 40) 10 = .ok (.ireturn, 1) := by decide +kernel
theorem d40_11 : decode (jm_b 40) 11 = .ok (.aload_n 0, 1) := by decide +kernel
theorem d40_12 : decode (jm_b 40) 12 = .ok (.getfield 45, 3) := by decide +kernel
theorem d40_15 : decode (jm_b 40) 15 = .ok (.iload_n 1, 1) := by decide +kernel
theorem d40_16 : decode (jm_b 40) 16 = .ok (.aaload, 1) := by decide +kernel
theorem d40_17 : decode (jm_b 40) 17 = .ok (.aload_n 0, 1) := by decide +kernel
theorem d40_18 : decode (jm_b 40) 18 = .ok (.getfield 41, 3) := by decide +kernel
theorem d40_21 : decode (jm_b 40) 21 = .ok (.invokevirtual 321, 3) := by decide +kernel
theorem d40_24 : decode (jm_b 40) 24 = .ok (.aload_n 0, 1) := by decide +kernel
theorem d40_25 : decode (jm_b 40) 25 = .ok (.getfield 49, 3) := by decide +kernel
theorem d40_28 : decode (jm_b 40) 28 = .ok (.iload_n 1, 1) := by decide +kernel
theorem d40_29 : decode (jm_b 40) 29 = .ok (.iconst 1, 1) := by decide +kernel
theorem d40_30 : decode (jm_b 40) 30 = .ok (.bastore, 1) := by decide +kernel
theorem d40_31 : decode (jm_b 40) 31 = .ok (.aload_n 0, 1) := by decide +kernel
theorem d40_32 : decode (jm_b 40) 32 = .ok (.getfield 41, 3) := by decide +kernel
theorem d40_35 : decode (jm_b 40) 35 = .ok (.getfield 124, 3) := by decide +kernel
theorem d40_38 : decode (jm_b 40) 38 = .ok (.getfield 177, 3) := by decide +kernel
theorem d40_41 : decode (jm_b 40) 41 = .ok (.ireturn, 1) := by decide +kernel
theorem d7006_0 : decode (jm_b 7006) 0 = .ok (.aload_n 0, 1) := by decide +kernel
theorem d7006_1 : decode (jm_b 7006) 1 = .ok (.aload_n 1, 1) := by decide +kernel
theorem d7006_2 : decode (jm_b 7006) 2 = .ok (.getfield 12, 3) := by decide +kernel
theorem d7006_5 : decode (jm_b 7006) 5 = .ok (.putfield 12, 3) := by decide +kernel
theorem d7006_8 : decode (jm_b 7006) 8 = .ok (.aload_n 0, 1) := by decide +kernel
theorem d7006_9 : decode (jm_b 7006) 9 = .ok (.getfield 21, 3) := by decide +kernel
theorem d7006_12 : decode (jm_b 7006) 12 = .ok (.aload_n 1, 1) := by decide +kernel
theorem d7006_13 : decode (jm_b 7006) 13 = .ok (.getfield 21, 3) := by decide +kernel
theorem d7006_16 : decode (jm_b 7006) 16 = .ok (.invokevirtual 42, 3) := by decide +kernel
theorem d7006_19 : decode (jm_b 7006) 19 = .ok (.aload_n 0, 1) := by decide +kernel
theorem d7006_20 : decode (jm_b 7006) 20 = .ok (.aload_n 1, 1) := by decide +kernel
theorem d7006_21 : decode (jm_b 7006) 21 = .ok (.getfield 25, 3) := by decide +kernel
theorem d7006_24 : decode (jm_b 7006) 24 = .ok (.putfield 25, 3) := by decide +kernel
theorem d7006_27 : decode (jm_b 7006) 27 = .ok (.aload_n 0, 1) := by decide +kernel
theorem d7006_28 : decode (jm_b 7006) 28 = .ok (.aload_n 1, 1) := by decide +kernel
theorem d7006_29 : decode (jm_b 7006) 29 = .ok (.getfield 46, 3) := by decide +kernel
theorem d7006_32 : decode (jm_b 7006) 32 = .ok (.putfield 46, 3) := by decide +kernel
theorem d7006_35 : decode (jm_b 7006) 35 = .ok (.aload_n 0, 1) := by decide +kernel
theorem d7006_36 : decode (jm_b 7006) 36 = .ok (.aload_n 1, 1) := by decide +kernel
theorem d7006_37 : decode (jm_b 7006) 37 = .ok (.getfield 49, 3) := by decide +kernel
theorem d7006_40 : decode (jm_b 7006) 40 = .ok (.putfield 49, 3) := by decide +kernel
theorem d7006_43 : decode (jm_b 7006) 43 = .ok (.aload_n 1, 1) := by decide +kernel
theorem d7006_44 : decode (jm_b 7006) 44 = .ok (.getfield 29, 3) := by decide +kernel
theorem d7006_47 : decode (jm_b 7006) 47 = .ok (.iconst 0, 1) := by decide +kernel
theorem d7006_48 : decode (jm_b 7006) 48 = .ok (.aload_n 0, 1) := by decide +kernel
theorem d7006_49 : decode (jm_b 7006) 49 = .ok (.getfield 29, 3) := by decide +kernel
theorem d7006_52 : decode (jm_b 7006) 52 = .ok (.iconst 0, 1) := by decide +kernel
theorem d7006_53 : decode (jm_b 7006) 53 = .ok (.bipush 10, 2) := by decide +kernel
theorem d7006_55 : decode (jm_b 7006) 55 = .ok (.invokestatic 52, 3) := by decide +kernel
theorem d7006_58 : decode (jm_b 7006) 58 = .ok (.aload_n 1, 1) := by decide +kernel
theorem d7006_59 : decode (jm_b 7006) 59 = .ok (.getfield 33, 3) := by decide +kernel
theorem d7006_62 : decode (jm_b 7006) 62 = .ok (.iconst 0, 1) := by decide +kernel
theorem d7006_63 : decode (jm_b 7006) 63 = .ok (.aload_n 0, 1) := by decide +kernel
theorem d7006_64 : decode (jm_b 7006) 64 = .ok (.getfield 33, 3) := by decide +kernel
theorem d7006_67 : decode (jm_b 7006) 67 = .ok (.iconst 0, 1) := by decide +kernel
theorem d7006_68 : decode (jm_b 7006) 68 = .ok (.bipush 10, 2) := by decide +kernel
theorem d7006_70 : decode (jm_b 7006) 70 = .ok (.invokestatic 52, 3) := by decide +kernel
theorem d7006_73 : decode (jm_b 7006) 73 = .ok (.aload_n 1, 1) := by decide +kernel
theorem d7006_74 : decode (jm_b 7006) 74 = .ok (.getfield 36, 3) := by decide +kernel
theorem d7006_77 : decode (jm_b 7006) 77 = .ok (.iconst 0, 1) := by decide +kernel
theorem d7006_78 : decode (jm_b 7006) 78 = .ok (.aload_n 0, 1) := by decide +kernel
theorem d7006_79 : decode (jm_b 7006) 79 = .ok (.getfield 36, 3) := by decide +kernel
theorem d7006_82 : decode (jm_b 7006) 82 = .ok (.iconst 0, 1) := by decide +kernel
theorem d7006_83 : decode (jm_b 7006) 83 = .ok (.bipush 10, 2) := by decide +kernel
theorem d7006_85 : decode (jm_b 7006) 85 = .ok (.invokestatic 52, 3) := by decide +kernel
theorem d7006_88 : decode (jm_b 7006) 88 = .ok (.aload_n 1, 1) := by decide +kernel
theorem d7006_89 : decode (jm_b 7006) 89 = .ok (.getfield 39, 3) := by decide +kernel
theorem d7006_92 : decode (jm_b 7006) 92 = .ok (.iconst 0, 1) := by decide +kernel
theorem d7006_93 : decode (jm_b 7006) 93 = .ok (.aload_n 0, 1) := by decide +kernel
theorem d7006_94 : decode (jm_b 7006) 94 = .ok (.getfield 39, 3) := by decide +kernel
theorem d7006_97 : decode (jm_b 7006) 97 = .ok (.iconst 0, 1) := by decide +kernel
theorem d7006_98 : decode (jm_b 7006) 98 = .ok (.aload_n 0, 1) := by decide +kernel
theorem d7006_99 : decode (jm_b 7006) 99 = .ok (.getfield 39, 3) := by decide +kernel
theorem d7006_102 : decode (jm_b 7006) 102 = .ok (.arraylength, 1) := by decide +kernel
theorem d7006_103 : decode (jm_b 7006) 103 = .ok (.invokestatic 52, 3) := by decide +kernel
theorem d7006_106 : decode (jm_b 7006) 106 = .ok (.aload_n 0, 1) := by decide +kernel
theorem d7006_107 : decode (jm_b 7006) 107 = .ok (.aload_n 1, 1) := by decide +kernel
theorem d7006_108 : decode (jm_b 7006) 108 = .ok (.getfield 58, 3) := by decide +kernel
theorem d7006_111 : decode (jm_b 7006) 111 = .ok (.putfield 58, 3) := by decide +kernel
theorem d7006_114 : decode (jm_b 7006) 114 = .ok (.aload_n 0, 1) := by decide +kernel
theorem d7006_115 : decode (jm_b 7006) 115 = .ok (.aload_n 1, 1) := by decide +kernel
theorem d7006_116 : decode (jm_b 7006) 116 = .ok (.getfield 61, 3) := by decide +kernel
theorem d7006_119 : decode (jm_b 7006) 119 = .ok (.putfield 61, 3) := by decide +kernel
theorem d7006_122 : decode (jm_b 7006) 122 = .ok (.return_, 1) := by decide +kernel
theorem d41_0 : decode (jm_b 41) 0 = .ok (.iload_n 1, 1) := by decide +kernel
theorem d41_1 : decode (jm_b 41) 1 = .ok (.ifCond .lt 17, 3) := by decide +kernel
theorem d41_4 : decode (jm_b 41) 4 = .ok (.iload_n 1, 1) := by decide +kernel
theorem d41_5 : decode (jm_b 41) 5 = .ok (.iconst 4, 1) := by decide +kernel
theorem d41_6 : decode (jm_b 41) 6 = .ok (.if_icmp .ge 12, 3) := by decide +kernel
theorem d41_9 : decode (jm_b 41) 9 = .ok (.aload_n 0, 1) := by decide +kernel
theorem d41_10 : decode (jm_b 41) 10 = .ok (.getfield 49, 3) := by decide +kernel
theorem d41_13 : decode (jm_b 41) 13 = .ok (.iload_n 1, 1) := by decide +kernel
theorem d41_14 : decode (jm_b 41) 14 = .ok (.baload, 1) := by decide +kernel
theorem d41_15 : decode (jm_b 41) 15 = .ok (.ifCond .ne 5, 3) := by decide +kernel
theorem d41_18 : decode (jm_b 41) 18 = .ok (.iconst (-1), 1) := by decide +kernel
theorem d41_19 : decode (jm_b 41) 19 = .ok (.ireturn, 1) := by decide +kernel
theorem d41_20 : decode (jm_b 41) 20 = .ok (.aload_n 0, 1) := by decide +kernel
theorem d41_21 : decode (jm_b 41) 21 = .ok (.getfield 41, 3) := by decide +kernel
theorem d41_24 : decode (jm_b 41) 24 = .ok (.aload_n 0, 1) := by decide +kernel
theorem d41_25 : decode (jm_b 41) 25 = .ok (.getfield 45, 3) := by decide +kernel
theorem d41_28 : decode (jm_b 41) 28 = .ok (.iload_n 1, 1) := by decide +kernel
theorem d41_29 : decode (jm_b 41) 29 = .ok (.aaload, 1) := by decide +kernel
theorem d41_30 : decode (jm_b 41) 30 = .ok (.invokevirtual 321, 3) := by decide +kernel
theorem d41_33 : decode (jm_b 41) 33 = .ok (.aload_n 0, 1) := by decide +kernel
theorem d41_34 : decode (jm_b 41) 34 = .ok (.invokevirtual 103, 3) := by decide +kernel
theorem d41_37 : decode (jm_b 41) 37 = .ok (.aload_n 0, 1) := by decide +kernel
theorem d41_38 : decode (jm_b 41) 38 = .ok (.getfield 41, 3) := by decide +kernel
theorem d41_41 : decode (jm_b 41) 41 = .ok (.getfield 124, 3) := by decide +kernel
theorem d41_44 : decode (jm_b 41) 44 = .ok (.getfield 177, 3) := by decide +kernel
theorem d41_47 : decode (jm_b 41) 47 = .ok (.ireturn, 1) := by decide +kernel
theorem d12000_0 : decode (jm_b 12000) 0 = .ok (.aload_n 0, 1) := by decide +kernel
theorem d12000_1 : decode (jm_b 12000) 1 = .ok (.invokespecial 3, 3) := by decide +kernel
theorem d12000_4 : decode (jm_b 12000) 4 = .ok (.aload_n 0, 1) := by decide +kernel
theorem d12000_5 : decode (jm_b 12000) 5 = .ok (.bipush 9, 2) := by decide +kernel
theorem d12000_7 : decode (jm_b 12000) 7 = .ok (.newarray .int, 2) := by decide +kernel
theorem d12000_9 : decode (jm_b 12000) 9 = .ok (.dup, 1) := by decide +kernel
theorem d12000_10 : decode (jm_b 12000) 10 = .ok (.iconst 0, 1) := by decide +kernel
theorem d12000_11 : decode (jm_b 12000) 11 = .ok (.iconst 0, 1) := by decide +kernel
theorem d12000_12 : decode (jm_b 12000) 12 = .ok (.iastore, 1) := by decide +kernel
theorem d12000_13 : decode (jm_b 12000) 13 = .ok (.dup, 1) := by decide +kernel
theorem d12000_14 : decode (jm_b 12000) 14 = .ok (.iconst 1, 1) := by decide +kernel
theorem d12000_15 : decode (jm_b 12000) 15 = .ok (.iconst 0, 1) := by decide +kernel
theorem d12000_16 : decode (jm_b 12000) 16 = .ok (.iastore, 1) := by decide +kernel
theorem d12000_17 : decode (jm_b 12000) 17 = .ok (.dup, 1) := by decide +kernel
theorem d12000_18 : decode (jm_b 12000) 18 = .ok (.iconst 2, 1) := by decide +kernel
theorem d12000_19 : decode (jm_b 12000) 19 = .ok (.iconst 0, 1) := by decide +kernel
theorem d12000_20 : decode (jm_b 12000) 20 = .ok (.iastore, 1) := by decide +kernel
theorem d12000_21 : decode (jm_b 12000) 21 = .ok (.dup, 1) := by decide +kernel
theorem d12000_22 : decode (jm_b 12000) 22 = .ok (.iconst 3, 1) := by decide +kernel
theorem d12000_23 : decode (jm_b 12000) 23 = .ok (.iconst 0, 1) := by decide +kernel
theorem d12000_24 : decode (jm_b 12000) 24 = .ok (.iastore, 1) := by decide +kernel
theorem d12000_25 : decode (jm_b 12000) 25 = .ok (.dup, 1) := by decide +kernel
theorem d12000_26 : decode (jm_b 12000) 26 = .ok (.iconst 4, 1) := by decide +kernel
theorem d12000_27 : decode (jm_b 12000) 27 = .ok (.iconst 0, 1) := by decide +kernel
theorem d12000_28 : decode (jm_b 12000) 28 = .ok (.iastore, 1) := by decide +kernel
theorem d12000_29 : decode (jm_b 12000) 29 = .ok (.dup, 1) := by decide +kernel
theorem d12000_30 : decode (jm_b 12000) 30 = .ok (.iconst 5, 1) := by decide +kernel
theorem d12000_31 : decode (jm_b 12000) 31 = .ok (.iconst 0, 1) := by decide +kernel
theorem d12000_32 : decode (jm_b 12000) 32 = .ok (.iastore, 1) := by decide +kernel
theorem d12000_33 : decode (jm_b 12000) 33 = .ok (.dup, 1) := by decide +kernel
theorem d12000_34 : decode (jm_b 12000) 34 = .ok (.bipush 6, 2) := by decide +kernel
theorem d12000_36 : decode (jm_b 12000) 36 = .ok (.iconst 0, 1) := by decide +kernel
theorem d12000_37 : decode (jm_b 12000) 37 = .ok (.iastore, 1) := by decide +kernel
theorem d12000_38 : decode (jm_b 12000) 38 = .ok (.dup, 1) := by decide +kernel
theorem d12000_39 : decode (jm_b 12000) 39 = .ok (.bipush 7, 2) := by decide +kernel
theorem d12000_41 : decode (jm_b 12000) 41 = .ok (.iconst 0, 1) := by decide +kernel
theorem d12000_42 : decode (jm_b 12000) 42 = .ok (.iastore, 1) := by decide +kernel
theorem d12000_43 : decode (jm_b 12000) 43 = .ok (.dup, 1) := by decide +kernel
theorem d12000_44 : decode (jm_b 12000) 44 = .ok (.bipush 8, 2) := by decide +kernel
theorem d12000_46 : decode (jm_b 12000) 46 = .ok (.iconst (-1), 1) := by decide +kernel
theorem d12000_47 : decode (jm_b 12000) 47 = .ok (.iastore, 1) := by decide +kernel
theorem d12000_48 : decode (jm_b 12000) 48 = .ok (.putfield 9, 3) := by decide +kernel
theorem d12000_51 : decode (jm_b 12000) 51 = .ok (.aload_n 0, 1) := by decide +kernel
theorem d12000_52 : decode (jm_b 12000) 52 = .ok (.bipush 10, 2) := by decide +kernel
theorem d12000_54 : decode (jm_b 12000) 54 = .ok (.newarray .int, 2) := by decide +kernel
theorem d12000_56 : decode (jm_b 12000) 56 = .ok (.putfield 13, 3) := by decide +kernel
theorem d12000_59 : decode (jm_b 12000) 59 = .ok (.aload_n 0, 1) := by decide +kernel
theorem d12000_60 : decode (jm_b 12000) 60 = .ok (.bipush 10, 2) := by decide +kernel
theorem d12000_62 : decode (jm_b 12000) 62 = .ok (.newarray .int, 2) := by decide +kernel
theorem d12000_64 : decode (jm_b 12000) 64 = .ok (.putfield 16, 3) := by decide +kernel
theorem d12000_67 : decode (jm_b 12000) 67 = .ok (.aload_n 0, 1) := by decide +kernel
theorem d12000_68 : decode (jm_b 12000) 68 = .ok (.bipush 10, 2) := by decide +kernel
theorem d12000_70 : decode (jm_b 12000) 70 = .ok (.newarray .int, 2) := by decide +kernel
theorem d12000_72 : decode (jm_b 12000) 72 = .ok (.putfield 19, 3) := by decide +kernel
theorem d12000_75 : decode (jm_b 12000) 75 = .ok (.aload_n 0, 1) := by decide +kernel
theorem d12000_76 : decode (jm_b 12000) 76 = .ok (.bipush 100, 2) := by decide +kernel
theorem d12000_78 : decode (jm_b 12000) 78 = .ok (.newarray .int, 2) := by decide +kernel
theorem d12000_80 : decode (jm_b 12000) 80 = .ok (.putfield 22, 3) := by decide +kernel
theorem d12000_83 : decode (jm_b 12000) 83 = .ok (.aload_n 0, 1) := by decide +kernel
theorem d12000_84 : decode (jm_b 12000) 84 = .ok (.bipush 8, 2) := by decide +kernel
theorem d12000_86 : decode (jm_b 12000) 86 = .ok (.newarray .int, 2) := by decide +kernel
theorem d12000_88 : decode (jm_b 12000) 88 = .ok (.putfield 25, 3) := by decide +kernel
theorem d12000_91 : decode (jm_b 12000) 91 = .ok (.aload_n 0, 1) := by decide +kernel
theorem d12000_92 : decode (jm_b 12000) 92 = .ok (.bipush 8, 2) := by decide +kernel
theorem d12000_94 : decode (jm_b 12000) 94 = .ok (.newarray .int, 2) := by decide +kernel
theorem d12000_96 : decode (jm_b 12000) 96 = .ok (.putfield 28, 3) := by decide +kernel
theorem d12000_99 : decode (jm_b 12000) 99 = .ok (.aload_n 0, 1) := by decide +kernel
theorem d12000_100 : decode (jm_b 12000) 100 = .ok (.bipush 8, 2) := by decide +kernel
theorem d12000_102 : decode (jm_b 12000) 102 = .ok (.newarray .int, 2) := by decide +kernel
theorem d12000_104 : decode (jm_b 12000) 104 = .ok (.putfield 31, 3) := by decide +kernel
theorem d12000_107 : decode (jm_b 12000) 107 = .ok (.aload_n 0, 1) := by decide +kernel
theorem d12000_108 : decode (jm_b 12000) 108 = .ok (.bipush 8, 2) := by decide +kernel
theorem d12000_110 : decode (jm_b 12000) 110 = .ok (.newarray .int, 2) := by decide +kernel
theorem d12000_112 : decode (jm_b 12000) 112 = .ok (.putfield 34, 3) := by decide +kernel
theorem d12000_115 : decode (jm_b 12000) 115 = .ok (.aload_n 0, 1) := by decide +kernel
theorem d12000_116 : decode (jm_b 12000) 116 = .ok (.bipush 8, 2) := by decide +kernel
theorem d12000_118 : decode (jm_b 12000) 118 = .ok (.newarray .int, 2) := by decide +kernel
theorem d12000_120 : decode (jm_b 12000) 120 = .ok (.putfield 37, 3) := by decide +kernel
theorem d12000_123 : decode (jm_b 12000) 123 = .ok (.aload_n 0, 1) := by decide +kernel
theorem d12000_124 : decode (jm_b 12000) 124 = .ok (.bipush 8, 2) := by decide +kernel
theorem d12000_126 : decode (jm_b 12000) 126 = .ok (.newarray .int, 2) := by decide +kernel
theorem d12000_128 : decode (jm_b 12000) 128 = .ok (.putfield 40, 3) := by decide +kernel
theorem d12000_131 : decode (jm_b 12000) 131 = .ok (.aload_n 0, 1) := by decide +kernel
theorem d12000_132 : decode (jm_b 12000) 132 = .ok (.bipush 10, 2) := by decide +kernel
theorem d12000_134 : decode (jm_b 12000) 134 = .ok (.newarray .int, 2) := by decide +kernel
theorem d12000_136 : decode (jm_b 12000) 136 = .ok (.putfield 43, 3) := by decide +kernel
theorem d12000_139 : decode (jm_b 12000) 139 = .ok (.aload_n 0, 1) := by decide +kernel
theorem d12000_140 : decode (jm_b 12000) 140 = .ok (.bipush 10, 2) := by decide +kernel
theorem d12000_142 : decode (jm_b 12000) 142 = .ok (.newarray .int, 2) := by decide +kernel
theorem d12000_144 : decode (jm_b 12000) 144 = .ok (.putfield 46, 3) := by decide +kernel
theorem d12000_147 : decode (jm_b 12000) 147 = .ok (.aload_n 0, 1) := by decide +kernel
theorem d12000_148 : decode (jm_b 12000) 148 = .ok (.bipush 10, 2) := by decide +kernel
theorem d12000_150 : decode (jm_b 12000) 150 = .ok (.newarray .int, 2) := by decide +kernel
theorem d12000_152 : decode (jm_b 12000) 152 = .ok (.putfield 49, 3) := by decide +kernel
theorem d12000_155 : decode (jm_b 12000) 155 = .ok (.aload_n 0, 1) := by decide +kernel
theorem d12000_156 : decode (jm_b 12000) 156 = .ok (.bipush 10, 2) := by decide +kernel
theorem d12000_158 : decode (jm_b 12000) 158 = .ok (.newarray .int, 2) := by decide +kernel
theorem d12000_160 : decode (jm_b 12000) 160 = .ok (.putfield 52, 3) := by decide +kernel
theorem d12000_163 : decode (jm_b 12000) 163 = .ok (.aload_n 0, 1) := by decide +kernel
theorem d12000_164 : decode (jm_b 12000) 164 = .ok (.iconst 1, 1) := by decide +kernel
theorem d12000_165 : decode (jm_b 12000) 165 = .ok (.newarray .int, 2) := by decide +kernel
theorem d12000_167 : decode (jm_b 12000) 167 = .ok (.putfield 55, 3) := by decide +kernel
theorem d12000_170 : decode (jm_b 12000) 170 = .ok (.aload_n 0, 1) := by decide +kernel
theorem d12000_171 : decode (jm_b 12000) 171 = .ok (.iconst 5, 1) := by decide +kernel
theorem d12000_172 : decode (jm_b 12000) 172 = .ok (.newarray .int, 2) := by decide +kernel
theorem d12000_174 : decode (jm_b 12000) 174 = .ok (.putfield 58, 3) := by decide +kernel
theorem d12000_177 : decode (jm_b 12000) 177 = .ok (.aload_n 0, 1) := by decide +kernel
theorem d12000_178 : decode (jm_b 12000) 178 = .ok (.bipush 10, 2) := by decide +kernel
theorem d12000_180 : decode (jm_b 12000) 180 = .ok (.newarray .int, 2) := by decide +kernel
theorem d12000_182 : decode (jm_b 12000) 182 = .ok (.putfield 61, 3) := by decide +kernel
theorem d12000_185 : decode (jm_b 12000) 185 = .ok (.aload_n 0, 1) := by decide +kernel
theorem d12000_186 : decode (jm_b 12000) 186 = .ok (.bipush 10, 2) := by decide +kernel
theorem d12000_188 : decode (jm_b 12000) 188 = .ok (.newarray .int, 2) := by decide +kernel
theorem d12000_190 : decode (jm_b 12000) 190 = .ok (.putfield 64, 3) := by decide +kernel
theorem d12000_193 : decode (jm_b 12000) 193 = .ok (.aload_n 0, 1) := by decide +kernel
theorem d12000_194 : decode (jm_b 12000) 194 = .ok (.bipush 10, 2) := by decide +kernel
theorem d12000_196 : decode (jm_b 12000) 196 = .ok (.newarray .int, 2) := by decide +kernel
theorem d12000_198 : decode (jm_b 12000) 198 = .ok (.putfield 67, 3) := by decide +kernel
theorem d12000_201 : decode (jm_b 12000) 201 = .ok (.aload_n 0, 1) := by decide +kernel
theorem d12000_202 : decode (jm_b 12000) 202 = .ok (.bipush 100, 2) := by decide +kernel
theorem d12000_204 : decode (jm_b 12000) 204 = .ok (.newarray .int, 2) := by decide +kernel
theorem d12000_206 : decode (jm_b 12000) 206 = .ok (.putfield 70, 3) := by decide +kernel
theorem d12000_209 : decode (jm_b 12000) 209 = .ok (.aload_n 0, 1) := by decide +kernel
theorem d12000_210 : decode (jm_b 12000) 210 = .ok (.bipush 8, 2) := by decide +kernel
theorem d12000_212 : decode (jm_b 12000) 212 = .ok (.newarray .int, 2) := by decide +kernel
theorem d12000_214 : decode (jm_b 12000) 214 = .ok (.putfield 73, 3) := by decide +kernel
theorem d12000_217 : decode (jm_b 12000) 217 = .ok (.aload_n 0, 1) := by decide +kernel
theorem d12000_218 : decode (jm_b 12000) 218 = .ok (.bipush 8, 2) := by decide +kernel
theorem d12000_220 : decode (jm_b 12000) 220 = .ok (.newarray .int, 2) := by decide +kernel
theorem d12000_222 : decode (jm_b 12000) 222 = .ok (.putfield 76, 3) := by decide +kernel
theorem d12000_225 : decode (jm_b 12000) 225 = .ok (.aload_n 0, 1) := by decide +kernel
theorem d12000_226 : decode (jm_b 12000) 226 = .ok (.bipush 8, 2) := by decide +kernel
theorem d12000_228 : decode (jm_b 12000) 228 = .ok (.newarray .int, 2) := by decide +kernel
theorem d12000_230 : decode (jm_b 12000) 230 = .ok (.putfield 79, 3) := by decide +kernel
theorem d12000_233 : decode (jm_b 12000) 233 = .ok (.aload_n 0, 1) := by decide +kernel
theorem d12000_234 : decode (jm_b 12000) 234 = .ok (.bipush 8, 2) := by decide +kernel
theorem d12000_236 : decode (jm_b 12000) 236 = .ok (.newarray .int, 2) := by decide +kernel
theorem d12000_238 : decode (jm_b 12000) 238 = .ok (.putfield 82, 3) := by decide +kernel
theorem d12000_241 : decode (jm_b 12000) 241 = .ok (.aload_n 0, 1) := by decide +kernel
theorem d12000_242 : decode (jm_b 12000) 242 = .ok (.bipush 8, 2) := by decide +kernel
theorem d12000_244 : decode (jm_b 12000) 244 = .ok (.newarray .int, 2) := by decide +kernel
theorem d12000_246 : decode (jm_b 12000) 246 = .ok (.putfield 85, 3) := by decide +kernel
theorem d12000_249 : decode (jm_b 12000) 249 = .ok (.aload_n 0, 1) := by decide +kernel
theorem d12000_250 : decode (jm_b 12000) 250 = .ok (.bipush 12, 2) := by decide +kernel
theorem d12000_252 : decode (jm_b 12000) 252 = .ok (.putfield 88, 3) := by decide +kernel
theorem d12000_255 : decode (jm_b 12000) 255 = .ok (.aload_n 0, 1) := by decide +kernel
theorem d12000_256 : decode (jm_b 12000) 256 = .ok (.sipush 400, 3) := by decide +kernel
theorem d12000_259 : decode (jm_b 12000) 259 = .ok (.newarray .byte, 2) := by decide +kernel
theorem d12000_261 : decode (jm_b 12000) 261 = .ok (.putfield 92, 3) := by decide +kernel
theorem d12000_264 : decode (jm_b 12000) 264 = .ok (.aload_n 0, 1) := by decide +kernel
theorem d12000_265 : decode (jm_b 12000) 265 = .ok (.sipush 1800, 3) := by decide +kernel
theorem d12000_268 : decode (jm_b 12000) 268 = .ok (.newarray .int, 2) := by decide +kernel
theorem d12000_270 : decode (jm_b 12000) 270 = .ok (.putfield 96, 3) := by decide +kernel
theorem d12000_273 : decode (jm_b 12000) 273 = .ok (.aload_n 0, 1) := by decide +kernel
theorem d12000_274 : decode (jm_b 12000) 274 = .ok (.sipush 1800, 3) := by decide +kernel
theorem d12000_277 : decode (jm_b 12000) 277 = .ok (.newarray .int, 2) := by decide +kernel
theorem d12000_279 : decode (jm_b 12000) 279 = .ok (.putfield 99, 3) := by decide +kernel
theorem d12000_282 : decode (jm_b 12000) 282 = .ok (.aload_n 0, 1) := by decide +kernel
theorem d12000_283 : decode (jm_b 12000) 283 = .ok (.bipush 6, 2) := by decide +kernel
theorem d12000_285 : decode (jm_b 12000) 285 = .ok (.newarray .int, 2) := by decide +kernel
theorem d12000_287 : decode (jm_b 12000) 287 = .ok (.putfield 102, 3) := by decide +kernel
theorem d12000_290 : decode (jm_b 12000) 290 = .ok (.aload_n 0, 1) := by decide +kernel
theorem d12000_291 : decode (jm_b 12000) 291 = .ok (.bipush 72, 2) := by decide +kernel
theorem d12000_293 : decode (jm_b 12000) 293 = .ok (.newarray .int, 2) := by decide +kernel
theorem d12000_295 : decode (jm_b 12000) 295 = .ok (.putfield 105, 3) := by decide +kernel
theorem d12000_298 : decode (jm_b 12000) 298 = .ok (.aload_n 0, 1) := by decide +kernel
theorem d12000_299 : decode (jm_b 12000) 299 = .ok (.bipush 72, 2) := by decide +kernel
theorem d12000_301 : decode (jm_b 12000) 301 = .ok (.newarray .int, 2) := by decide +kernel
theorem d12000_303 : decode (jm_b 12000) 303 = .ok (.putfield 108, 3) := by decide +kernel
theorem d12000_306 : decode (jm_b 12000) 306 = .ok (.aload_n 0, 1) := by decide +kernel
theorem d12000_307 : decode (jm_b 12000) 307 = .ok (.bipush 72, 2) := by decide +kernel
theorem d12000_309 : decode (jm_b 12000) 309 = .ok (.newarray .int, 2) := by decide +kernel
theorem d12000_311 : decode (jm_b 12000) 311 = .ok (.putfield 111, 3) := by decide +kernel
theorem d12000_314 : decode (jm_b 12000) 314 = .ok (.aload_n 0, 1) := by decide +kernel
theorem d12000_315 : decode (jm_b 12000) 315 = .ok (.sipush 402, 3) := by decide +kernel
theorem d12000_318 : decode (jm_b 12000) 318 = .ok (.newarray .int, 2) := by decide +kernel
theorem d12000_320 : decode (jm_b 12000) 320 = .ok (.putfield 114, 3) := by decide +kernel
theorem d12000_323 : decode (jm_b 12000) 323 = .ok (.aload_n 0, 1) := by decide +kernel
theorem d12000_324 : decode (jm_b 12000) 324 = .ok (.bipush 12, 2) := by decide +kernel
theorem d12000_326 : decode (jm_b 12000) 326 = .ok (.newarray .long, 2) := by decide +kernel
theorem d12000_328 : decode (jm_b 12000) 328 = .ok (.putfield 117, 3) := by decide +kernel
theorem d12000_331 : decode (jm_b 12000) 331 = .ok (.aload_n 0, 1) := by decide +kernel
theorem d12000_332 : decode (jm_b 12000) 332 = .ok (.sipush 300, 3) := by decide +kernel
theorem d12000_335 : decode (jm_b 12000) 335 = .ok (.newarray .long, 2) := by decide +kernel
theorem d12000_337 : decode (jm_b 12000) 337 = .ok (.putfield 121, 3) := by decide +kernel
theorem d12000_340 : decode (jm_b 12000) 340 = .ok (.aload_n 0, 1) := by decide +kernel
theorem d12000_341 : decode (jm_b 12000) 341 = .ok (.bipush 10, 2) := by decide +kernel
theorem d12000_343 : decode (jm_b 12000) 343 = .ok (.newarray .int, 2) := by decide +kernel
theorem d12000_345 : decode (jm_b 12000) 345 = .ok (.putfield 124, 3) := by decide +kernel
theorem d12000_348 : decode (jm_b 12000) 348 = .ok (.aload_n 0, 1) := by decide +kernel
theorem d12000_349 : decode (jm_b 12000) 349 = .ok (.bipush 8, 2) := by decide +kernel
theorem d12000_351 : decode (jm_b 12000) 351 = .ok (.newarray .int, 2) := by decide +kernel
theorem d12000_353 : decode (jm_b 12000) 353 = .ok (.putfield 127, 3) := by decide +kernel
theorem d12000_356 : decode (jm_b 12000) 356 = .ok (.aload_n 0, 1) := by decide +kernel
theorem d12000_357 : decode (jm_b 12000) 357 = .ok (.sipush 800, 3) := by decide +kernel
theorem d12000_360 : decode (jm_b 12000) 360 = .ok (.newarray .int, 2) := by decide +kernel
theorem d12000_362 : decode (jm_b 12000) 362 = .ok (.putfield 130, 3) := by decide +kernel
theorem d12000_365 : decode (jm_b 12000) 365 = .ok (.aload_n 0, 1) := by decide +kernel
theorem d12000_366 : decode (jm_b 12000) 366 = .ok (.iconst 1, 1) := by decide +kernel
theorem d12000_367 : decode (jm_b 12000) 367 = .ok (.newarray .int, 2) := by decide +kernel
theorem d12000_369 : decode (jm_b 12000) 369 = .ok (.putfield 133, 3) := by decide +kernel
theorem d12000_372 : decode (jm_b 12000) 372 = .ok (.aload_n 0, 1) := by decide +kernel
theorem d12000_373 : decode (jm_b 12000) 373 = .ok (.iconst 3, 1) := by decide +kernel
theorem d12000_374 : decode (jm_b 12000) 374 = .ok (.newarray .int, 2) := by decide +kernel
theorem d12000_376 : decode (jm_b 12000) 376 = .ok (.putfield 136, 3) := by decide +kernel
theorem d12000_379 : decode (jm_b 12000) 379 = .ok (.aload_n 0, 1) := by decide +kernel
theorem d12000_380 : decode (jm_b 12000) 380 = .ok (.iconst 3, 1) := by decide +kernel
theorem d12000_381 : decode (jm_b 12000) 381 = .ok (.newarray .int, 2) := by decide +kernel
theorem d12000_383 : decode (jm_b 12000) 383 = .ok (.putfield 139, 3) := by decide +kernel
theorem d12000_386 : decode (jm_b 12000) 386 = .ok (.aload_n 0, 1) := by decide +kernel
theorem d12000_387 : decode (jm_b 12000) 387 = .ok (.bipush 84, 2) := by decide +kernel
theorem d12000_389 : decode (jm_b 12000) 389 = .ok (.newarray .int, 2) := by decide +kernel
theorem d12000_391 : decode (jm_b 12000) 391 = .ok (.putfield 142, 3) := by decide +kernel
theorem d12000_394 : decode (jm_b 12000) 394 = .ok (.aload_n 0, 1) := by decide +kernel
theorem d12000_395 : decode (jm_b 12000) 395 = .ok (.iconst 5, 1) := by decide +kernel
theorem d12000_396 : decode (jm_b 12000) 396 = .ok (.newarray .int, 2) := by decide +kernel
theorem d12000_398 : decode (jm_b 12000) 398 = .ok (.putfield 145, 3) := by decide +kernel
theorem d12000_401 : decode (jm_b 12000) 401 = .ok (.aload_n 0, 1) := by decide +kernel
theorem d12000_402 : decode (jm_b 12000) 402 = .ok (.iconst 5, 1) := by decide +kernel
theorem d12000_403 : decode (jm_b 12000) 403 = .ok (.newarray .int, 2) := by decide +kernel
theorem d12000_405 : decode (jm_b 12000) 405 = .ok (.putfield 148, 3) := by decide +kernel
theorem d12000_408 : decode (jm_b 12000) 408 = .ok (.aload_n 0, 1) := by decide +kernel
theorem d12000_409 : decode (jm_b 12000) 409 = .ok (.sipush 310, 3) := by decide +kernel
theorem d12000_412 : decode (jm_b 12000) 412 = .ok (.newarray .int, 2) := by decide +kernel
theorem d12000_414 : decode (jm_b 12000) 414 = .ok (.putfield 151, 3) := by decide +kernel
theorem d12000_417 : decode (jm_b 12000) 417 = .ok (.aload_n 0, 1) := by decide +kernel
theorem d12000_418 : decode (jm_b 12000) 418 = .ok (.sipush 1000, 3) := by decide +kernel
theorem d12000_421 : decode (jm_b 12000) 421 = .ok (.newarray .int, 2) := by decide +kernel
theorem d12000_423 : decode (jm_b 12000) 423 = .ok (.putfield 154, 3) := by decide +kernel
theorem d12000_426 : decode (jm_b 12000) 426 = .ok (.aload_n 0, 1) := by decide +kernel
theorem d12000_427 : decode (jm_b 12000) 427 = .ok (.bipush 10, 2) := by decide +kernel
theorem d12000_429 : decode (jm_b 12000) 429 = .ok (.newarray .int, 2) := by decide +kernel
theorem d12000_431 : decode (jm_b 12000) 431 = .ok (.putfield 157, 3) := by decide +kernel
theorem d12000_434 : decode (jm_b 12000) 434 = .ok (.aload_n 0, 1) := by decide +kernel
theorem d12000_435 : decode (jm_b 12000) 435 = .ok (.sipush 5500, 3) := by decide +kernel
theorem d12000_438 : decode (jm_b 12000) 438 = .ok (.newarray .int, 2) := by decide +kernel
theorem d12000_440 : decode (jm_b 12000) 440 = .ok (.putfield 160, 3) := by decide +kernel
theorem d12000_443 : decode (jm_b 12000) 443 = .ok (.aload_n 0, 1) := by decide +kernel
theorem d12000_444 : decode (jm_b 12000) 444 = .ok (.iconst 4, 1) := by decide +kernel
theorem d12000_445 : decode (jm_b 12000) 445 = .ok (.newarray .boolean, 2) := by decide +kernel
theorem d12000_447 : decode (jm_b 12000) 447 = .ok (.putfield 163, 3) := by decide +kernel
theorem d12000_450 : decode (jm_b 12000) 450 = .ok (.return_, 1) := by decide +kernel
theorem d12001_0 : decode (jm_b 12001) 0 = .ok (.aload_n 0, 1) := by decide +kernel
theorem d12001_1 : decode (jm_b 12001) 1 = .ok (.getfield 185, 3) := by decide +kernel
theorem d12001_4 : decode (jm_b 12001) 4 = .ok (.bipush 20, 2) := by decide +kernel
theorem d12001_6 : decode (jm_b 12001) 6 = .ok (.iadd, 1) := by decide +kernel
theorem d12001_7 : decode (jm_b 12001) 7 = .ok (.sipush 400, 3) := by decide +kernel
theorem d12001_10 : decode (jm_b 12001) 10 = .ok (.if_icmp .le 5, 3) := by decide +kernel
theorem d12001_13 : decode (jm_b 12001) 13 = .ok (.iconst (-1), 1) := by decide +kernel
theorem d12001_14 : decode (jm_b 12001) 14 = .ok (.ireturn, 1) := by decide +kernel
theorem d12001_15 : decode (jm_b 12001) 15 = .ok (.aload_n 0, 1) := by decide +kernel
theorem d12001_16 : decode (jm_b 12001) 16 = .ok (.iload_n 1, 1) := by decide +kernel
theorem d12001_17 : decode (jm_b 12001) 17 = .ok (.invokevirtual 188, 3) := by decide +kernel
theorem d12001_20 : decode (jm_b 12001) 20 = .ok (.aload_n 0, 1) := by decide +kernel
theorem d12001_21 : decode (jm_b 12001) 21 = .ok (.iload_n 2, 1) := by decide +kernel
theorem d12001_22 : decode (jm_b 12001) 22 = .ok (.invokevirtual 188, 3) := by decide +kernel
theorem d12001_25 : decode (jm_b 12001) 25 = .ok (.aload_n 0, 1) := by decide +kernel
theorem d12001_26 : decode (jm_b 12001) 26 = .ok (.iload_n 3, 1) := by decide +kernel
theorem d12001_27 : decode (jm_b 12001) 27 = .ok (.invokevirtual 188, 3) := by decide +kernel
theorem d12001_30 : decode (jm_b 12001) 30 = .ok (.aload_n 0, 1) := by decide +kernel
theorem d12001_31 : decode (jm_b 12001) 31 = .ok (.iload 4, 2) := by decide +kernel
theorem d12001_33 : decode (jm_b 12001) 33 = .ok (.invokevirtual 188, 3) := by decide +kernel
theorem d12001_36 : decode (jm_b 12001) 36 = .ok (.aload_n 0, 1) := by decide +kernel
theorem d12001_37 : decode (jm_b 12001) 37 = .ok (.iload 5, 2) := by decide +kernel
theorem d12001_39 : decode (jm_b 12001) 39 = .ok (.invokevirtual 188, 3) := by decide +kernel
theorem d12001_42 : decode (jm_b 12001) 42 = .ok (.aload_n 0, 1) := by decide +kernel
theorem d12001_43 : decode (jm_b 12001) 43 = .ok (.getfield 185, 3) := by decide +kernel
theorem d12001_46 : decode (jm_b 12001) 46 = .ok (.ireturn, 1) := by decide +kernel
theorem d12002_0 : decode (jm_b 12002) 0 = .ok (.bipush 24, 2) := by decide +kernel
theorem d12002_2 : decode (jm_b 12002) 2 = .ok (.istore_n 2, 1) := by decide +kernel
theorem d12002_3 : decode (jm_b 12002) 3 = .ok (.iload_n 2, 1) := by decide +kernel
theorem d12002_4 : decode (jm_b 12002) 4 = .ok (.ifCond .lt 32, 3) := by decide +kernel
theorem d12002_7 : decode (jm_b 12002) 7 = .ok (.aload_n 0, 1) := by decide +kernel
theorem d12002_8 : decode (jm_b 12002) 8 = .ok (.getfield 92, 3) := by decide +kernel
theorem d12002_11 : decode (jm_b 12002) 11 = .ok (.aload_n 0, 1) := by decide +kernel
theorem d12002_12 : decode (jm_b 12002) 12 = .ok (.getfield 185, 3) := by decide +kernel
theorem d12002_15 : decode (jm_b 12002) 15 = .ok (.iload_n 1, 1) := by decide +kernel
theorem d12002_16 : decode (jm_b 12002) 16 = .ok (.iload_n 2, 1) := by decide +kernel
theorem d12002_17 : decode (jm_b 12002) 17 = .ok (.ishr, 1) := by decide +kernel
theorem d12002_18 : decode (jm_b 12002) 18 = .ok (.i2b, 1) := by decide +kernel
theorem d12002_19 : decode (jm_b 12002) 19 = .ok (.bastore, 1) := by decide +kernel
theorem d12002_20 : decode (jm_b 12002) 20 = .ok (.aload_n 0, 1) := by decide +kernel
theorem d12002_21 : decode (jm_b 12002) 21 = .ok (.dup, 1) := by decide +kernel
theorem d12002_22 : decode (jm_b 12002) 22 = .ok (.getfield 185, 3) := by decide +kernel
theorem d12002_25 : decode (jm_b 12002) 25 = .ok (.iconst 1, 1) := by decide +kernel
theorem d12002_26 : decode (jm_b 12002) 26 = .ok (.iadd, 1) := by decide +kernel
theorem d12002_27 : decode (jm_b 12002) 27 = .ok (.putfield 185, 3) := by decide +kernel
theorem d12002_30 : decode (jm_b 12002) 30 = .ok (.iinc 2 (-8), 3) := by decide +kernel
theorem d12002_33 : decode (jm_b 12002) 33 = .ok (.goto (-30), 3) := by decide +kernel
theorem d12002_36 : decode (jm_b 12002) 36 = .ok (.return_, 1) := by decide +kernel
theorem d12003_0 : decode (jm_b 12003) 0 = .ok (.iload_n 1, 1) := by decide +kernel
theorem d12003_1 : decode (jm_b 12003) 1 = .ok (.ifCond .lt 11, 3) := by decide +kernel
theorem d12003_4 : decode (jm_b 12003) 4 = .ok (.iload_n 1, 1) := by decide +kernel
theorem d12003_5 : decode (jm_b 12003) 5 = .ok (.aload_n 0, 1) := by decide +kernel
theorem d12003_6 : decode (jm_b 12003) 6 = .ok (.getfield 185, 3) := by decide +kernel
theorem d12003_9 : decode (jm_b 12003) 9 = .ok (.if_icmp .le 5, 3) := by decide +kernel
theorem d12003_12 : decode (jm_b 12003) 12 = .ok (.iconst (-1), 1) := by decide +kernel
theorem d12003_13 : decode (jm_b 12003) 13 = .ok (.ireturn, 1) := by decide +kernel
theorem d12003_14 : decode (jm_b 12003) 14 = .ok (.aload_n 0, 1) := by decide +kernel
theorem d12003_15 : decode (jm_b 12003) 15 = .ok (.iload_n 1, 1) := by decide +kernel
theorem d12003_16 : decode (jm_b 12003) 16 = .ok (.putfield 185, 3) := by decide +kernel
theorem d12003_19 : decode (jm_b 12003) 19 = .ok (.iload_n 1, 1) := by decide +kernel
theorem d12003_20 : decode (jm_b 12003) 20 = .ok (.ireturn, 1) := by decide +kernel
theorem d12004_0 : decode (jm_b 12004) 0 = .ok (.aload_n 0, 1) := by decide +kernel
theorem d12004_1 : decode (jm_b 12004) 1 = .ok (.invokevirtual 354, 3) := by decide +kernel
theorem d12004_4 : decode (jm_b 12004) 4 = .ok (.aload_n 0, 1) := by decide +kernel
theorem d12004_5 : decode (jm_b 12004) 5 = .ok (.getfield 214, 3) := by decide +kernel
theorem d12004_8 : decode (jm_b 12004) 8 = .ok (.ifCond .le 11, 3) := by decide +kernel
theorem d12004_11 : decode (jm_b 12004) 11 = .ok (.bipush (-2), 2) := by decide +kernel
theorem d12004_13 : decode (jm_b 12004) 13 = .ok (.aload_n 0, 1) := by decide +kernel
theorem d12004_14 : decode (jm_b 12004) 14 = .ok (.getfield 214, 3) := by decide +kernel
theorem d12004_17 : decode (jm_b 12004) 17 = .ok (.isub, 1) := by decide +kernel
theorem d12004_18 : decode (jm_b 12004) 18 = .ok (.ireturn, 1) := by decide +kernel
theorem d12004_19 : decode (jm_b 12004) 19 = .ok (.iconst 0, 1) := by decide +kernel
theorem d12004_20 : decode (jm_b 12004) 20 = .ok (.istore_n 1, 1) := by decide +kernel
theorem d12004_21 : decode (jm_b 12004) 21 = .ok (.iload_n 1, 1) := by decide +kernel
theorem d12004_22 : decode (jm_b 12004) 22 = .ok (.bipush 7, 2) := by decide +kernel
theorem d12004_24 : decode (jm_b 12004) 24 = .ok (.if_icmp .ge 30, 3) := by decide +kernel
theorem d12004_27 : decode (jm_b 12004) 27 = .ok (.aload_n 0, 1) := by decide +kernel
theorem d12004_28 : decode (jm_b 12004) 28 = .ok (.getfield 9, 3) := by decide +kernel
theorem d12004_31 : decode (jm_b 12004) 31 = .ok (.iload_n 1, 1) := by decide +kernel
theorem d12004_32 : decode (jm_b 12004) 32 = .ok (.iload_n 1, 1) := by decide +kernel
theorem d12004_33 : decode (jm_b 12004) 33 = .ok (.iconst 5, 1) := by decide +kernel
theorem d12004_34 : decode (jm_b 12004) 34 = .ok (.if_icmp .ge 12, 3) := by decide +kernel
theorem d12004_37 : decode (jm_b 12004) 37 = .ok (.aload_n 0, 1) := by decide +kernel
theorem d12004_38 : decode (jm_b 12004) 38 = .ok (.getfield 58, 3) := by decide +kernel
theorem d12004_41 : decode (jm_b 12004) 41 = .ok (.iload_n 1, 1) := by decide +kernel
theorem d12004_42 : decode (jm_b 12004) 42 = .ok (.iaload, 1) := by decide +kernel
theorem d12004_43 : decode (jm_b 12004) 43 = .ok (.goto 4, 3) := by decide +kernel
theorem d12004_46 : decode (jm_b 12004) 46 = .ok (.iconst 0, 1) := by decide +kernel
theorem d12004_47 : decode (jm_b 12004) 47 = .ok (.iastore, 1) := by decide +kernel
theorem d12004_48 : decode (jm_b 12004) 48 = .ok (.iinc 1 1, 3) := by decide +kernel
theorem d12004_51 : decode (jm_b 12004) 51 = .ok (.goto (-30), 3) := by decide +kernel
theorem d12004_54 : decode (jm_b 12004) 54 = .ok (.aload_n 0, 1) := by decide +kernel
theorem d12004_55 : decode (jm_b 12004) 55 = .ok (.getfield 61, 3) := by decide +kernel
theorem d12004_58 : decode (jm_b 12004) 58 = .ok (.aload_n 0, 1) := by decide +kernel
theorem d12004_59 : decode (jm_b 12004) 59 = .ok (.getfield 13, 3) := by decide +kernel
theorem d12004_62 : decode (jm_b 12004) 62 = .ok (.invokestatic 357, 3) := by decide +kernel
theorem d12004_65 : decode (jm_b 12004) 65 = .ok (.aload_n 0, 1) := by decide +kernel
theorem d12004_66 : decode (jm_b 12004) 66 = .ok (.getfield 64, 3) := by decide +kernel
theorem d12004_69 : decode (jm_b 12004) 69 = .ok (.aload_n 0, 1) := by decide +kernel
theorem d12004_70 : decode (jm_b 12004) 70 = .ok (.getfield 16, 3) := by decide +kernel
theorem d12004_73 : decode (jm_b 12004) 73 = .ok (.invokestatic 357, 3) := by decide +kernel
theorem d12004_76 : decode (jm_b 12004) 76 = .ok (.aload_n 0, 1) := by decide +kernel
theorem d12004_77 : decode (jm_b 12004) 77 = .ok (.getfield 64, 3) := by decide +kernel
theorem d12004_80 : decode (jm_b 12004) 80 = .ok (.aload_n 0, 1) := by decide +kernel
theorem d12004_81 : decode (jm_b 12004) 81 = .ok (.getfield 52, 3) := by decide +kernel
theorem d12004_84 : decode (jm_b 12004) 84 = .ok (.invokestatic 357, 3) := by decide +kernel
theorem d12004_87 : decode (jm_b 12004) 87 = .ok (.aload_n 0, 1) := by decide +kernel
theorem d12004_88 : decode (jm_b 12004) 88 = .ok (.getfield 67, 3) := by decide +kernel
theorem d12004_91 : decode (jm_b 12004) 91 = .ok (.aload_n 0, 1) := by decide +kernel
theorem d12004_92 : decode (jm_b 12004) 92 = .ok (.getfield 19, 3) := by decide +kernel
theorem d12004_95 : decode (jm_b 12004) 95 = .ok (.invokestatic 357, 3) := by decide +kernel
theorem d12004_98 : decode (jm_b 12004) 98 = .ok (.aload_n 0, 1) := by decide +kernel
theorem d12004_99 : decode (jm_b 12004) 99 = .ok (.getfield 70, 3) := by decide +kernel
theorem d12004_102 : decode (jm_b 12004) 102 = .ok (.aload_n 0, 1) := by decide +kernel
theorem d12004_103 : decode (jm_b 12004) 103 = .ok (.getfield 22, 3) := by decide +kernel
theorem d12004_106 : decode (jm_b 12004) 106 = .ok (.invokestatic 357, 3) := by decide +kernel
theorem d12004_109 : decode (jm_b 12004) 109 = .ok (.aload_n 0, 1) := by decide +kernel
theorem d12004_110 : decode (jm_b 12004) 110 = .ok (.getfield 73, 3) := by decide +kernel
theorem d12004_113 : decode (jm_b 12004) 113 = .ok (.aload_n 0, 1) := by decide +kernel
theorem d12004_114 : decode (jm_b 12004) 114 = .ok (.getfield 25, 3) := by decide +kernel
theorem d12004_117 : decode (jm_b 12004) 117 = .ok (.invokestatic 357, 3) := by decide +kernel
theorem d12004_120 : decode (jm_b 12004) 120 = .ok (.aload_n 0, 1) := by decide +kernel
theorem d12004_121 : decode (jm_b 12004) 121 = .ok (.getfield 76, 3) := by decide +kernel
theorem d12004_124 : decode (jm_b 12004) 124 = .ok (.aload_n 0, 1) := by decide +kernel
theorem d12004_125 : decode (jm_b 12004) 125 = .ok (.getfield 28, 3) := by decide +kernel
theorem d12004_128 : decode (jm_b 12004) 128 = .ok (.invokestatic 357, 3) := by decide +kernel
theorem d12004_131 : decode (jm_b 12004) 131 = .ok (.aload_n 0, 1) := by decide +kernel
theorem d12004_132 : decode (jm_b 12004) 132 = .ok (.getfield 79, 3) := by decide +kernel
theorem d12004_135 : decode (jm_b 12004) 135 = .ok (.aload_n 0, 1) := by decide +kernel
theorem d12004_136 : decode (jm_b 12004) 136 = .ok (.getfield 31, 3) := by decide +kernel
theorem d12004_139 : decode (jm_b 12004) 139 = .ok (.invokestatic 357, 3) := by decide +kernel
theorem d12004_142 : decode (jm_b 12004) 142 = .ok (.aload_n 0, 1) := by decide +kernel
theorem d12004_143 : decode (jm_b 12004) 143 = .ok (.getfield 82, 3) := by decide +kernel
theorem d12004_146 : decode (jm_b 12004) 146 = .ok (.aload_n 0, 1) := by decide +kernel
theorem d12004_147 : decode (jm_b 12004) 147 = .ok (.getfield 37, 3) := by decide +kernel
theorem d12004_150 : decode (jm_b 12004) 150 = .ok (.invokestatic 357, 3) := by decide +kernel
theorem d12004_153 : decode (jm_b 12004) 153 = .ok (.aload_n 0, 1) := by decide +kernel
theorem d12004_154 : decode (jm_b 12004) 154 = .ok (.getfield 85, 3) := by decide +kernel
theorem d12004_157 : decode (jm_b 12004) 157 = .ok (.aload_n 0, 1) := by decide +kernel
theorem d12004_158 : decode (jm_b 12004) 158 = .ok (.getfield 40, 3) := by decide +kernel
theorem d12004_161 : decode (jm_b 12004) 161 = .ok (.invokestatic 357, 3) := by decide +kernel
theorem d12004_164 : decode (jm_b 12004) 164 = .ok (.aload_n 0, 1) := by decide +kernel
theorem d12004_165 : decode (jm_b 12004) 165 = .ok (.getfield 55, 3) := by decide +kernel
theorem d12004_168 : decode (jm_b 12004) 168 = .ok (.iconst 0, 1) := by decide +kernel
theorem d12004_169 : decode (jm_b 12004) 169 = .ok (.aload_n 0, 1) := by decide +kernel
theorem d12004_170 : decode (jm_b 12004) 170 = .ok (.getfield 9, 3) := by decide +kernel
theorem d12004_173 : decode (jm_b 12004) 173 = .ok (.iconst 4, 1) := by decide +kernel
theorem d12004_174 : decode (jm_b 12004) 174 = .ok (.iaload, 1) := by decide +kernel
theorem d12004_175 : decode (jm_b 12004) 175 = .ok (.iastore, 1) := by decide +kernel
theorem d12004_176 : decode (jm_b 12004) 176 = .ok (.iconst 0, 1) := by decide +kernel
theorem d12004_177 : decode (jm_b 12004) 177 = .ok (.istore_n 1, 1) := by decide +kernel
theorem d12004_178 : decode (jm_b 12004) 178 = .ok (.iload_n 1, 1) := by decide +kernel
theorem d12004_179 : decode (jm_b 12004) 179 = .ok (.bipush 8, 2) := by decide +kernel
theorem d12004_181 : decode (jm_b 12004) 181 = .ok (.if_icmp .ge 16, 3) := by decide +kernel
theorem d12004_184 : decode (jm_b 12004) 184 = .ok (.aload_n 0, 1) := by decide +kernel
theorem d12004_185 : decode (jm_b 12004) 185 = .ok (.getfield 34, 3) := by decide +kernel
theorem d12004_188 : decode (jm_b 12004) 188 = .ok (.iload_n 1, 1) := by decide +kernel
theorem d12004_189 : decode (jm_b 12004) 189 = .ok (.iconst 0, 1) := by decide +kernel
theorem d12004_190 : decode (jm_b 12004) 190 = .ok (.iastore, 1) := by decide +kernel
theorem d12004_191 : decode (jm_b 12004) 191 = .ok (.iinc 1 1, 3) := by decide +kernel
theorem d12004_194 : decode (jm_b 12004) 194 = .ok (.goto (-16), 3) := by decide +kernel
theorem d12004_197 : decode (jm_b 12004) 197 = .ok (.aload_n 0, 1) := by decide +kernel
theorem d12004_198 : decode (jm_b 12004) 198 = .ok (.iconst 0, 1) := by decide +kernel
theorem d12004_199 : decode (jm_b 12004) 199 = .ok (.putfield 361, 3) := by decide +kernel
theorem d12004_202 : decode (jm_b 12004) 202 = .ok (.aload_n 0, 1) := by decide +kernel
theorem d12004_203 : decode (jm_b 12004) 203 = .ok (.getfield 9, 3) := by decide +kernel
theorem d12004_206 : decode (jm_b 12004) 206 = .ok (.iconst 2, 1) := by decide +kernel
theorem d12004_207 : decode (jm_b 12004) 207 = .ok (.iaload, 1) := by decide +kernel
theorem d12004_208 : decode (jm_b 12004) 208 = .ok (.ireturn, 1) := by decide +kernel
theorem d12005_0 : decode (jm_b 12005) 0 = .ok (.aload_n 0, 1) := by decide +kernel
theorem d12005_1 : decode (jm_b 12005) 1 = .ok (.invokevirtual 345, 3) := by decide +kernel
theorem d12005_4 : decode (jm_b 12005) 4 = .ok (.iconst 0, 1) := by decide +kernel
theorem d12005_5 : decode (jm_b 12005) 5 = .ok (.istore_n 1, 1) := by decide +kernel
theorem d12005_6 : decode (jm_b 12005) 6 = .ok (.iload_n 1, 1) := by decide +kernel
theorem d12005_7 : decode (jm_b 12005) 7 = .ok (.iconst 5, 1) := by decide +kernel
theorem d12005_8 : decode (jm_b 12005) 8 = .ok (.if_icmp .ge 16, 3) := by decide +kernel
theorem d12005_11 : decode (jm_b 12005) 11 = .ok (.aload_n 0, 1) := by decide +kernel
theorem d12005_12 : decode (jm_b 12005) 12 = .ok (.getfield 58, 3) := by decide +kernel
theorem d12005_15 : decode (jm_b 12005) 15 = .ok (.iload_n 1, 1) := by decide +kernel
theorem d12005_16 : decode (jm_b 12005) 16 = .ok (.iconst 0, 1) := by decide +kernel
theorem d12005_17 : decode (jm_b 12005) 17 = .ok (.iastore, 1) := by decide +kernel
theorem d12005_18 : decode (jm_b 12005) 18 = .ok (.iinc 1 1, 3) := by decide +kernel
theorem d12005_21 : decode (jm_b 12005) 21 = .ok (.goto (-15), 3) := by decide +kernel
theorem d12005_24 : decode (jm_b 12005) 24 = .ok (.iconst 0, 1) := by decide +kernel
theorem d12005_25 : decode (jm_b 12005) 25 = .ok (.istore_n 1, 1) := by decide +kernel
theorem d12005_26 : decode (jm_b 12005) 26 = .ok (.iload_n 1, 1) := by decide +kernel
theorem d12005_27 : decode (jm_b 12005) 27 = .ok (.bipush 10, 2) := by decide +kernel
theorem d12005_29 : decode (jm_b 12005) 29 = .ok (.if_icmp .ge 31, 3) := by decide +kernel
theorem d12005_32 : decode (jm_b 12005) 32 = .ok (.aload_n 0, 1) := by decide +kernel
theorem d12005_33 : decode (jm_b 12005) 33 = .ok (.getfield 61, 3) := by decide +kernel
theorem d12005_36 : decode (jm_b 12005) 36 = .ok (.iload_n 1, 1) := by decide +kernel
theorem d12005_37 : decode (jm_b 12005) 37 = .ok (.iconst 0, 1) := by decide +kernel
theorem d12005_38 : decode (jm_b 12005) 38 = .ok (.iastore, 1) := by decide +kernel
theorem d12005_39 : decode (jm_b 12005) 39 = .ok (.aload_n 0, 1) := by decide +kernel
theorem d12005_40 : decode (jm_b 12005) 40 = .ok (.getfield 64, 3) := by decide +kernel
theorem d12005_43 : decode (jm_b 12005) 43 = .ok (.iload_n 1, 1) := by decide +kernel
theorem d12005_44 : decode (jm_b 12005) 44 = .ok (.bipush 10, 2) := by decide +kernel
theorem d12005_46 : decode (jm_b 12005) 46 = .ok (.iastore, 1) := by decide +kernel
theorem d12005_47 : decode (jm_b 12005) 47 = .ok (.aload_n 0, 1) := by decide +kernel
theorem d12005_48 : decode (jm_b 12005) 48 = .ok (.getfield 67, 3) := by decide +kernel
theorem d12005_51 : decode (jm_b 12005) 51 = .ok (.iload_n 1, 1) := by decide +kernel
theorem d12005_52 : decode (jm_b 12005) 52 = .ok (.iconst 0, 1) := by decide +kernel
theorem d12005_53 : decode (jm_b 12005) 53 = .ok (.iastore, 1) := by decide +kernel
theorem d12005_54 : decode (jm_b 12005) 54 = .ok (.iinc 1 1, 3) := by decide +kernel
theorem d12005_57 : decode (jm_b 12005) 57 = .ok (.goto (-31), 3) := by decide +kernel
theorem d12005_60 : decode (jm_b 12005) 60 = .ok (.iconst 0, 1) := by decide +kernel
theorem d12005_61 : decode (jm_b 12005) 61 = .ok (.istore_n 1, 1) := by decide +kernel
theorem d12005_62 : decode (jm_b 12005) 62 = .ok (.iload_n 1, 1) := by decide +kernel
theorem d12005_63 : decode (jm_b 12005) 63 = .ok (.bipush 100, 2) := by decide +kernel
theorem d12005_65 : decode (jm_b 12005) 65 = .ok (.if_icmp .ge 16, 3) := by decide +kernel
theorem d12005_68 : decode (jm_b 12005) 68 = .ok (.aload_n 0, 1) := by decide +kernel
theorem d12005_69 : decode (jm_b 12005) 69 = .ok (.getfield 70, 3) := by decide +kernel
theorem d12005_72 : decode (jm_b 12005) 72 = .ok (.iload_n 1, 1) := by decide +kernel
theorem d12005_73 : decode (jm_b 12005) 73 = .ok (.iconst 0, 1) := by decide +kernel
theorem d12005_74 : decode (jm_b 12005) 74 = .ok (.iastore, 1) := by decide +kernel
theorem d12005_75 : decode (jm_b 12005) 75 = .ok (.iinc 1 1, 3) := by decide +kernel
theorem d12005_78 : decode (jm_b 12005) 78 = .ok (.goto (-16), 3) := by decide +kernel
theorem d12005_81 : decode (jm_b 12005) 81 = .ok (.iconst 0, 1) := by decide +kernel
theorem d12005_82 : decode (jm_b 12005) 82 = .ok (.istore_n 1, 1) := by decide +kernel
theorem d12005_83 : decode (jm_b 12005) 83 = .ok (.iconst 1, 1) := by decide +kernel
theorem d12005_84 : decode (jm_b 12005) 84 = .ok (.istore_n 2, 1) := by decide +kernel
theorem d12005_85 : decode (jm_b 12005) 85 = .ok (.iload_n 2, 1) := by decide +kernel
theorem d12005_86 : decode (jm_b 12005) 86 = .ok (.ifCond .eq 19, 3) := by decide +kernel
theorem d12005_89 : decode (jm_b 12005) 89 = .ok (.aload_n 0, 1) := by decide +kernel
theorem d12005_90 : decode (jm_b 12005) 90 = .ok (.iload_n 1, 1) := by decide +kernel
theorem d12005_91 : decode (jm_b 12005) 91 = .ok (.invokevirtual 348, 3) := by decide +kernel
theorem d12005_94 : decode (jm_b 12005) 94 = .ok (.iinc 1 1, 3) := by decide +kernel
theorem d12005_97 : decode (jm_b 12005) 97 = .ok (.aload_n 0, 1) := by decide +kernel
theorem d12005_98 : decode (jm_b 12005) 98 = .ok (.invokevirtual 351, 3) := by decide +kernel
theorem d12005_101 : decode (jm_b 12005) 101 = .ok (.istore_n 2, 1) := by decide +kernel
theorem d12005_102 : decode (jm_b 12005) 102 = .ok (.goto (-17), 3) := by decide +kernel
theorem d12005_105 : decode (jm_b 12005) 105 = .ok (.aload_n 0, 1) := by decide +kernel
theorem d12005_106 : decode (jm_b 12005) 106 = .ok (.iconst 0, 1) := by decide +kernel
theorem d12005_107 : decode (jm_b 12005) 107 = .ok (.putfield 185, 3) := by decide +kernel
theorem d12005_110 : decode (jm_b 12005) 110 = .ok (.return_, 1) := by decide +kernel
theorem d12006_0 : decode (jm_b 12006) 0 = .ok (.aload_n 0, 1) := by decide +kernel
theorem d12006_1 : decode (jm_b 12006) 1 = .ok (.iconst 0, 1) := by decide +kernel
theorem d12006_2 : decode (jm_b 12006) 2 = .ok (.putfield 217, 3) := by decide +kernel
theorem d12006_5 : decode (jm_b 12006) 5 = .ok (.aload_n 0, 1) := by decide +kernel
theorem d12006_6 : decode (jm_b 12006) 6 = .ok (.iconst 0, 1) := by decide +kernel
theorem d12006_7 : decode (jm_b 12006) 7 = .ok (.putfield 214, 3) := by decide +kernel
theorem d12006_10 : decode (jm_b 12006) 10 = .ok (.aload_n 0, 1) := by decide +kernel
theorem d12006_11 : decode (jm_b 12006) 11 = .ok (.iconst 0, 1) := by decide +kernel
theorem d12006_12 : decode (jm_b 12006) 12 = .ok (.putfield 247, 3) := by decide +kernel
theorem d12006_15 : decode (jm_b 12006) 15 = .ok (.aload_n 0, 1) := by decide +kernel
theorem d12006_16 : decode (jm_b 12006) 16 = .ok (.iconst 0, 1) := by decide +kernel
theorem d12006_17 : decode (jm_b 12006) 17 = .ok (.putfield 288, 3) := by decide +kernel
theorem d12006_20 : decode (jm_b 12006) 20 = .ok (.aload_n 0, 1) := by decide +kernel
theorem d12006_21 : decode (jm_b 12006) 21 = .ok (.iconst 0, 1) := by decide +kernel
theorem d12006_22 : decode (jm_b 12006) 22 = .ok (.putfield 250, 3) := by decide +kernel
theorem d12006_25 : decode (jm_b 12006) 25 = .ok (.return_, 1) := by decide +kernel
theorem d12007_0 : decode (jm_b 12007) 0 = .ok (.aload_n 0, 1) := by decide +kernel
theorem d12007_1 : decode (jm_b 12007) 1 = .ok (.invokevirtual 237, 3) := by decide +kernel
theorem d12007_4 : decode (jm_b 12007) 4 = .ok (.aload_n 0, 1) := by decide +kernel
theorem d12007_5 : decode (jm_b 12007) 5 = .ok (.getfield 217, 3) := by decide +kernel
theorem d12007_8 : decode (jm_b 12007) 8 = .ok (.istore_n 2, 1) := by decide +kernel
theorem d12007_9 : decode (jm_b 12007) 9 = .ok (.iconst 0, 1) := by decide +kernel
theorem d12007_10 : decode (jm_b 12007) 10 = .ok (.istore_n 3, 1) := by decide +kernel
theorem d12007_11 : decode (jm_b 12007) 11 = .ok (.iload_n 3, 1) := by decide +kernel
theorem d12007_12 : decode (jm_b 12007) 12 = .ok (.bipush 6, 2) := by decide +kernel
theorem d12007_14 : decode (jm_b 12007) 14 = .ok (.if_icmp .ge 20, 3) := by decide +kernel
theorem d12007_17 : decode (jm_b 12007) 17 = .ok (.aload_n 0, 1) := by decide +kernel
theorem d12007_18 : decode (jm_b 12007) 18 = .ok (.iload_n 3, 1) := by decide +kernel
theorem d12007_19 : decode (jm_b 12007) 19 = .ok (.invokestatic 336, 3) := by decide +kernel
theorem d12007_22 : decode (jm_b 12007) 22 = .ok (.invokevirtual 240, 3) := by decide +kernel
theorem d12007_25 : decode (jm_b 12007) 25 = .ok (.ifCond .ne 9, 3) := by decide +kernel
theorem d12007_28 : decode (jm_b 12007) 28 = .ok (.iinc 3 1, 3) := by decide +kernel
theorem d12007_31 : decode (jm_b 12007) 31 = .ok (.goto (-20), 3) := by decide +kernel
theorem d12007_34 : decode (jm_b 12007) 34 = .ok (.iload_n 3, 1) := by decide +kernel
theorem d12007_35 : decode (jm_b 12007) 35 = .ok (.bipush 6, 2) := by decide +kernel
theorem d12007_37 : decode (jm_b 12007) 37 = .ok (.if_icmp .ne 10, 3) := by decide +kernel
theorem d12007_40 : decode (jm_b 12007) 40 = .ok (.aload_n 0, 1) := by decide +kernel
theorem d12007_41 : decode (jm_b 12007) 41 = .ok (.iconst 0, 1) := by decide +kernel
theorem d12007_42 : decode (jm_b 12007) 42 = .ok (.iload_n 2, 1) := by decide +kernel
theorem d12007_43 : decode (jm_b 12007) 43 = .ok (.invokevirtual 253, 3) := by decide +kernel
theorem d12007_46 : decode (jm_b 12007) 46 = .ok (.return_, 1) := by decide +kernel
theorem d12007_47 : decode (jm_b 12007) 47 = .ok (.aload_n 0, 1) := by decide +kernel
theorem d12007_48 : decode (jm_b 12007) 48 = .ok (.iload_n 3, 1) := by decide +kernel
theorem d12007_49 : decode (jm_b 12007) 49 = .ok (.iload_n 1, 1) := by decide +kernel
theorem d12007_50 : decode (jm_b 12007) 50 = .ok (.invokevirtual 339, 3) := by decide +kernel
theorem d12007_53 : decode (jm_b 12007) 53 = .ok (.ifCond .eq 10, 3) := by decide +kernel
theorem d12007_56 : decode (jm_b 12007) 56 = .ok (.aload_n 0, 1) := by decide +kernel
theorem d12007_57 : decode (jm_b 12007) 57 = .ok (.iconst 4, 1) := by decide +kernel
theorem d12007_58 : decode (jm_b 12007) 58 = .ok (.iload_n 2, 1) := by decide +kernel
theorem d12007_59 : decode (jm_b 12007) 59 = .ok (.invokevirtual 253, 3) := by decide +kernel
theorem d12007_62 : decode (jm_b 12007) 62 = .ok (.return_, 1) := by decide +kernel
theorem d12007_63 : decode (jm_b 12007) 63 = .ok (.aload_n 0, 1) := by decide +kernel
theorem d12007_64 : decode (jm_b 12007) 64 = .ok (.dup, 1) := by decide +kernel
theorem d12007_65 : decode (jm_b 12007) 65 = .ok (.getfield 217, 3) := by decide +kernel
theorem d12007_68 : decode (jm_b 12007) 68 = .ok (.iload_n 3, 1) := by decide +kernel
theorem d12007_69 : decode (jm_b 12007) 69 = .ok (.invokestatic 336, 3) := by decide +kernel
theorem d12007_72 : decode (jm_b 12007) 72 = .ok (.invokevirtual 228, 3) := by decide +kernel
theorem d12007_75 : decode (jm_b 12007) 75 = .ok (.iadd, 1) := by decide +kernel
theorem d12007_76 : decode (jm_b 12007) 76 = .ok (.putfield 217, 3) := by decide +kernel
theorem d12007_79 : decode (jm_b 12007) 79 = .ok (.aload_n 0, 1) := by decide +kernel
theorem d12007_80 : decode (jm_b 12007) 80 = .ok (.iload_n 3, 1) := by decide +kernel
theorem d12007_81 : decode (jm_b 12007) 81 = .ok (.invokevirtual 342, 3) := by decide +kernel
theorem d12007_84 : decode (jm_b 12007) 84 = .ok (.return_, 1) := by decide +kernel
theorem d12008_0 : decode (jm_b 12008) 0 = .ok (.aload_n 0, 1) := by decide +kernel
theorem d12008_1 : decode (jm_b 12008) 1 = .ok (.invokevirtual 220, 3) := by decide +kernel
theorem d12008_4 : decode (jm_b 12008) 4 = .ok (.bipush 32, 2) := by decide +kernel
theorem d12008_6 : decode (jm_b 12008) 6 = .ok (.if_icmp .ne 16, 3) := by decide +kernel
theorem d12008_9 : decode (jm_b 12008) 9 = .ok (.aload_n 0, 1) := by decide +kernel
theorem d12008_10 : decode (jm_b 12008) 10 = .ok (.dup, 1) := by decide +kernel
theorem d12008_11 : decode (jm_b 12008) 11 = .ok (.getfield 217, 3) := by decide +kernel
theorem d12008_14 : decode (jm_b 12008) 14 = .ok (.iconst 1, 1) := by decide +kernel
theorem d12008_15 : decode (jm_b 12008) 15 = .ok (.iadd, 1) := by decide +kernel
theorem d12008_16 : decode (jm_b 12008) 16 = .ok (.putfield 217, 3) := by decide +kernel
theorem d12008_19 : decode (jm_b 12008) 19 = .ok (.goto (-19), 3) := by decide +kernel
theorem d12008_22 : decode (jm_b 12008) 22 = .ok (.return_, 1) := by decide +kernel
theorem d12009_0 : decode (jm_b 12009) 0 = .ok (.aload_n 0, 1) := by decide +kernel
theorem d12009_1 : decode (jm_b 12009) 1 = .ok (.getfield 217, 3) := by decide +kernel
theorem d12009_4 : decode (jm_b 12009) 4 = .ok (.aload_n 0, 1) := by decide +kernel
theorem d12009_5 : decode (jm_b 12009) 5 = .ok (.getfield 185, 3) := by decide +kernel
theorem d12009_8 : decode (jm_b 12009) 8 = .ok (.if_icmp .ge 19, 3) := by decide +kernel
theorem d12009_11 : decode (jm_b 12009) 11 = .ok (.aload_n 0, 1) := by decide +kernel
theorem d12009_12 : decode (jm_b 12009) 12 = .ok (.getfield 92, 3) := by decide +kernel
theorem d12009_15 : decode (jm_b 12009) 15 = .ok (.aload_n 0, 1) := by decide +kernel
theorem d12009_16 : decode (jm_b 12009) 16 = .ok (.getfield 217, 3) := by decide +kernel
theorem d12009_19 : decode (jm_b 12009) 19 = .ok (.baload, 1) := by decide +kernel
theorem d12009_20 : decode (jm_b 12009) 20 = .ok (.sipush 255, 3) := by decide +kernel
theorem d12009_23 : decode (jm_b 12009) 23 = .ok (.iand, 1) := by decide +kernel
theorem d12009_24 : decode (jm_b 12009) 24 = .ok (.goto 4, 3) := by decide +kernel
theorem d12009_27 : decode (jm_b 12009) 27 = .ok (.iconst (-1), 1) := by decide +kernel
theorem d12009_28 : decode (jm_b 12009) 28 = .ok (.ireturn, 1) := by decide +kernel
theorem d12010_0 : decode (jm_b 12010) 0 = .ok (.iload_n 0, 1) := by decide +kernel
theorem d12010_1 : decode (jm_b 12010) 1 = .ok (.tableswitch 53 0 4 #[35, 39, 42, 45, 49], 35) := by decide +kernel
theorem d12010_36 : decode (jm_b 12010) 36 = .ok (.ldc_w 312, 3) := by decide +kernel
theorem d12010_39 : decode (jm_b 12010) 39 = .ok (.areturn, 1) := by decide +kernel
theorem d12010_40 : decode (jm_b 12010) 40 = .ok (.ldc 192, 2) := by decide +kernel
theorem d12010_42 : decode (jm_b 12010) 42 = .ok (.areturn, 1) := by decide +kernel
theorem d12010_43 : decode (jm_b 12010) 43 = .ok (.ldc 200, 2) := by decide +kernel
theorem d12010_45 : decode (jm_b 12010) 45 = .ok (.areturn, 1) := by decide +kernel
theorem d12010_46 : decode (jm_b 12010) 46 = .ok (.ldc_w 314, 3) := by decide +kernel
theorem d12010_49 : decode (jm_b 12010) 49 = .ok (.areturn, 1) := by decide +kernel
theorem d12010_50 : decode (jm_b 12010) 50 = .ok (.ldc_w 316, 3) := by decide +kernel
theorem d12010_53 : decode (jm_b 12010) 53 = .ok (.areturn, 1) := by decide +kernel
theorem d12010_54 : decode (jm_b 12010) 54 = .ok (.ldc_w 318, 3) := by decide +kernel
theorem d12010_57 : decode (jm_b 12010) 57 = .ok (.areturn, 1) := by decide +kernel
theorem d12011_0 : decode (jm_b 12011) 0 = .ok (.aload_n 0, 1) := by decide +kernel
theorem d12011_1 : decode (jm_b 12011) 1 = .ok (.getfield 217, 3) := by decide +kernel
theorem d12011_4 : decode (jm_b 12011) 4 = .ok (.istore_n 2, 1) := by decide +kernel
theorem d12011_5 : decode (jm_b 12011) 5 = .ok (.iload_n 2, 1) := by decide +kernel
theorem d12011_6 : decode (jm_b 12011) 6 = .ok (.aload_n 0, 1) := by decide +kernel
theorem d12011_7 : decode (jm_b 12011) 7 = .ok (.getfield 185, 3) := by decide +kernel
theorem d12011_10 : decode (jm_b 12011) 10 = .ok (.if_icmp .ge 31, 3) := by decide +kernel
theorem d12011_13 : decode (jm_b 12011) 13 = .ok (.aload_n 0, 1) := by decide +kernel
theorem d12011_14 : decode (jm_b 12011) 14 = .ok (.getfield 92, 3) := by decide +kernel
theorem d12011_17 : decode (jm_b 12011) 17 = .ok (.iload_n 2, 1) := by decide +kernel
theorem d12011_18 : decode (jm_b 12011) 18 = .ok (.baload, 1) := by decide +kernel
theorem d12011_19 : decode (jm_b 12011) 19 = .ok (.bipush 97, 2) := by decide +kernel
theorem d12011_21 : decode (jm_b 12011) 21 = .ok (.if_icmp .lt 20, 3) := by decide +kernel
theorem d12011_24 : decode (jm_b 12011) 24 = .ok (.aload_n 0, 1) := by decide +kernel
theorem d12011_25 : decode (jm_b 12011) 25 = .ok (.getfield 92, 3) := by decide +kernel
theorem d12011_28 : decode (jm_b 12011) 28 = .ok (.iload_n 2, 1) := by decide +kernel
theorem d12011_29 : decode (jm_b 12011) 29 = .ok (.baload, 1) := by decide +kernel
theorem d12011_30 : decode (jm_b 12011) 30 = .ok (.bipush 122, 2) := by decide +kernel
theorem d12011_32 : decode (jm_b 12011) 32 = .ok (.if_icmp .gt 9, 3) := by decide +kernel
theorem d12011_35 : decode (jm_b 12011) 35 = .ok (.iinc 2 1, 3) := by decide +kernel
theorem d12011_38 : decode (jm_b 12011) 38 = .ok (.goto (-33), 3) := by decide +kernel
theorem d12011_41 : decode (jm_b 12011) 41 = .ok (.iload_n 2, 1) := by decide +kernel
theorem d12011_42 : decode (jm_b 12011) 42 = .ok (.aload_n 0, 1) := by decide +kernel
theorem d12011_43 : decode (jm_b 12011) 43 = .ok (.getfield 217, 3) := by decide +kernel
theorem d12011_46 : decode (jm_b 12011) 46 = .ok (.isub, 1) := by decide +kernel
theorem d12011_47 : decode (jm_b 12011) 47 = .ok (.aload_n 1, 1) := by decide +kernel
theorem d12011_48 : decode (jm_b 12011) 48 = .ok (.invokevirtual 228, 3) := by decide +kernel
theorem d12011_51 : decode (jm_b 12011) 51 = .ok (.if_icmp .ne 7, 3) := by decide +kernel
theorem d12011_54 : decode (jm_b 12011) 54 = .ok (.iconst 1, 1) := by decide +kernel
theorem d12011_55 : decode (jm_b 12011) 55 = .ok (.goto 4, 3) := by decide +kernel
theorem d12011_58 : decode (jm_b 12011) 58 = .ok (.iconst 0, 1) := by decide +kernel
theorem d12011_59 : decode (jm_b 12011) 59 = .ok (.istore_n 3, 1) := by decide +kernel
theorem d12011_60 : decode (jm_b 12011) 60 = .ok (.iconst 0, 1) := by decide +kernel
theorem d12011_61 : decode (jm_b 12011) 61 = .ok (.istore 4, 2) := by decide +kernel
theorem d12011_63 : decode (jm_b 12011) 63 = .ok (.iload 4, 2) := by decide +kernel
theorem d12011_65 : decode (jm_b 12011) 65 = .ok (.aload_n 1, 1) := by decide +kernel
theorem d12011_66 : decode (jm_b 12011) 66 = .ok (.invokevirtual 228, 3) := by decide +kernel
theorem d12011_69 : decode (jm_b 12011) 69 = .ok (.if_icmp .ge 40, 3) := by decide +kernel
theorem d12011_72 : decode (jm_b 12011) 72 = .ok (.iload_n 3, 1) := by decide +kernel
theorem d12011_73 : decode (jm_b 12011) 73 = .ok (.ifCond .eq 36, 3) := by decide +kernel
theorem d12011_76 : decode (jm_b 12011) 76 = .ok (.aload_n 0, 1) := by decide +kernel
theorem d12011_77 : decode (jm_b 12011) 77 = .ok (.getfield 92, 3) := by decide +kernel
theorem d12011_80 : decode (jm_b 12011) 80 = .ok (.aload_n 0, 1) := by decide +kernel
theorem d12011_81 : decode (jm_b 12011) 81 = .ok (.getfield 217, 3) := by decide +kernel
theorem d12011_84 : decode (jm_b 12011) 84 = .ok (.iload 4, 2) := by decide +kernel
theorem d12011_86 : decode (jm_b 12011) 86 = .ok (.iadd, 1) := by decide +kernel
theorem d12011_87 : decode (jm_b 12011) 87 = .ok (.baload, 1) := by decide +kernel
theorem d12011_88 : decode (jm_b 12011) 88 = .ok (.aload_n 1, 1) := by decide +kernel
theorem d12011_89 : decode (jm_b 12011) 89 = .ok (.iload 4, 2) := by decide +kernel
theorem d12011_91 : decode (jm_b 12011) 91 = .ok (.invokevirtual 233, 3) := by decide +kernel
theorem d12011_94 : decode (jm_b 12011) 94 = .ok (.if_icmp .ne 7, 3) := by decide +kernel
theorem d12011_97 : decode (jm_b 12011) 97 = .ok (.iconst 1, 1) := by decide +kernel
theorem d12011_98 : decode (jm_b 12011) 98 = .ok (.goto 4, 3) := by decide +kernel
theorem d12011_101 : decode (jm_b 12011) 101 = .ok (.iconst 0, 1) := by decide +kernel
theorem d12011_102 : decode (jm_b 12011) 102 = .ok (.istore_n 3, 1) := by decide +kernel
theorem d12011_103 : decode (jm_b 12011) 103 = .ok (.iinc 4 1, 3) := by decide +kernel
theorem d12011_106 : decode (jm_b 12011) 106 = .ok (.goto (-43), 3) := by decide +kernel
theorem d12011_109 : decode (jm_b 12011) 109 = .ok (.iload_n 3, 1) := by decide +kernel
theorem d12011_110 : decode (jm_b 12011) 110 = .ok (.ireturn, 1) := by decide +kernel
theorem d12012_0 : decode (jm_b 12012) 0 = .ok (.aload_n 0, 1) := by decide +kernel
theorem d12012_1 : decode (jm_b 12012) 1 = .ok (.aload_n 0, 1) := by decide +kernel
theorem d12012_2 : decode (jm_b 12012) 2 = .ok (.getfield 214, 3) := by decide +kernel
theorem d12012_5 : decode (jm_b 12012) 5 = .ok (.ifCond .ne 14, 3) := by decide +kernel
theorem d12012_8 : decode (jm_b 12012) 8 = .ok (.iconst 1, 1) := by decide +kernel
theorem d12012_9 : decode (jm_b 12012) 9 = .ok (.bipush 8, 2) := by decide +kernel
theorem d12012_11 : decode (jm_b 12012) 11 = .ok (.iload_n 2, 1) := by decide +kernel
theorem d12012_12 : decode (jm_b 12012) 12 = .ok (.imul, 1) := by decide +kernel
theorem d12012_13 : decode (jm_b 12012) 13 = .ok (.iadd, 1) := by decide +kernel
theorem d12012_14 : decode (jm_b 12012) 14 = .ok (.iload_n 1, 1) := by decide +kernel
theorem d12012_15 : decode (jm_b 12012) 15 = .ok (.iadd, 1) := by decide +kernel
theorem d12012_16 : decode (jm_b 12012) 16 = .ok (.goto 7, 3) := by decide +kernel
theorem d12012_19 : decode (jm_b 12012) 19 = .ok (.aload_n 0, 1) := by decide +kernel
theorem d12012_20 : decode (jm_b 12012) 20 = .ok (.getfield 214, 3) := by decide +kernel
theorem d12012_23 : decode (jm_b 12012) 23 = .ok (.putfield 214, 3) := by decide +kernel
theorem d12012_26 : decode (jm_b 12012) 26 = .ok (.return_, 1) := by decide +kernel
theorem d12013_0 : decode (jm_b 12013) 0 = .ok (.iload_n 2, 1) := by decide +kernel
theorem d12013_1 : decode (jm_b 12013) 1 = .ok (.bipush 40, 2) := by decide +kernel
theorem d12013_3 : decode (jm_b 12013) 3 = .ok (.if_icmp .eq 24, 3) := by decide +kernel
theorem d12013_6 : decode (jm_b 12013) 6 = .ok (.iload_n 1, 1) := by decide +kernel
theorem d12013_7 : decode (jm_b 12013) 7 = .ok (.ifCond .ne 7, 3) := by decide +kernel
theorem d12013_10 : decode (jm_b 12013) 10 = .ok (.iconst 1, 1) := by decide +kernel
theorem d12013_11 : decode (jm_b 12013) 11 = .ok (.goto 4, 3) := by decide +kernel
theorem d12013_14 : decode (jm_b 12013) 14 = .ok (.iconst 0, 1) := by decide +kernel
theorem d12013_15 : decode (jm_b 12013) 15 = .ok (.iload_n 2, 1) := by decide +kernel
theorem d12013_16 : decode (jm_b 12013) 16 = .ok (.ifCond .ne 7, 3) := by decide +kernel
theorem d12013_19 : decode (jm_b 12013) 19 = .ok (.iconst 1, 1) := by decide +kernel
theorem d12013_20 : decode (jm_b 12013) 20 = .ok (.goto 4, 3) := by decide +kernel
theorem d12013_23 : decode (jm_b 12013) 23 = .ok (.iconst 0, 1) := by decide +kernel
theorem d12013_24 : decode (jm_b 12013) 24 = .ok (.if_icmp .eq 5, 3) := by decide +kernel
theorem d12013_27 : decode (jm_b 12013) 27 = .ok (.iconst 1, 1) := by decide +kernel
theorem d12013_28 : decode (jm_b 12013) 28 = .ok (.ireturn, 1) := by decide +kernel
theorem d12013_29 : decode (jm_b 12013) 29 = .ok (.iload_n 1, 1) := by decide +kernel
theorem d12013_30 : decode (jm_b 12013) 30 = .ok (.lookupswitch 60 #[(4, 26), (5, 43)], 26) := by decide +kernel
theorem d12013_56 : decode (jm_b 12013) 56 = .ok (.aload_n 0, 1) := by decide +kernel
theorem d12013_57 : decode (jm_b 12013) 57 = .ok (.getfield 58, 3) := by decide +kernel
theorem d12013_60 : decode (jm_b 12013) 60 = .ok (.iconst 2, 1) := by decide +kernel
theorem d12013_61 : decode (jm_b 12013) 61 = .ok (.iaload, 1) := by decide +kernel
theorem d12013_62 : decode (jm_b 12013) 62 = .ok (.bipush 8, 2) := by decide +kernel
theorem d12013_64 : decode (jm_b 12013) 64 = .ok (.if_icmp .ne 7, 3) := by decide +kernel
theorem d12013_67 : decode (jm_b 12013) 67 = .ok (.iconst 1, 1) := by decide +kernel
theorem d12013_68 : decode (jm_b 12013) 68 = .ok (.goto 4, 3) := by decide +kernel
theorem d12013_71 : decode (jm_b 12013) 71 = .ok (.iconst 0, 1) := by decide +kernel
theorem d12013_72 : decode (jm_b 12013) 72 = .ok (.ireturn, 1) := by decide +kernel
theorem d12013_73 : decode (jm_b 12013) 73 = .ok (.aload_n 0, 1) := by decide +kernel
theorem d12013_74 : decode (jm_b 12013) 74 = .ok (.getfield 58, 3) := by decide +kernel
theorem d12013_77 : decode (jm_b 12013) 77 = .ok (.iconst 3, 1) := by decide +kernel
theorem d12013_78 : decode (jm_b 12013) 78 = .ok (.iaload, 1) := by decide +kernel
theorem d12013_79 : decode (jm_b 12013) 79 = .ok (.bipush 8, 2) := by decide +kernel
theorem d12013_81 : decode (jm_b 12013) 81 = .ok (.if_icmp .ne 7, 3) := by decide +kernel
theorem d12013_84 : decode (jm_b 12013) 84 = .ok (.iconst 1, 1) := by decide +kernel
theorem d12013_85 : decode (jm_b 12013) 85 = .ok (.goto 4, 3) := by decide +kernel
theorem d12013_88 : decode (jm_b 12013) 88 = .ok (.iconst 0, 1) := by decide +kernel
theorem d12013_89 : decode (jm_b 12013) 89 = .ok (.ireturn, 1) := by decide +kernel
theorem d12013_90 : decode (jm_b 12013) 90 = .ok (.iconst 0, 1) := by decide +kernel
theorem d12013_91 : decode (jm_b 12013) 91 = .ok (.ireturn, 1) := by decide +kernel
theorem d12014_0 : decode (jm_b 12014) 0 = .ok (.iload_n 1, 1) := by decide +kernel
theorem d12014_1 : decode (jm_b 12014) 1 = .ok (.tableswitch 115 0 4 #[35, 63, 70, 77, 108], 35) := by decide +kernel
theorem d12014_36 : decode (jm_b 12014) 36 = .ok (.aload_n 0, 1) := by decide +kernel
theorem d12014_37 : decode (jm_b 12014) 37 = .ok (.getfield 58, 3) := by decide +kernel
theorem d12014_40 : decode (jm_b 12014) 40 = .ok (.iconst 0, 1) := by decide +kernel
theorem d12014_41 : decode (jm_b 12014) 41 = .ok (.aload_n 0, 1) := by decide +kernel
theorem d12014_42 : decode (jm_b 12014) 42 = .ok (.iconst 2, 1) := by decide +kernel
theorem d12014_43 : decode (jm_b 12014) 43 = .ok (.bipush 10, 2) := by decide +kernel
theorem d12014_45 : decode (jm_b 12014) 45 = .ok (.invokevirtual 320, 3) := by decide +kernel
theorem d12014_48 : decode (jm_b 12014) 48 = .ok (.iastore, 1) := by decide +kernel
theorem d12014_49 : decode (jm_b 12014) 49 = .ok (.aload_n 0, 1) := by decide +kernel
theorem d12014_50 : decode (jm_b 12014) 50 = .ok (.getfield 58, 3) := by decide +kernel
theorem d12014_53 : decode (jm_b 12014) 53 = .ok (.iconst 1, 1) := by decide +kernel
theorem d12014_54 : decode (jm_b 12014) 54 = .ok (.aload_n 0, 1) := by decide +kernel
theorem d12014_55 : decode (jm_b 12014) 55 = .ok (.iconst 0, 1) := by decide +kernel
theorem d12014_56 : decode (jm_b 12014) 56 = .ok (.iconst 3, 1) := by decide +kernel
theorem d12014_57 : decode (jm_b 12014) 57 = .ok (.invokevirtual 320, 3) := by decide +kernel
theorem d12014_60 : decode (jm_b 12014) 60 = .ok (.iastore, 1) := by decide +kernel
theorem d12014_61 : decode (jm_b 12014) 61 = .ok (.goto 103, 3) := by decide +kernel
theorem d12014_64 : decode (jm_b 12014) 64 = .ok (.aload_n 0, 1) := by decide +kernel
theorem d12014_65 : decode (jm_b 12014) 65 = .ok (.invokevirtual 327, 3) := by decide +kernel
theorem d12014_68 : decode (jm_b 12014) 68 = .ok (.goto 96, 3) := by decide +kernel
theorem d12014_71 : decode (jm_b 12014) 71 = .ok (.aload_n 0, 1) := by decide +kernel
theorem d12014_72 : decode (jm_b 12014) 72 = .ok (.invokevirtual 330, 3) := by decide +kernel
theorem d12014_75 : decode (jm_b 12014) 75 = .ok (.goto 89, 3) := by decide +kernel
theorem d12014_78 : decode (jm_b 12014) 78 = .ok (.aload_n 0, 1) := by decide +kernel
theorem d12014_79 : decode (jm_b 12014) 79 = .ok (.invokevirtual 324, 3) := by decide +kernel
theorem d12014_82 : decode (jm_b 12014) 82 = .ok (.istore_n 2, 1) := by decide +kernel
theorem d12014_83 : decode (jm_b 12014) 83 = .ok (.aload_n 0, 1) := by decide +kernel
theorem d12014_84 : decode (jm_b 12014) 84 = .ok (.getfield 58, 3) := by decide +kernel
theorem d12014_87 : decode (jm_b 12014) 87 = .ok (.iconst 4, 1) := by decide +kernel
theorem d12014_88 : decode (jm_b 12014) 88 = .ok (.dup2, 1) := by decide +kernel
theorem d12014_89 : decode (jm_b 12014) 89 = .ok (.iaload, 1) := by decide +kernel
theorem d12014_90 : decode (jm_b 12014) 90 = .ok (.aload_n 0, 1) := by decide +kernel
theorem d12014_91 : decode (jm_b 12014) 91 = .ok (.getfield 214, 3) := by decide +kernel
theorem d12014_94 : decode (jm_b 12014) 94 = .ok (.ifCond .ne 9, 3) := by decide +kernel
theorem d12014_97 : decode (jm_b 12014) 97 = .ok (.iconst 1, 1) := by decide +kernel
theorem d12014_98 : decode (jm_b 12014) 98 = .ok (.iload_n 2, 1) := by decide +kernel
theorem d12014_99 : decode (jm_b 12014) 99 = .ok (.ishl, 1) := by decide +kernel
theorem d12014_100 : decode (jm_b 12014) 100 = .ok (.goto 4, 3) := by decide +kernel
theorem d12014_103 : decode (jm_b 12014) 103 = .ok (.iconst 0, 1) := by decide +kernel
theorem d12014_104 : decode (jm_b 12014) 104 = .ok (.ior, 1) := by decide +kernel
theorem d12014_105 : decode (jm_b 12014) 105 = .ok (.iastore, 1) := by decide +kernel
theorem d12014_106 : decode (jm_b 12014) 106 = .ok (.goto 58, 3) := by decide +kernel
theorem d12014_109 : decode (jm_b 12014) 109 = .ok (.aload_n 0, 1) := by decide +kernel
theorem d12014_110 : decode (jm_b 12014) 110 = .ok (.invokevirtual 333, 3) := by decide +kernel
theorem d12014_113 : decode (jm_b 12014) 113 = .ok (.goto 51, 3) := by decide +kernel
theorem d12014_116 : decode (jm_b 12014) 116 = .ok (.aload_n 0, 1) := by decide +kernel
theorem d12014_117 : decode (jm_b 12014) 117 = .ok (.getfield 58, 3) := by decide +kernel
theorem d12014_120 : decode (jm_b 12014) 120 = .ok (.iconst 3, 1) := by decide +kernel
theorem d12014_121 : decode (jm_b 12014) 121 = .ok (.iaload, 1) := by decide +kernel
theorem d12014_122 : decode (jm_b 12014) 122 = .ok (.istore_n 2, 1) := by decide +kernel
theorem d12014_123 : decode (jm_b 12014) 123 = .ok (.aload_n 0, 1) := by decide +kernel
theorem d12014_124 : decode (jm_b 12014) 124 = .ok (.getfield 82, 3) := by decide +kernel
theorem d12014_127 : decode (jm_b 12014) 127 = .ok (.iload_n 2, 1) := by decide +kernel
theorem d12014_128 : decode (jm_b 12014) 128 = .ok (.aload_n 0, 1) := by decide +kernel
theorem d12014_129 : decode (jm_b 12014) 129 = .ok (.iconst 0, 1) := by decide +kernel
theorem d12014_130 : decode (jm_b 12014) 130 = .ok (.aload_n 0, 1) := by decide +kernel
theorem d12014_131 : decode (jm_b 12014) 131 = .ok (.getfield 58, 3) := by decide +kernel
theorem d12014_134 : decode (jm_b 12014) 134 = .ok (.iconst 2, 1) := by decide +kernel
theorem d12014_135 : decode (jm_b 12014) 135 = .ok (.iaload, 1) := by decide +kernel
theorem d12014_136 : decode (jm_b 12014) 136 = .ok (.iconst 1, 1) := by decide +kernel
theorem d12014_137 : decode (jm_b 12014) 137 = .ok (.isub, 1) := by decide +kernel
theorem d12014_138 : decode (jm_b 12014) 138 = .ok (.invokevirtual 320, 3) := by decide +kernel
theorem d12014_141 : decode (jm_b 12014) 141 = .ok (.iastore, 1) := by decide +kernel
theorem d12014_142 : decode (jm_b 12014) 142 = .ok (.aload_n 0, 1) := by decide +kernel
theorem d12014_143 : decode (jm_b 12014) 143 = .ok (.getfield 85, 3) := by decide +kernel
theorem d12014_146 : decode (jm_b 12014) 146 = .ok (.iload_n 2, 1) := by decide +kernel
theorem d12014_147 : decode (jm_b 12014) 147 = .ok (.aload_n 0, 1) := by decide +kernel
theorem d12014_148 : decode (jm_b 12014) 148 = .ok (.iconst 0, 1) := by decide +kernel
theorem d12014_149 : decode (jm_b 12014) 149 = .ok (.iconst 1, 1) := by decide +kernel
theorem d12014_150 : decode (jm_b 12014) 150 = .ok (.invokevirtual 320, 3) := by decide +kernel
theorem d12014_153 : decode (jm_b 12014) 153 = .ok (.iastore, 1) := by decide +kernel
theorem d12014_154 : decode (jm_b 12014) 154 = .ok (.aload_n 0, 1) := by decide +kernel
theorem d12014_155 : decode (jm_b 12014) 155 = .ok (.getfield 58, 3) := by decide +kernel
theorem d12014_158 : decode (jm_b 12014) 158 = .ok (.iconst 3, 1) := by decide +kernel
theorem d12014_159 : decode (jm_b 12014) 159 = .ok (.dup2, 1) := by decide +kernel
theorem d12014_160 : decode (jm_b 12014) 160 = .ok (.iaload, 1) := by decide +kernel
theorem d12014_161 : decode (jm_b 12014) 161 = .ok (.iconst 1, 1) := by decide +kernel
theorem d12014_162 : decode (jm_b 12014) 162 = .ok (.iadd, 1) := by decide +kernel
theorem d12014_163 : decode (jm_b 12014) 163 = .ok (.iastore, 1) := by decide +kernel
theorem d12014_164 : decode (jm_b 12014) 164 = .ok (.return_, 1) := by decide +kernel
theorem d12015_0 : decode (jm_b 12015) 0 = .ok (.aload_n 0, 1) := by decide +kernel
theorem d12015_1 : decode (jm_b 12015) 1 = .ok (.invokevirtual 237, 3) := by decide +kernel
theorem d12015_4 : decode (jm_b 12015) 4 = .ok (.aload_n 0, 1) := by decide +kernel
theorem d12015_5 : decode (jm_b 12015) 5 = .ok (.getfield 217, 3) := by decide +kernel
theorem d12015_8 : decode (jm_b 12015) 8 = .ok (.istore_n 3, 1) := by decide +kernel
theorem d12015_9 : decode (jm_b 12015) 9 = .ok (.aload_n 0, 1) := by decide +kernel
theorem d12015_10 : decode (jm_b 12015) 10 = .ok (.getfield 214, 3) := by decide +kernel
theorem d12015_13 : decode (jm_b 12015) 13 = .ok (.ifCond .ne 13, 3) := by decide +kernel
theorem d12015_16 : decode (jm_b 12015) 16 = .ok (.aload_n 0, 1) := by decide +kernel
theorem d12015_17 : decode (jm_b 12015) 17 = .ok (.ldc_w 261, 3) := by decide +kernel
theorem d12015_20 : decode (jm_b 12015) 20 = .ok (.invokevirtual 262, 3) := by decide +kernel
theorem d12015_23 : decode (jm_b 12015) 23 = .ok (.goto 4, 3) := by decide +kernel
theorem d12015_26 : decode (jm_b 12015) 26 = .ok (.iconst 0, 1) := by decide +kernel
theorem d12015_27 : decode (jm_b 12015) 27 = .ok (.istore 4, 2) := by decide +kernel
theorem d12015_29 : decode (jm_b 12015) 29 = .ok (.aload_n 0, 1) := by decide +kernel
theorem d12015_30 : decode (jm_b 12015) 30 = .ok (.getfield 214, 3) := by decide +kernel
theorem d12015_33 : decode (jm_b 12015) 33 = .ok (.ifCond .ne 22, 3) := by decide +kernel
theorem d12015_36 : decode (jm_b 12015) 36 = .ok (.iload 4, 2) := by decide +kernel
theorem d12015_38 : decode (jm_b 12015) 38 = .ok (.i2l, 1) := by decide +kernel
theorem d12015_39 : decode (jm_b 12015) 39 = .ok (.iload_n 1, 1) := by decide +kernel
theorem d12015_40 : decode (jm_b 12015) 40 = .ok (.i2l, 1) := by decide +kernel
theorem d12015_41 : decode (jm_b 12015) 41 = .ok (.iload_n 2, 1) := by decide +kernel
theorem d12015_42 : decode (jm_b 12015) 42 = .ok (.i2l, 1) := by decide +kernel
theorem d12015_43 : decode (jm_b 12015) 43 = .ok (.invokestatic 170, 3) := by decide +kernel
theorem d12015_46 : decode (jm_b 12015) 46 = .ok (.ifCond .ne 9, 3) := by decide +kernel
theorem d12015_49 : decode (jm_b 12015) 49 = .ok (.aload_n 0, 1) := by decide +kernel
theorem d12015_50 : decode (jm_b 12015) 50 = .ok (.iconst 1, 1) := by decide +kernel
theorem d12015_51 : decode (jm_b 12015) 51 = .ok (.iload_n 3, 1) := by decide +kernel
theorem d12015_52 : decode (jm_b 12015) 52 = .ok (.invokevirtual 253, 3) := by decide +kernel
theorem d12015_55 : decode (jm_b 12015) 55 = .ok (.iload 4, 2) := by decide +kernel
theorem d12015_57 : decode (jm_b 12015) 57 = .ok (.ireturn, 1) := by decide +kernel
theorem d12016_0 : decode (jm_b 12016) 0 = .ok (.aload_n 0, 1) := by decide +kernel
theorem d12016_1 : decode (jm_b 12016) 1 = .ok (.invokevirtual 257, 3) := by decide +kernel
theorem d12016_4 : decode (jm_b 12016) 4 = .ok (.ifCond .ne 14, 3) := by decide +kernel
theorem d12016_7 : decode (jm_b 12016) 7 = .ok (.aload_n 0, 1) := by decide +kernel
theorem d12016_8 : decode (jm_b 12016) 8 = .ok (.iconst 0, 1) := by decide +kernel
theorem d12016_9 : decode (jm_b 12016) 9 = .ok (.aload_n 0, 1) := by decide +kernel
theorem d12016_10 : decode (jm_b 12016) 10 = .ok (.getfield 217, 3) := by decide +kernel
theorem d12016_13 : decode (jm_b 12016) 13 = .ok (.invokevirtual 253, 3) := by decide +kernel
theorem d12016_16 : decode (jm_b 12016) 16 = .ok (.iconst 0, 1) := by decide +kernel
theorem d12016_17 : decode (jm_b 12016) 17 = .ok (.ireturn, 1) := by decide +kernel
theorem d12016_18 : decode (jm_b 12016) 18 = .ok (.aload_n 0, 1) := by decide +kernel
theorem d12016_19 : decode (jm_b 12016) 19 = .ok (.getfield 217, 3) := by decide +kernel
theorem d12016_22 : decode (jm_b 12016) 22 = .ok (.istore_n 2, 1) := by decide +kernel
theorem d12016_23 : decode (jm_b 12016) 23 = .ok (.iconst 0, 1) := by decide +kernel
theorem d12016_24 : decode (jm_b 12016) 24 = .ok (.istore_n 3, 1) := by decide +kernel
theorem d12016_25 : decode (jm_b 12016) 25 = .ok (.aload_n 0, 1) := by decide +kernel
theorem d12016_26 : decode (jm_b 12016) 26 = .ok (.invokevirtual 257, 3) := by decide +kernel
theorem d12016_29 : decode (jm_b 12016) 29 = .ok (.ifCond .eq 43, 3) := by decide +kernel
theorem d12016_32 : decode (jm_b 12016) 32 = .ok (.aload_n 0, 1) := by decide +kernel
theorem d12016_33 : decode (jm_b 12016) 33 = .ok (.getfield 217, 3) := by decide +kernel
theorem d12016_36 : decode (jm_b 12016) 36 = .ok (.iload_n 2, 1) := by decide +kernel
theorem d12016_37 : decode (jm_b 12016) 37 = .ok (.isub, 1) := by decide +kernel
theorem d12016_38 : decode (jm_b 12016) 38 = .ok (.iconst 5, 1) := by decide +kernel
theorem d12016_39 : decode (jm_b 12016) 39 = .ok (.if_icmp .ge 18, 3) := by decide +kernel
theorem d12016_42 : decode (jm_b 12016) 42 = .ok (.bipush 10, 2) := by decide +kernel
theorem d12016_44 : decode (jm_b 12016) 44 = .ok (.iload_n 3, 1) := by decide +kernel
theorem d12016_45 : decode (jm_b 12016) 45 = .ok (.imul, 1) := by decide +kernel
theorem d12016_46 : decode (jm_b 12016) 46 = .ok (.aload_n 0, 1) := by decide +kernel
theorem d12016_47 : decode (jm_b 12016) 47 = .ok (.invokevirtual 220, 3) := by decide +kernel
theorem d12016_50 : decode (jm_b 12016) 50 = .ok (.iadd, 1) := by decide +kernel
theorem d12016_51 : decode (jm_b 12016) 51 = .ok (.bipush 48, 2) := by decide +kernel
theorem d12016_53 : decode (jm_b 12016) 53 = .ok (.isub, 1) := by decide +kernel
theorem d12016_54 : decode (jm_b 12016) 54 = .ok (.goto 4, 3) := by decide +kernel
theorem d12016_57 : decode (jm_b 12016) 57 = .ok (.iload_n 3, 1) := by decide +kernel
theorem d12016_58 : decode (jm_b 12016) 58 = .ok (.istore_n 3, 1) := by decide +kernel
theorem d12016_59 : decode (jm_b 12016) 59 = .ok (.aload_n 0, 1) := by decide +kernel
theorem d12016_60 : decode (jm_b 12016) 60 = .ok (.dup, 1) := by decide +kernel
theorem d12016_61 : decode (jm_b 12016) 61 = .ok (.getfield 217, 3) := by decide +kernel
theorem d12016_64 : decode (jm_b 12016) 64 = .ok (.iconst 1, 1) := by decide +kernel
theorem d12016_65 : decode (jm_b 12016) 65 = .ok (.iadd, 1) := by decide +kernel
theorem d12016_66 : decode (jm_b 12016) 66 = .ok (.putfield 217, 3) := by decide +kernel
theorem d12016_69 : decode (jm_b 12016) 69 = .ok (.goto (-44), 3) := by decide +kernel
theorem d12016_72 : decode (jm_b 12016) 72 = .ok (.aload_n 0, 1) := by decide +kernel
theorem d12016_73 : decode (jm_b 12016) 73 = .ok (.getfield 217, 3) := by decide +kernel
theorem d12016_76 : decode (jm_b 12016) 76 = .ok (.iload_n 2, 1) := by decide +kernel
theorem d12016_77 : decode (jm_b 12016) 77 = .ok (.isub, 1) := by decide +kernel
theorem d12016_78 : decode (jm_b 12016) 78 = .ok (.iconst 5, 1) := by decide +kernel
theorem d12016_79 : decode (jm_b 12016) 79 = .ok (.if_icmp .gt 8, 3) := by decide +kernel
theorem d12016_82 : decode (jm_b 12016) 82 = .ok (.iload_n 3, 1) := by decide +kernel
theorem d12016_83 : decode (jm_b 12016) 83 = .ok (.iload_n 1, 1) := by decide +kernel
theorem d12016_84 : decode (jm_b 12016) 84 = .ok (.if_icmp .le 9, 3) := by decide +kernel
theorem d12016_87 : decode (jm_b 12016) 87 = .ok (.aload_n 0, 1) := by decide +kernel
theorem d12016_88 : decode (jm_b 12016) 88 = .ok (.iconst 1, 1) := by decide +kernel
theorem d12016_89 : decode (jm_b 12016) 89 = .ok (.iload_n 2, 1) := by decide +kernel
theorem d12016_90 : decode (jm_b 12016) 90 = .ok (.invokevirtual 253, 3) := by decide +kernel
theorem d12016_93 : decode (jm_b 12016) 93 = .ok (.iload_n 3, 1) := by decide +kernel
theorem d12016_94 : decode (jm_b 12016) 94 = .ok (.ireturn, 1) := by decide +kernel
theorem d12017_0 : decode (jm_b 12017) 0 = .ok (.aload_n 0, 1) := by decide +kernel
theorem d12017_1 : decode (jm_b 12017) 1 = .ok (.invokevirtual 220, 3) := by decide +kernel
theorem d12017_4 : decode (jm_b 12017) 4 = .ok (.i2l, 1) := by decide +kernel
theorem d12017_5 : decode (jm_b 12017) 5 = .ok (.ldc2_w 224, 3) := by decide +kernel
theorem d12017_8 : decode (jm_b 12017) 8 = .ok (.ldc2_w 226, 3) := by decide +kernel
theorem d12017_11 : decode (jm_b 12017) 11 = .ok (.invokestatic 170, 3) := by decide +kernel
theorem d12017_14 : decode (jm_b 12017) 14 = .ok (.ireturn, 1) := by decide +kernel
theorem d12018_0 : decode (jm_b 12018) 0 = .ok (.lload_n 0, 1) := by decide +kernel
theorem d12018_1 : decode (jm_b 12018) 1 = .ok (.lload_n 2, 1) := by decide +kernel
theorem d12018_2 : decode (jm_b 12018) 2 = .ok (.lcmp, 1) := by decide +kernel
theorem d12018_3 : decode (jm_b 12018) 3 = .ok (.ifCond .lt 14, 3) := by decide +kernel
theorem d12018_6 : decode (jm_b 12018) 6 = .ok (.lload_n 0, 1) := by decide +kernel
theorem d12018_7 : decode (jm_b 12018) 7 = .ok (.lload 4, 2) := by decide +kernel
theorem d12018_9 : decode (jm_b 12018) 9 = .ok (.lcmp, 1) := by decide +kernel
theorem d12018_10 : decode (jm_b 12018) 10 = .ok (.ifCond .gt 7, 3) := by decide +kernel
theorem d12018_13 : decode (jm_b 12018) 13 = .ok (.iconst 1, 1) := by decide +kernel
theorem d12018_14 : decode (jm_b 12018) 14 = .ok (.goto 4, 3) := by decide +kernel
theorem d12018_17 : decode (jm_b 12018) 17 = .ok (.iconst 0, 1) := by decide +kernel
theorem d12018_18 : decode (jm_b 12018) 18 = .ok (.ireturn, 1) := by decide +kernel
theorem d12019_0 : decode (jm_b 12019) 0 = .ok (.aload_n 0, 1) := by decide +kernel
theorem d12019_1 : decode (jm_b 12019) 1 = .ok (.invokevirtual 324, 3) := by decide +kernel
theorem d12019_4 : decode (jm_b 12019) 4 = .ok (.istore_n 1, 1) := by decide +kernel
theorem d12019_5 : decode (jm_b 12019) 5 = .ok (.aload_n 0, 1) := by decide +kernel
theorem d12019_6 : decode (jm_b 12019) 6 = .ok (.iconst 0, 1) := by decide +kernel
theorem d12019_7 : decode (jm_b 12019) 7 = .ok (.bipush 40, 2) := by decide +kernel
theorem d12019_9 : decode (jm_b 12019) 9 = .ok (.invokevirtual 320, 3) := by decide +kernel
theorem d12019_12 : decode (jm_b 12019) 12 = .ok (.istore_n 2, 1) := by decide +kernel
theorem d12019_13 : decode (jm_b 12019) 13 = .ok (.aload_n 0, 1) := by decide +kernel
theorem d12019_14 : decode (jm_b 12019) 14 = .ok (.iconst 0, 1) := by decide +kernel
theorem d12019_15 : decode (jm_b 12019) 15 = .ok (.bipush 99, 2) := by decide +kernel
theorem d12019_17 : decode (jm_b 12019) 17 = .ok (.invokevirtual 320, 3) := by decide +kernel
theorem d12019_20 : decode (jm_b 12019) 20 = .ok (.istore_n 3, 1) := by decide +kernel
theorem d12019_21 : decode (jm_b 12019) 21 = .ok (.aload_n 0, 1) := by decide +kernel
theorem d12019_22 : decode (jm_b 12019) 22 = .ok (.iconst 0, 1) := by decide +kernel
theorem d12019_23 : decode (jm_b 12019) 23 = .ok (.bipush 9, 2) := by decide +kernel
theorem d12019_25 : decode (jm_b 12019) 25 = .ok (.invokevirtual 320, 3) := by decide +kernel
theorem d12019_28 : decode (jm_b 12019) 28 = .ok (.istore 4, 2) := by decide +kernel
theorem d12019_30 : decode (jm_b 12019) 30 = .ok (.aload_n 0, 1) := by decide +kernel
theorem d12019_31 : decode (jm_b 12019) 31 = .ok (.getfield 214, 3) := by decide +kernel
theorem d12019_34 : decode (jm_b 12019) 34 = .ok (.ifCond .ne 28, 3) := by decide +kernel
theorem d12019_37 : decode (jm_b 12019) 37 = .ok (.aload_n 0, 1) := by decide +kernel
theorem d12019_38 : decode (jm_b 12019) 38 = .ok (.getfield 61, 3) := by decide +kernel
theorem d12019_41 : decode (jm_b 12019) 41 = .ok (.iload_n 1, 1) := by decide +kernel
theorem d12019_42 : decode (jm_b 12019) 42 = .ok (.iload_n 2, 1) := by decide +kernel
theorem d12019_43 : decode (jm_b 12019) 43 = .ok (.bipush 20, 2) := by decide +kernel
theorem d12019_45 : decode (jm_b 12019) 45 = .ok (.isub, 1) := by decide +kernel
theorem d12019_46 : decode (jm_b 12019) 46 = .ok (.iastore, 1) := by decide +kernel
theorem d12019_47 : decode (jm_b 12019) 47 = .ok (.aload_n 0, 1) := by decide +kernel
theorem d12019_48 : decode (jm_b 12019) 48 = .ok (.getfield 64, 3) := by decide +kernel
theorem d12019_51 : decode (jm_b 12019) 51 = .ok (.iload_n 1, 1) := by decide +kernel
theorem d12019_52 : decode (jm_b 12019) 52 = .ok (.iload_n 3, 1) := by decide +kernel
theorem d12019_53 : decode (jm_b 12019) 53 = .ok (.iastore, 1) := by decide +kernel
theorem d12019_54 : decode (jm_b 12019) 54 = .ok (.aload_n 0, 1) := by decide +kernel
theorem d12019_55 : decode (jm_b 12019) 55 = .ok (.getfield 67, 3) := by decide +kernel
theorem d12019_58 : decode (jm_b 12019) 58 = .ok (.iload_n 1, 1) := by decide +kernel
theorem d12019_59 : decode (jm_b 12019) 59 = .ok (.iload 4, 2) := by decide +kernel
theorem d12019_61 : decode (jm_b 12019) 61 = .ok (.iastore, 1) := by decide +kernel
theorem d12019_62 : decode (jm_b 12019) 62 = .ok (.return_, 1) := by decide +kernel
theorem d12020_0 : decode (jm_b 12020) 0 = .ok (.aload_n 0, 1) := by decide +kernel
theorem d12020_1 : decode (jm_b 12020) 1 = .ok (.iconst 0, 1) := by decide +kernel
theorem d12020_2 : decode (jm_b 12020) 2 = .ok (.aload_n 0, 1) := by decide +kernel
theorem d12020_3 : decode (jm_b 12020) 3 = .ok (.getfield 58, 3) := by decide +kernel
theorem d12020_6 : decode (jm_b 12020) 6 = .ok (.iconst 0, 1) := by decide +kernel
theorem d12020_7 : decode (jm_b 12020) 7 = .ok (.iaload, 1) := by decide +kernel
theorem d12020_8 : decode (jm_b 12020) 8 = .ok (.iconst 1, 1) := by decide +kernel
theorem d12020_9 : decode (jm_b 12020) 9 = .ok (.isub, 1) := by decide +kernel
theorem d12020_10 : decode (jm_b 12020) 10 = .ok (.invokevirtual 320, 3) := by decide +kernel
theorem d12020_13 : decode (jm_b 12020) 13 = .ok (.ireturn, 1) := by decide +kernel
theorem d12021_0 : decode (jm_b 12021) 0 = .ok (.aload_n 0, 1) := by decide +kernel
theorem d12021_1 : decode (jm_b 12021) 1 = .ok (.iconst 0, 1) := by decide +kernel
theorem d12021_2 : decode (jm_b 12021) 2 = .ok (.bipush 99, 2) := by decide +kernel
theorem d12021_4 : decode (jm_b 12021) 4 = .ok (.invokevirtual 320, 3) := by decide +kernel
theorem d12021_7 : decode (jm_b 12021) 7 = .ok (.istore_n 1, 1) := by decide +kernel
theorem d12021_8 : decode (jm_b 12021) 8 = .ok (.aload_n 0, 1) := by decide +kernel
theorem d12021_9 : decode (jm_b 12021) 9 = .ok (.iload_n 1, 1) := by decide +kernel
theorem d12021_10 : decode (jm_b 12021) 10 = .ok (.bipush 99, 2) := by decide +kernel
theorem d12021_12 : decode (jm_b 12021) 12 = .ok (.invokevirtual 320, 3) := by decide +kernel
theorem d12021_15 : decode (jm_b 12021) 15 = .ok (.istore_n 2, 1) := by decide +kernel
theorem d12021_16 : decode (jm_b 12021) 16 = .ok (.aload_n 0, 1) := by decide +kernel
theorem d12021_17 : decode (jm_b 12021) 17 = .ok (.iconst 1, 1) := by decide +kernel
theorem d12021_18 : decode (jm_b 12021) 18 = .ok (.bipush 9, 2) := by decide +kernel
theorem d12021_20 : decode (jm_b 12021) 20 = .ok (.invokevirtual 320, 3) := by decide +kernel
theorem d12021_23 : decode (jm_b 12021) 23 = .ok (.istore_n 3, 1) := by decide +kernel
theorem d12021_24 : decode (jm_b 12021) 24 = .ok (.iload_n 1, 1) := by decide +kernel
theorem d12021_25 : decode (jm_b 12021) 25 = .ok (.istore 4, 2) := by decide +kernel
theorem d12021_27 : decode (jm_b 12021) 27 = .ok (.iload 4, 2) := by decide +kernel
theorem d12021_29 : decode (jm_b 12021) 29 = .ok (.iload_n 2, 1) := by decide +kernel
theorem d12021_30 : decode (jm_b 12021) 30 = .ok (.if_icmp .gt 24, 3) := by decide +kernel
theorem d12021_33 : decode (jm_b 12021) 33 = .ok (.aload_n 0, 1) := by decide +kernel
theorem d12021_34 : decode (jm_b 12021) 34 = .ok (.getfield 214, 3) := by decide +kernel
theorem d12021_37 : decode (jm_b 12021) 37 = .ok (.ifCond .ne 17, 3) := by decide +kernel
theorem d12021_40 : decode (jm_b 12021) 40 = .ok (.aload_n 0, 1) := by decide +kernel
theorem d12021_41 : decode (jm_b 12021) 41 = .ok (.getfield 70, 3) := by decide +kernel
theorem d12021_44 : decode (jm_b 12021) 44 = .ok (.iload 4, 2) := by decide +kernel
theorem d12021_46 : decode (jm_b 12021) 46 = .ok (.iload_n 3, 1) := by decide +kernel
theorem d12021_47 : decode (jm_b 12021) 47 = .ok (.iastore, 1) := by decide +kernel
theorem d12021_48 : decode (jm_b 12021) 48 = .ok (.iinc 4 1, 3) := by decide +kernel
theorem d12021_51 : decode (jm_b 12021) 51 = .ok (.goto (-24), 3) := by decide +kernel
theorem d12021_54 : decode (jm_b 12021) 54 = .ok (.return_, 1) := by decide +kernel
theorem d12022_0 : decode (jm_b 12022) 0 = .ok (.aload_n 0, 1) := by decide +kernel
theorem d12022_1 : decode (jm_b 12022) 1 = .ok (.getfield 58, 3) := by decide +kernel
theorem d12022_4 : decode (jm_b 12022) 4 = .ok (.iconst 2, 1) := by decide +kernel
theorem d12022_5 : decode (jm_b 12022) 5 = .ok (.iaload, 1) := by decide +kernel
theorem d12022_6 : decode (jm_b 12022) 6 = .ok (.istore_n 1, 1) := by decide +kernel
theorem d12022_7 : decode (jm_b 12022) 7 = .ok (.aload_n 0, 1) := by decide +kernel
theorem d12022_8 : decode (jm_b 12022) 8 = .ok (.getfield 73, 3) := by decide +kernel
theorem d12022_11 : decode (jm_b 12022) 11 = .ok (.iload_n 1, 1) := by decide +kernel
theorem d12022_12 : decode (jm_b 12022) 12 = .ok (.aload_n 0, 1) := by decide +kernel
theorem d12022_13 : decode (jm_b 12022) 13 = .ok (.invokevirtual 324, 3) := by decide +kernel
theorem d12022_16 : decode (jm_b 12022) 16 = .ok (.iastore, 1) := by decide +kernel
theorem d12022_17 : decode (jm_b 12022) 17 = .ok (.aload_n 0, 1) := by decide +kernel
theorem d12022_18 : decode (jm_b 12022) 18 = .ok (.getfield 76, 3) := by decide +kernel
theorem d12022_21 : decode (jm_b 12022) 21 = .ok (.iload_n 1, 1) := by decide +kernel
theorem d12022_22 : decode (jm_b 12022) 22 = .ok (.aload_n 0, 1) := by decide +kernel
theorem d12022_23 : decode (jm_b 12022) 23 = .ok (.iconst 0, 1) := by decide +kernel
theorem d12022_24 : decode (jm_b 12022) 24 = .ok (.bipush 40, 2) := by decide +kernel
theorem d12022_26 : decode (jm_b 12022) 26 = .ok (.invokevirtual 320, 3) := by decide +kernel
theorem d12022_29 : decode (jm_b 12022) 29 = .ok (.bipush 20, 2) := by decide +kernel
theorem d12022_31 : decode (jm_b 12022) 31 = .ok (.isub, 1) := by decide +kernel
theorem d12022_32 : decode (jm_b 12022) 32 = .ok (.iastore, 1) := by decide +kernel
theorem d12022_33 : decode (jm_b 12022) 33 = .ok (.aload_n 0, 1) := by decide +kernel
theorem d12022_34 : decode (jm_b 12022) 34 = .ok (.getfield 79, 3) := by decide +kernel
theorem d12022_37 : decode (jm_b 12022) 37 = .ok (.iload_n 1, 1) := by decide +kernel
theorem d12022_38 : decode (jm_b 12022) 38 = .ok (.aload_n 0, 1) := by decide +kernel
theorem d12022_39 : decode (jm_b 12022) 39 = .ok (.iconst 0, 1) := by decide +kernel
theorem d12022_40 : decode (jm_b 12022) 40 = .ok (.iconst 1, 1) := by decide +kernel
theorem d12022_41 : decode (jm_b 12022) 41 = .ok (.invokevirtual 320, 3) := by decide +kernel
theorem d12022_44 : decode (jm_b 12022) 44 = .ok (.iastore, 1) := by decide +kernel
theorem d12022_45 : decode (jm_b 12022) 45 = .ok (.aload_n 0, 1) := by decide +kernel
theorem d12022_46 : decode (jm_b 12022) 46 = .ok (.getfield 58, 3) := by decide +kernel
theorem d12022_49 : decode (jm_b 12022) 49 = .ok (.iconst 2, 1) := by decide +kernel
theorem d12022_50 : decode (jm_b 12022) 50 = .ok (.dup2, 1) := by decide +kernel
theorem d12022_51 : decode (jm_b 12022) 51 = .ok (.iaload, 1) := by decide +kernel
theorem d12022_52 : decode (jm_b 12022) 52 = .ok (.iconst 1, 1) := by decide +kernel
theorem d12022_53 : decode (jm_b 12022) 53 = .ok (.iadd, 1) := by decide +kernel
theorem d12022_54 : decode (jm_b 12022) 54 = .ok (.iastore, 1) := by decide +kernel
theorem d12022_55 : decode (jm_b 12022) 55 = .ok (.return_, 1) := by decide +kernel
theorem d12023_0 : decode (jm_b 12023) 0 = .ok (.aload_n 0, 1) := by decide +kernel
theorem d12023_1 : decode (jm_b 12023) 1 = .ok (.invokevirtual 237, 3) := by decide +kernel
theorem d12023_4 : decode (jm_b 12023) 4 = .ok (.aload_n 0, 1) := by decide +kernel
theorem d12023_5 : decode (jm_b 12023) 5 = .ok (.getfield 214, 3) := by decide +kernel
theorem d12023_8 : decode (jm_b 12023) 8 = .ok (.ifCond .ne 32, 3) := by decide +kernel
theorem d12023_11 : decode (jm_b 12023) 11 = .ok (.aload_n 0, 1) := by decide +kernel
theorem d12023_12 : decode (jm_b 12023) 12 = .ok (.getfield 217, 3) := by decide +kernel
theorem d12023_15 : decode (jm_b 12023) 15 = .ok (.aload_n 0, 1) := by decide +kernel
theorem d12023_16 : decode (jm_b 12023) 16 = .ok (.getfield 185, 3) := by decide +kernel
theorem d12023_19 : decode (jm_b 12023) 19 = .ok (.if_icmp .ge 21, 3) := by decide +kernel
theorem d12023_22 : decode (jm_b 12023) 22 = .ok (.aload_n 0, 1) := by decide +kernel
theorem d12023_23 : decode (jm_b 12023) 23 = .ok (.invokevirtual 220, 3) := by decide +kernel
theorem d12023_26 : decode (jm_b 12023) 26 = .ok (.bipush 59, 2) := by decide +kernel
theorem d12023_28 : decode (jm_b 12023) 28 = .ok (.if_icmp .eq 12, 3) := by decide +kernel
theorem d12023_31 : decode (jm_b 12023) 31 = .ok (.aload_n 0, 1) := by decide +kernel
theorem d12023_32 : decode (jm_b 12023) 32 = .ok (.iconst 0, 1) := by decide +kernel
theorem d12023_33 : decode (jm_b 12023) 33 = .ok (.aload_n 0, 1) := by decide +kernel
theorem d12023_34 : decode (jm_b 12023) 34 = .ok (.getfield 217, 3) := by decide +kernel
theorem d12023_37 : decode (jm_b 12023) 37 = .ok (.invokevirtual 253, 3) := by decide +kernel
theorem d12023_40 : decode (jm_b 12023) 40 = .ok (.aload_n 0, 1) := by decide +kernel
theorem d12023_41 : decode (jm_b 12023) 41 = .ok (.getfield 214, 3) := by decide +kernel
theorem d12023_44 : decode (jm_b 12023) 44 = .ok (.ifCond .ne 18, 3) := by decide +kernel
theorem d12023_47 : decode (jm_b 12023) 47 = .ok (.aload_n 0, 1) := by decide +kernel
theorem d12023_48 : decode (jm_b 12023) 48 = .ok (.getfield 217, 3) := by decide +kernel
theorem d12023_51 : decode (jm_b 12023) 51 = .ok (.aload_n 0, 1) := by decide +kernel
theorem d12023_52 : decode (jm_b 12023) 52 = .ok (.getfield 185, 3) := by decide +kernel
theorem d12023_55 : decode (jm_b 12023) 55 = .ok (.if_icmp .ge 7, 3) := by decide +kernel
theorem d12023_58 : decode (jm_b 12023) 58 = .ok (.iconst 1, 1) := by decide +kernel
theorem d12023_59 : decode (jm_b 12023) 59 = .ok (.goto 4, 3) := by decide +kernel
theorem d12023_62 : decode (jm_b 12023) 62 = .ok (.iconst 0, 1) := by decide +kernel
theorem d12023_63 : decode (jm_b 12023) 63 = .ok (.istore_n 1, 1) := by decide +kernel
theorem d12023_64 : decode (jm_b 12023) 64 = .ok (.aload_n 0, 1) := by decide +kernel
theorem d12023_65 : decode (jm_b 12023) 65 = .ok (.dup, 1) := by decide +kernel
theorem d12023_66 : decode (jm_b 12023) 66 = .ok (.getfield 217, 3) := by decide +kernel
theorem d12023_69 : decode (jm_b 12023) 69 = .ok (.iconst 1, 1) := by decide +kernel
theorem d12023_70 : decode (jm_b 12023) 70 = .ok (.iadd, 1) := by decide +kernel
theorem d12023_71 : decode (jm_b 12023) 71 = .ok (.putfield 217, 3) := by decide +kernel
theorem d12023_74 : decode (jm_b 12023) 74 = .ok (.iload_n 1, 1) := by decide +kernel
theorem d12023_75 : decode (jm_b 12023) 75 = .ok (.ireturn, 1) := by decide +kernel
theorem d12024_0 : decode (jm_b 12024) 0 = .ok (.iconst 0, 1) := by decide +kernel
theorem d12024_1 : decode (jm_b 12024) 1 = .ok (.istore_n 2, 1) := by decide +kernel
theorem d12024_2 : decode (jm_b 12024) 2 = .ok (.iload_n 2, 1) := by decide +kernel
theorem d12024_3 : decode (jm_b 12024) 3 = .ok (.aload_n 0, 1) := by decide +kernel
theorem d12024_4 : decode (jm_b 12024) 4 = .ok (.arraylength, 1) := by decide +kernel
theorem d12024_5 : decode (jm_b 12024) 5 = .ok (.if_icmp .ge 15, 3) := by decide +kernel
theorem d12024_8 : decode (jm_b 12024) 8 = .ok (.aload_n 1, 1) := by decide +kernel
theorem d12024_9 : decode (jm_b 12024) 9 = .ok (.iload_n 2, 1) := by decide +kernel
theorem d12024_10 : decode (jm_b 12024) 10 = .ok (.aload_n 0, 1) := by decide +kernel
theorem d12024_11 : decode (jm_b 12024) 11 = .ok (.iload_n 2, 1) := by decide +kernel
theorem d12024_12 : decode (jm_b 12024) 12 = .ok (.iaload, 1) := by decide +kernel
theorem d12024_13 : decode (jm_b 12024) 13 = .ok (.iastore, 1) := by decide +kernel
theorem d12024_14 : decode (jm_b 12024) 14 = .ok (.iinc 2 1, 3) := by decide +kernel
theorem d12024_17 : decode (jm_b 12024) 17 = .ok (.goto (-15), 3) := by decide +kernel
theorem d12024_20 : decode (jm_b 12024) 20 = .ok (.return_, 1) := by decide +kernel
theorem d12025_0 : decode (jm_b 12025) 0 = .ok (.aload_n 0, 1) := by decide +kernel
theorem d12025_1 : decode (jm_b 12025) 1 = .ok (.getfield 374, 3) := by decide +kernel
theorem d12025_4 : decode (jm_b 12025) 4 = .ok (.bipush 6, 2) := by decide +kernel
theorem d12025_6 : decode (jm_b 12025) 6 = .ok (.if_icmp .ne 5, 3) := by decide +kernel
theorem d12025_9 : decode (jm_b 12025) 9 = .ok (.iconst (-1), 1) := by decide +kernel
theorem d12025_10 : decode (jm_b 12025) 10 = .ok (.ireturn, 1) := by decide +kernel
theorem d12025_11 : decode (jm_b 12025) 11 = .ok (.aload_n 0, 1) := by decide +kernel
theorem d12025_12 : decode (jm_b 12025) 12 = .ok (.aload_n 0, 1) := by decide +kernel
theorem d12025_13 : decode (jm_b 12025) 13 = .ok (.getfield 374, 3) := by decide +kernel
theorem d12025_16 : decode (jm_b 12025) 16 = .ok (.putfield 244, 3) := by decide +kernel
theorem d12025_19 : decode (jm_b 12025) 19 = .ok (.aload_n 0, 1) := by decide +kernel
theorem d12025_20 : decode (jm_b 12025) 20 = .ok (.invokevirtual 345, 3) := by decide +kernel
theorem d12025_23 : decode (jm_b 12025) 23 = .ok (.iconst 0, 1) := by decide +kernel
theorem d12025_24 : decode (jm_b 12025) 24 = .ok (.istore_n 1, 1) := by decide +kernel
theorem d12025_25 : decode (jm_b 12025) 25 = .ok (.iconst 1, 1) := by decide +kernel
theorem d12025_26 : decode (jm_b 12025) 26 = .ok (.istore_n 2, 1) := by decide +kernel
theorem d12025_27 : decode (jm_b 12025) 27 = .ok (.iload_n 2, 1) := by decide +kernel
theorem d12025_28 : decode (jm_b 12025) 28 = .ok (.ifCond .eq 19, 3) := by decide +kernel
theorem d12025_31 : decode (jm_b 12025) 31 = .ok (.aload_n 0, 1) := by decide +kernel
theorem d12025_32 : decode (jm_b 12025) 32 = .ok (.iload_n 1, 1) := by decide +kernel
theorem d12025_33 : decode (jm_b 12025) 33 = .ok (.invokevirtual 377, 3) := by decide +kernel
theorem d12025_36 : decode (jm_b 12025) 36 = .ok (.iinc 1 1, 3) := by decide +kernel
theorem d12025_39 : decode (jm_b 12025) 39 = .ok (.aload_n 0, 1) := by decide +kernel
theorem d12025_40 : decode (jm_b 12025) 40 = .ok (.invokevirtual 351, 3) := by decide +kernel
theorem d12025_43 : decode (jm_b 12025) 43 = .ok (.istore_n 2, 1) := by decide +kernel
theorem d12025_44 : decode (jm_b 12025) 44 = .ok (.goto (-17), 3) := by decide +kernel
theorem d12025_47 : decode (jm_b 12025) 47 = .ok (.aload_n 0, 1) := by decide +kernel
theorem d12025_48 : decode (jm_b 12025) 48 = .ok (.iconst 0, 1) := by decide +kernel
theorem d12025_49 : decode (jm_b 12025) 49 = .ok (.putfield 185, 3) := by decide +kernel
theorem d12025_52 : decode (jm_b 12025) 52 = .ok (.aload_n 0, 1) := by decide +kernel
theorem d12025_53 : decode (jm_b 12025) 53 = .ok (.getfield 102, 3) := by decide +kernel
theorem d12025_56 : decode (jm_b 12025) 56 = .ok (.aload_n 0, 1) := by decide +kernel
theorem d12025_57 : decode (jm_b 12025) 57 = .ok (.getfield 244, 3) := by decide +kernel
theorem d12025_60 : decode (jm_b 12025) 60 = .ok (.iload_n 1, 1) := by decide +kernel
theorem d12025_61 : decode (jm_b 12025) 61 = .ok (.iastore, 1) := by decide +kernel
theorem d12025_62 : decode (jm_b 12025) 62 = .ok (.aload_n 0, 1) := by decide +kernel
theorem d12025_63 : decode (jm_b 12025) 63 = .ok (.dup, 1) := by decide +kernel
theorem d12025_64 : decode (jm_b 12025) 64 = .ok (.getfield 374, 3) := by decide +kernel
theorem d12025_67 : decode (jm_b 12025) 67 = .ok (.aload_n 0, 1) := by decide +kernel
theorem d12025_68 : decode (jm_b 12025) 68 = .ok (.getfield 214, 3) := by decide +kernel
theorem d12025_71 : decode (jm_b 12025) 71 = .ok (.ifCond .ne 7, 3) := by decide +kernel
theorem d12025_74 : decode (jm_b 12025) 74 = .ok (.iconst 1, 1) := by decide +kernel
theorem d12025_75 : decode (jm_b 12025) 75 = .ok (.goto 4, 3) := by decide +kernel
theorem d12025_78 : decode (jm_b 12025) 78 = .ok (.iconst 0, 1) := by decide +kernel
theorem d12025_79 : decode (jm_b 12025) 79 = .ok (.iadd, 1) := by decide +kernel
theorem d12025_80 : decode (jm_b 12025) 80 = .ok (.putfield 374, 3) := by decide +kernel
theorem d12025_83 : decode (jm_b 12025) 83 = .ok (.aload_n 0, 1) := by decide +kernel
theorem d12025_84 : decode (jm_b 12025) 84 = .ok (.getfield 214, 3) := by decide +kernel
theorem d12025_87 : decode (jm_b 12025) 87 = .ok (.ifCond .le 13, 3) := by decide +kernel
theorem d12025_90 : decode (jm_b 12025) 90 = .ok (.bipush (-2), 2) := by decide +kernel
theorem d12025_92 : decode (jm_b 12025) 92 = .ok (.aload_n 0, 1) := by decide +kernel
theorem d12025_93 : decode (jm_b 12025) 93 = .ok (.getfield 214, 3) := by decide +kernel
theorem d12025_96 : decode (jm_b 12025) 96 = .ok (.isub, 1) := by decide +kernel
theorem d12025_97 : decode (jm_b 12025) 97 = .ok (.goto 9, 3) := by decide +kernel
theorem d12025_100 : decode (jm_b 12025) 100 = .ok (.aload_n 0, 1) := by decide +kernel
theorem d12025_101 : decode (jm_b 12025) 101 = .ok (.getfield 374, 3) := by decide +kernel
theorem d12025_104 : decode (jm_b 12025) 104 = .ok (.iconst 1, 1) := by decide +kernel
theorem d12025_105 : decode (jm_b 12025) 105 = .ok (.isub, 1) := by decide +kernel
theorem d12025_106 : decode (jm_b 12025) 106 = .ok (.ireturn, 1) := by decide +kernel
theorem d12026_0 : decode (jm_b 12026) 0 = .ok (.aload_n 0, 1) := by decide +kernel
theorem d12026_1 : decode (jm_b 12026) 1 = .ok (.invokevirtual 237, 3) := by decide +kernel
theorem d12026_4 : decode (jm_b 12026) 4 = .ok (.aload_n 0, 1) := by decide +kernel
theorem d12026_5 : decode (jm_b 12026) 5 = .ok (.getfield 217, 3) := by decide +kernel
theorem d12026_8 : decode (jm_b 12026) 8 = .ok (.istore_n 2, 1) := by decide +kernel
theorem d12026_9 : decode (jm_b 12026) 9 = .ok (.aload_n 0, 1) := by decide +kernel
theorem d12026_10 : decode (jm_b 12026) 10 = .ok (.ldc_w 364, 3) := by decide +kernel
theorem d12026_13 : decode (jm_b 12026) 13 = .ok (.invokevirtual 240, 3) := by decide +kernel
theorem d12026_16 : decode (jm_b 12026) 16 = .ok (.ifCond .ne 10, 3) := by decide +kernel
theorem d12026_19 : decode (jm_b 12026) 19 = .ok (.aload_n 0, 1) := by decide +kernel
theorem d12026_20 : decode (jm_b 12026) 20 = .ok (.iconst 0, 1) := by decide +kernel
theorem d12026_21 : decode (jm_b 12026) 21 = .ok (.iload_n 2, 1) := by decide +kernel
theorem d12026_22 : decode (jm_b 12026) 22 = .ok (.invokevirtual 253, 3) := by decide +kernel
theorem d12026_25 : decode (jm_b 12026) 25 = .ok (.return_, 1) := by decide +kernel
theorem d12026_26 : decode (jm_b 12026) 26 = .ok (.iload_n 1, 1) := by decide +kernel
theorem d12026_27 : decode (jm_b 12026) 27 = .ok (.bipush 12, 2) := by decide +kernel
theorem d12026_29 : decode (jm_b 12026) 29 = .ok (.if_icmp .ne 10, 3) := by decide +kernel
theorem d12026_32 : decode (jm_b 12026) 32 = .ok (.aload_n 0, 1) := by decide +kernel
theorem d12026_33 : decode (jm_b 12026) 33 = .ok (.iconst 4, 1) := by decide +kernel
theorem d12026_34 : decode (jm_b 12026) 34 = .ok (.iload_n 2, 1) := by decide +kernel
theorem d12026_35 : decode (jm_b 12026) 35 = .ok (.invokevirtual 253, 3) := by decide +kernel
theorem d12026_38 : decode (jm_b 12026) 38 = .ok (.return_, 1) := by decide +kernel
theorem d12026_39 : decode (jm_b 12026) 39 = .ok (.aload_n 0, 1) := by decide +kernel
theorem d12026_40 : decode (jm_b 12026) 40 = .ok (.dup, 1) := by decide +kernel
theorem d12026_41 : decode (jm_b 12026) 41 = .ok (.getfield 217, 3) := by decide +kernel
theorem d12026_44 : decode (jm_b 12026) 44 = .ok (.iconst 5, 1) := by decide +kernel
theorem d12026_45 : decode (jm_b 12026) 45 = .ok (.iadd, 1) := by decide +kernel
theorem d12026_46 : decode (jm_b 12026) 46 = .ok (.putfield 217, 3) := by decide +kernel
theorem d12026_49 : decode (jm_b 12026) 49 = .ok (.bipush 12, 2) := by decide +kernel
theorem d12026_51 : decode (jm_b 12026) 51 = .ok (.aload_n 0, 1) := by decide +kernel
theorem d12026_52 : decode (jm_b 12026) 52 = .ok (.getfield 244, 3) := by decide +kernel
theorem d12026_55 : decode (jm_b 12026) 55 = .ok (.imul, 1) := by decide +kernel
theorem d12026_56 : decode (jm_b 12026) 56 = .ok (.iload_n 1, 1) := by decide +kernel
theorem d12026_57 : decode (jm_b 12026) 57 = .ok (.iadd, 1) := by decide +kernel
theorem d12026_58 : decode (jm_b 12026) 58 = .ok (.istore_n 3, 1) := by decide +kernel
theorem d12026_59 : decode (jm_b 12026) 59 = .ok (.aload_n 0, 1) := by decide +kernel
theorem d12026_60 : decode (jm_b 12026) 60 = .ok (.getfield 105, 3) := by decide +kernel
theorem d12026_63 : decode (jm_b 12026) 63 = .ok (.iload_n 3, 1) := by decide +kernel
theorem d12026_64 : decode (jm_b 12026) 64 = .ok (.aload_n 0, 1) := by decide +kernel
theorem d12026_65 : decode (jm_b 12026) 65 = .ok (.getfield 247, 3) := by decide +kernel
theorem d12026_68 : decode (jm_b 12026) 68 = .ok (.iastore, 1) := by decide +kernel
theorem d12026_69 : decode (jm_b 12026) 69 = .ok (.aload_n 0, 1) := by decide +kernel
theorem d12026_70 : decode (jm_b 12026) 70 = .ok (.invokevirtual 282, 3) := by decide +kernel
theorem d12026_73 : decode (jm_b 12026) 73 = .ok (.aload_n 0, 1) := by decide +kernel
theorem d12026_74 : decode (jm_b 12026) 74 = .ok (.getfield 108, 3) := by decide +kernel
theorem d12026_77 : decode (jm_b 12026) 77 = .ok (.iload_n 3, 1) := by decide +kernel
theorem d12026_78 : decode (jm_b 12026) 78 = .ok (.aload_n 0, 1) := by decide +kernel
theorem d12026_79 : decode (jm_b 12026) 79 = .ok (.getfield 247, 3) := by decide +kernel
theorem d12026_82 : decode (jm_b 12026) 82 = .ok (.iastore, 1) := by decide +kernel
theorem d12026_83 : decode (jm_b 12026) 83 = .ok (.aload_n 0, 1) := by decide +kernel
theorem d12026_84 : decode (jm_b 12026) 84 = .ok (.getfield 214, 3) := by decide +kernel
theorem d12026_87 : decode (jm_b 12026) 87 = .ok (.ifCond .ne 17, 3) := by decide +kernel
theorem d12026_90 : decode (jm_b 12026) 90 = .ok (.aload_n 0, 1) := by decide +kernel
theorem d12026_91 : decode (jm_b 12026) 91 = .ok (.ldc_w 366, 3) := by decide +kernel
theorem d12026_94 : decode (jm_b 12026) 94 = .ok (.invokevirtual 368, 3) := by decide +kernel
theorem d12026_97 : decode (jm_b 12026) 97 = .ok (.ifCond .eq 7, 3) := by decide +kernel
theorem d12026_100 : decode (jm_b 12026) 100 = .ok (.aload_n 0, 1) := by decide +kernel
theorem d12026_101 : decode (jm_b 12026) 101 = .ok (.invokevirtual 371, 3) := by decide +kernel
theorem d12026_104 : decode (jm_b 12026) 104 = .ok (.aload_n 0, 1) := by decide +kernel
theorem d12026_105 : decode (jm_b 12026) 105 = .ok (.getfield 111, 3) := by decide +kernel
theorem d12026_108 : decode (jm_b 12026) 108 = .ok (.iload_n 3, 1) := by decide +kernel
theorem d12026_109 : decode (jm_b 12026) 109 = .ok (.aload_n 0, 1) := by decide +kernel
theorem d12026_110 : decode (jm_b 12026) 110 = .ok (.getfield 247, 3) := by decide +kernel
theorem d12026_113 : decode (jm_b 12026) 113 = .ok (.iastore, 1) := by decide +kernel
theorem d12026_114 : decode (jm_b 12026) 114 = .ok (.return_, 1) := by decide +kernel
