/-! decode rows (by program) -/
theorem d0_0 : decode (jm_b 0) 0 = .ok (.aload_n 0, 1) := by decide +kernel
theorem d0_1 : decode (jm_b 0) 1 = .ok (.invokespecial 1, 3) := by decide +kernel
theorem d0_4 : decode (jm_b 0) 4 = .ok (.aload_n 0, 1) := by decide +kernel
theorem d0_5 : decode (jm_b 0) 5 = .ok (.new 7, 3) := by decide +kernel
theorem d0_8 : decode (jm_b 0) 8 = .ok (.dup, 1) := by decide +kernel
theorem d0_9 : decode (jm_b 0) 9 = .ok (.invokespecial 9, 3) := by decide +kernel
theorem d0_12 : decode (jm_b 0) 12 = .ok (.putfield 10, 3) := by decide +kernel
theorem d0_15 : decode (jm_b 0) 15 = .ok (.aload_n 0, 1) := by decide +kernel
theorem d0_16 : decode (jm_b 0) 16 = .ok (.new 16, 3) := by decide +kernel
theorem d0_19 : decode (jm_b 0) 19 = .ok (.dup, 1) := by decide +kernel
theorem d0_20 : decode (jm_b 0) 20 = .ok (.aload_n 0, 1) := by decide +kernel
theorem d0_21 : decode (jm_b 0) 21 = .ok (.getfield 10, 3) := by decide +kernel
theorem d0_24 : decode (jm_b 0) 24 = .ok (.invokespecial 18, 3) := by decide +kernel
theorem d0_27 : decode (jm_b 0) 27 = .ok (.putfield 21, 3) := by decide +kernel
theorem d0_30 : decode (jm_b 0) 30 = .ok (.aload_n 0, 1) := by decide +kernel
theorem d0_31 : decode (jm_b 0) 31 = .ok (.new 25, 3) := by decide +kernel
theorem d0_34 : decode (jm_b 0) 34 = .ok (.dup, 1) := by decide +kernel
theorem d0_35 : decode (jm_b 0) 35 = .ok (.aload_n 0, 1) := by decide +kernel
theorem d0_36 : decode (jm_b 0) 36 = .ok (.getfield 10, 3) := by decide +kernel
theorem d0_39 : decode (jm_b 0) 39 = .ok (.invokespecial 27, 3) := by decide +kernel
theorem d0_42 : decode (jm_b 0) 42 = .ok (.putfield 28, 3) := by decide +kernel
theorem d0_45 : decode (jm_b 0) 45 = .ok (.aload_n 0, 1) := by decide +kernel
theorem d0_46 : decode (jm_b 0) 46 = .ok (.bipush 6, 2) := by decide +kernel
theorem d0_48 : decode (jm_b 0) 48 = .ok (.anewarray 32, 3) := by decide +kernel
theorem d0_51 : decode (jm_b 0) 51 = .ok (.putfield 34, 3) := by decide +kernel
theorem d0_54 : decode (jm_b 0) 54 = .ok (.aload_n 0, 1) := by decide +kernel
theorem d0_55 : decode (jm_b 0) 55 = .ok (.new 38, 3) := by decide +kernel
theorem d0_58 : decode (jm_b 0) 58 = .ok (.dup, 1) := by decide +kernel
theorem d0_59 : decode (jm_b 0) 59 = .ok (.invokespecial 40, 3) := by decide +kernel
theorem d0_62 : decode (jm_b 0) 62 = .ok (.putfield 41, 3) := by decide +kernel
theorem d0_65 : decode (jm_b 0) 65 = .ok (.aload_n 0, 1) := by decide +kernel
theorem d0_66 : decode (jm_b 0) 66 = .ok (.iconst 4, 1) := by decide +kernel
theorem d0_67 : decode (jm_b 0) 67 = .ok (.anewarray 38, 3) := by decide +kernel
theorem d0_70 : decode (jm_b 0) 70 = .ok (.putfield 45, 3) := by decide +kernel
theorem d0_73 : decode (jm_b 0) 73 = .ok (.aload_n 0, 1) := by decide +kernel
theorem d0_74 : decode (jm_b 0) 74 = .ok (.iconst 4, 1) := by decide +kernel
theorem d0_75 : decode (jm_b 0) 75 = .ok (.newarray .boolean, 2) := by decide +kernel
theorem d0_77 : decode (jm_b 0) 77 = .ok (.putfield 49, 3) := by decide +kernel
theorem d0_80 : decode (jm_b 0) 80 = .ok (.aload_n 0, 1) := by decide +kernel
theorem d0_81 : decode (jm_b 0) 81 = .ok (.new 53, 3) := by decide +kernel
theorem d0_84 : decode (jm_b 0) 84 = .ok (.dup, 1) := by decide +kernel
theorem d0_85 : decode (jm_b 0) 85 = .ok (.invokespecial 55, 3) := by decide +kernel
theorem d0_88 : decode (jm_b 0) 88 = .ok (.putfield 56, 3) := by decide +kernel
theorem d0_91 : decode (jm_b 0) 91 = .ok (.aload_n 0, 1) := by decide +kernel
theorem d0_92 : decode (jm_b 0) 92 = .ok (.new 60, 3) := by decide +kernel
theorem d0_95 : decode (jm_b 0) 95 = .ok (.dup, 1) := by decide +kernel
theorem d0_96 : decode (jm_b 0) 96 = .ok (.aload_n 0, 1) := by decide +kernel
theorem d0_97 : decode (jm_b 0) 97 = .ok (.getfield 56, 3) := by decide +kernel
theorem d0_100 : decode (jm_b 0) 100 = .ok (.invokespecial 62, 3) := by decide +kernel
theorem d0_103 : decode (jm_b 0) 103 = .ok (.putfield 65, 3) := by decide +kernel
theorem d0_106 : decode (jm_b 0) 106 = .ok (.aload_n 0, 1) := by decide +kernel
theorem d0_107 : decode (jm_b 0) 107 = .ok (.new 69, 3) := by decide +kernel
theorem d0_110 : decode (jm_b 0) 110 = .ok (.dup, 1) := by decide +kernel
theorem d0_111 : decode (jm_b 0) 111 = .ok (.aload_n 0, 1) := by decide +kernel
theorem d0_112 : decode (jm_b 0) 112 = .ok (.getfield 56, 3) := by decide +kernel
theorem d0_115 : decode (jm_b 0) 115 = .ok (.invokespecial 71, 3) := by decide +kernel
theorem d0_118 : decode (jm_b 0) 118 = .ok (.putfield 72, 3) := by decide +kernel
theorem d0_121 : decode (jm_b 0) 121 = .ok (.aload_n 0, 1) := by decide +kernel
theorem d0_122 : decode (jm_b 0) 122 = .ok (.new 76, 3) := by decide +kernel
theorem d0_125 : decode (jm_b 0) 125 = .ok (.dup, 1) := by decide +kernel
theorem d0_126 : decode (jm_b 0) 126 = .ok (.invokespecial 78, 3) := by decide +kernel
theorem d0_129 : decode (jm_b 0) 129 = .ok (.putfield 79, 3) := by decide +kernel
theorem d0_132 : decode (jm_b 0) 132 = .ok (.iconst 0, 1) := by decide +kernel
theorem d0_133 : decode (jm_b 0) 133 = .ok (.istore_n 1, 1) := by decide +kernel
theorem d0_134 : decode (jm_b 0) 134 = .ok (.iload_n 1, 1) := by decide +kernel
theorem d0_135 : decode (jm_b 0) 135 = .ok (.bipush 6, 2) := by decide +kernel
theorem d0_137 : decode (jm_b 0) 137 = .ok (.if_icmp .ge 22, 3) := by decide +kernel
theorem d0_140 : decode (jm_b 0) 140 = .ok (.aload_n 0, 1) := by decide +kernel
theorem d0_141 : decode (jm_b 0) 141 = .ok (.getfield 34, 3) := by decide +kernel
theorem d0_144 : decode (jm_b 0) 144 = .ok (.iload_n 1, 1) := by decide +kernel
theorem d0_145 : decode (jm_b 0) 145 = .ok (.new 32, 3) := by decide +kernel
theorem d0_148 : decode (jm_b 0) 148 = .ok (.dup, 1) := by decide +kernel
theorem d0_149 : decode (jm_b 0) 149 = .ok (.invokespecial 83, 3) := by decide +kernel
theorem d0_152 : decode (jm_b 0) 152 = .ok (.aastore, 1) := by decide +kernel
theorem d0_153 : decode (jm_b 0) 153 = .ok (.iinc 1 1, 3) := by decide +kernel
theorem d0_156 : decode (jm_b 0) 156 = .ok (.goto (-22), 3) := by decide +kernel
theorem d0_159 : decode (jm_b 0) 159 = .ok (.iconst 0, 1) := by decide +kernel
theorem d0_160 : decode (jm_b 0) 160 = .ok (.istore_n 1, 1) := by decide +kernel
theorem d0_161 : decode (jm_b 0) 161 = .ok (.iload_n 1, 1) := by decide +kernel
theorem d0_162 : decode (jm_b 0) 162 = .ok (.iconst 4, 1) := by decide +kernel
theorem d0_163 : decode (jm_b 0) 163 = .ok (.if_icmp .ge 22, 3) := by decide +kernel
theorem d0_166 : decode (jm_b 0) 166 = .ok (.aload_n 0, 1) := by decide +kernel
theorem d0_167 : decode (jm_b 0) 167 = .ok (.getfield 45, 3) := by decide +kernel
theorem d0_170 : decode (jm_b 0) 170 = .ok (.iload_n 1, 1) := by decide +kernel
theorem d0_171 : decode (jm_b 0) 171 = .ok (.new 38, 3) := by decide +kernel
theorem d0_174 : decode (jm_b 0) 174 = .ok (.dup, 1) := by decide +kernel
theorem d0_175 : decode (jm_b 0) 175 = .ok (.invokespecial 40, 3) := by decide +kernel
theorem d0_178 : decode (jm_b 0) 178 = .ok (.aastore, 1) := by decide +kernel
theorem d0_179 : decode (jm_b 0) 179 = .ok (.iinc 1 1, 3) := by decide +kernel
theorem d0_182 : decode (jm_b 0) 182 = .ok (.goto (-21), 3) := by decide +kernel
theorem d0_185 : decode (jm_b 0) 185 = .ok (.return_, 1) := by decide +kernel
theorem d1000_0 : decode (jm_b 1000) 0 = .ok (.aload_n 0, 1) := by decide +kernel
theorem d1000_1 : decode (jm_b 1000) 1 = .ok (.invokespecial 3, 3) := by decide +kernel
theorem d1000_4 : decode (jm_b 1000) 4 = .ok (.aload_n 0, 1) := by decide +kernel
theorem d1000_5 : decode (jm_b 1000) 5 = .ok (.sipush 400, 3) := by decide +kernel
theorem d1000_8 : decode (jm_b 1000) 8 = .ok (.newarray .int, 2) := by decide +kernel
theorem d1000_10 : decode (jm_b 1000) 10 = .ok (.putfield 9, 3) := by decide +kernel
theorem d1000_13 : decode (jm_b 1000) 13 = .ok (.return_, 1) := by decide +kernel
theorem d2000_0 : decode (jm_b 2000) 0 = .ok (.aload_n 0, 1) := by decide +kernel
theorem d2000_1 : decode (jm_b 2000) 1 = .ok (.invokespecial 3, 3) := by decide +kernel
theorem d2000_4 : decode (jm_b 2000) 4 = .ok (.aload_n 0, 1) := by decide +kernel
theorem d2000_5 : decode (jm_b 2000) 5 = .ok (.new 9, 3) := by decide +kernel
theorem d2000_8 : decode (jm_b 2000) 8 = .ok (.dup, 1) := by decide +kernel
theorem d2000_9 : decode (jm_b 2000) 9 = .ok (.invokespecial 11, 3) := by decide +kernel
theorem d2000_12 : decode (jm_b 2000) 12 = .ok (.putfield 12, 3) := by decide +kernel
theorem d2000_15 : decode (jm_b 2000) 15 = .ok (.aload_n 0, 1) := by decide +kernel
theorem d2000_16 : decode (jm_b 2000) 16 = .ok (.aload_n 1, 1) := by decide +kernel
theorem d2000_17 : decode (jm_b 2000) 17 = .ok (.putfield 18, 3) := by decide +kernel
theorem d2000_20 : decode (jm_b 2000) 20 = .ok (.return_, 1) := by decide +kernel
theorem d3000_0 : decode (jm_b 3000) 0 = .ok (.aload_n 0, 1) := by decide +kernel
theorem d3000_1 : decode (jm_b 3000) 1 = .ok (.invokespecial 3, 3) := by decide +kernel
theorem d3000_4 : decode (jm_b 3000) 4 = .ok (.aload_n 0, 1) := by decide +kernel
theorem d3000_5 : decode (jm_b 3000) 5 = .ok (.bipush 100, 2) := by decide +kernel
theorem d3000_7 : decode (jm_b 3000) 7 = .ok (.newarray .int, 2) := by decide +kernel
theorem d3000_9 : decode (jm_b 3000) 9 = .ok (.putfield 9, 3) := by decide +kernel
theorem d3000_12 : decode (jm_b 3000) 12 = .ok (.aload_n 0, 1) := by decide +kernel
theorem d3000_13 : decode (jm_b 3000) 13 = .ok (.bipush 8, 2) := by decide +kernel
theorem d3000_15 : decode (jm_b 3000) 15 = .ok (.newarray .int, 2) := by decide +kernel
theorem d3000_17 : decode (jm_b 3000) 17 = .ok (.putfield 15, 3) := by decide +kernel
theorem d3000_20 : decode (jm_b 3000) 20 = .ok (.aload_n 0, 1) := by decide +kernel
theorem d3000_21 : decode (jm_b 3000) 21 = .ok (.bipush 8, 2) := by decide +kernel
theorem d3000_23 : decode (jm_b 3000) 23 = .ok (.newarray .int, 2) := by decide +kernel
theorem d3000_25 : decode (jm_b 3000) 25 = .ok (.putfield 18, 3) := by decide +kernel
theorem d3000_28 : decode (jm_b 3000) 28 = .ok (.aload_n 0, 1) := by decide +kernel
theorem d3000_29 : decode (jm_b 3000) 29 = .ok (.bipush 8, 2) := by decide +kernel
theorem d3000_31 : decode (jm_b 3000) 31 = .ok (.newarray .int, 2) := by decide +kernel
theorem d3000_33 : decode (jm_b 3000) 33 = .ok (.putfield 21, 3) := by decide +kernel
theorem d3000_36 : decode (jm_b 3000) 36 = .ok (.aload_n 0, 1) := by decide +kernel
theorem d3000_37 : decode (jm_b 3000) 37 = .ok (.bipush 10, 2) := by decide +kernel
theorem d3000_39 : decode (jm_b 3000) 39 = .ok (.newarray .int, 2) := by decide +kernel
theorem d3000_41 : decode (jm_b 3000) 41 = .ok (.putfield 24, 3) := by decide +kernel
theorem d3000_44 : decode (jm_b 3000) 44 = .ok (.aload_n 0, 1) := by decide +kernel
theorem d3000_45 : decode (jm_b 3000) 45 = .ok (.bipush 8, 2) := by decide +kernel
theorem d3000_47 : decode (jm_b 3000) 47 = .ok (.newarray .int, 2) := by decide +kernel
theorem d3000_49 : decode (jm_b 3000) 49 = .ok (.putfield 27, 3) := by decide +kernel
theorem d3000_52 : decode (jm_b 3000) 52 = .ok (.aload_n 0, 1) := by decide +kernel
theorem d3000_53 : decode (jm_b 3000) 53 = .ok (.bipush 8, 2) := by decide +kernel
theorem d3000_55 : decode (jm_b 3000) 55 = .ok (.newarray .int, 2) := by decide +kernel
theorem d3000_57 : decode (jm_b 3000) 57 = .ok (.putfield 30, 3) := by decide +kernel
theorem d3000_60 : decode (jm_b 3000) 60 = .ok (.aload_n 0, 1) := by decide +kernel
theorem d3000_61 : decode (jm_b 3000) 61 = .ok (.new 33, 3) := by decide +kernel
theorem d3000_64 : decode (jm_b 3000) 64 = .ok (.dup, 1) := by decide +kernel
theorem d3000_65 : decode (jm_b 3000) 65 = .ok (.invokespecial 35, 3) := by decide +kernel
theorem d3000_68 : decode (jm_b 3000) 68 = .ok (.putfield 36, 3) := by decide +kernel
theorem d3000_71 : decode (jm_b 3000) 71 = .ok (.return_, 1) := by decide +kernel
theorem d4000_0 : decode (jm_b 4000) 0 = .ok (.aload_n 0, 1) := by decide +kernel
theorem d4000_1 : decode (jm_b 4000) 1 = .ok (.invokespecial 3, 3) := by decide +kernel
theorem d4000_4 : decode (jm_b 4000) 4 = .ok (.aload_n 0, 1) := by decide +kernel
theorem d4000_5 : decode (jm_b 4000) 5 = .ok (.bipush 10, 2) := by decide +kernel
theorem d4000_7 : decode (jm_b 4000) 7 = .ok (.newarray .int, 2) := by decide +kernel
theorem d4000_9 : decode (jm_b 4000) 9 = .ok (.putfield 9, 3) := by decide +kernel
theorem d4000_12 : decode (jm_b 4000) 12 = .ok (.aload_n 0, 1) := by decide +kernel
theorem d4000_13 : decode (jm_b 4000) 13 = .ok (.bipush 10, 2) := by decide +kernel
theorem d4000_15 : decode (jm_b 4000) 15 = .ok (.newarray .int, 2) := by decide +kernel
theorem d4000_17 : decode (jm_b 4000) 17 = .ok (.putfield 15, 3) := by decide +kernel
theorem d4000_20 : decode (jm_b 4000) 20 = .ok (.aload_n 0, 1) := by decide +kernel
theorem d4000_21 : decode (jm_b 4000) 21 = .ok (.bipush 10, 2) := by decide +kernel
theorem d4000_23 : decode (jm_b 4000) 23 = .ok (.newarray .int, 2) := by decide +kernel
theorem d4000_25 : decode (jm_b 4000) 25 = .ok (.putfield 18, 3) := by decide +kernel
theorem d4000_28 : decode (jm_b 4000) 28 = .ok (.aload_n 0, 1) := by decide +kernel
theorem d4000_29 : decode (jm_b 4000) 29 = .ok (.bipush 8, 2) := by decide +kernel
theorem d4000_31 : decode (jm_b 4000) 31 = .ok (.newarray .int, 2) := by decide +kernel
theorem d4000_33 : decode (jm_b 4000) 33 = .ok (.putfield 21, 3) := by decide +kernel
theorem d4000_36 : decode (jm_b 4000) 36 = .ok (.return_, 1) := by decide +kernel
theorem d6000_0 : decode (jm_b 6000) 0 = .ok (.aload_n 0, 1) := by decide +kernel
theorem d6000_1 : decode (jm_b 6000) 1 = .ok (.invokespecial 1, 3) := by decide +kernel
theorem d6000_4 : decode (jm_b 6000) 4 = .ok (.aload_n 0, 1) := by decide +kernel
theorem d6000_5 : decode (jm_b 6000) 5 = .ok (.new 7, 3) := by decide +kernel
theorem d6000_8 : decode (jm_b 6000) 8 = .ok (.dup, 1) := by decide +kernel
theorem d6000_9 : decode (jm_b 6000) 9 = .ok (.invokespecial 9, 3) := by decide +kernel
theorem d6000_12 : decode (jm_b 6000) 12 = .ok (.putfield 10, 3) := by decide +kernel
theorem d6000_15 : decode (jm_b 6000) 15 = .ok (.aload_n 0, 1) := by decide +kernel
theorem d6000_16 : decode (jm_b 6000) 16 = .ok (.aload_n 1, 1) := by decide +kernel
theorem d6000_17 : decode (jm_b 6000) 17 = .ok (.putfield 16, 3) := by decide +kernel
theorem d6000_20 : decode (jm_b 6000) 20 = .ok (.return_, 1) := by decide +kernel
theorem d5000_0 : decode (jm_b 5000) 0 = .ok (.aload_n 0, 1) := by decide +kernel
theorem d5000_1 : decode (jm_b 5000) 1 = .ok (.invokespecial 3, 3) := by decide +kernel
theorem d5000_4 : decode (jm_b 5000) 4 = .ok (.aload_n 0, 1) := by decide +kernel
theorem d5000_5 : decode (jm_b 5000) 5 = .ok (.sipush 400, 3) := by decide +kernel
theorem d5000_8 : decode (jm_b 5000) 8 = .ok (.newarray .int, 2) := by decide +kernel
theorem d5000_10 : decode (jm_b 5000) 10 = .ok (.putfield 9, 3) := by decide +kernel
theorem d5000_13 : decode (jm_b 5000) 13 = .ok (.aload_n 0, 1) := by decide +kernel
theorem d5000_14 : decode (jm_b 5000) 14 = .ok (.bipush 12, 2) := by decide +kernel
theorem d5000_16 : decode (jm_b 5000) 16 = .ok (.newarray .int, 2) := by decide +kernel
theorem d5000_18 : decode (jm_b 5000) 18 = .ok (.putfield 15, 3) := by decide +kernel
theorem d5000_21 : decode (jm_b 5000) 21 = .ok (.aload_n 0, 1) := by decide +kernel
theorem d5000_22 : decode (jm_b 5000) 22 = .ok (.bipush 12, 2) := by decide +kernel
theorem d5000_24 : decode (jm_b 5000) 24 = .ok (.newarray .int, 2) := by decide +kernel
theorem d5000_26 : decode (jm_b 5000) 26 = .ok (.putfield 18, 3) := by decide +kernel
theorem d5000_29 : decode (jm_b 5000) 29 = .ok (.aload_n 0, 1) := by decide +kernel
theorem d5000_30 : decode (jm_b 5000) 30 = .ok (.bipush 12, 2) := by decide +kernel
theorem d5000_32 : decode (jm_b 5000) 32 = .ok (.newarray .int, 2) := by decide +kernel
theorem d5000_34 : decode (jm_b 5000) 34 = .ok (.putfield 21, 3) := by decide +kernel
theorem d5000_37 : decode (jm_b 5000) 37 = .ok (.aload_n 0, 1) := by decide +kernel
theorem d5000_38 : decode (jm_b 5000) 38 = .ok (.bipush 60, 2) := by decide +kernel
theorem d5000_40 : decode (jm_b 5000) 40 = .ok (.newarray .long, 2) := by decide +kernel
theorem d5000_42 : decode (jm_b 5000) 42 = .ok (.putfield 24, 3) := by decide +kernel
theorem d5000_45 : decode (jm_b 5000) 45 = .ok (.return_, 1) := by decide +kernel
theorem d7000_0 : decode (jm_b 7000) 0 = .ok (.aload_n 0, 1) := by decide +kernel
theorem d7000_1 : decode (jm_b 7000) 1 = .ok (.invokespecial 3, 3) := by decide +kernel
theorem d7000_4 : decode (jm_b 7000) 4 = .ok (.aload_n 0, 1) := by decide +kernel
theorem d7000_5 : decode (jm_b 7000) 5 = .ok (.new 9, 3) := by decide +kernel
theorem d7000_8 : decode (jm_b 7000) 8 = .ok (.dup, 1) := by decide +kernel
theorem d7000_9 : decode (jm_b 7000) 9 = .ok (.invokespecial 11, 3) := by decide +kernel
theorem d7000_12 : decode (jm_b 7000) 12 = .ok (.putfield 12, 3) := by decide +kernel
theorem d7000_15 : decode (jm_b 7000) 15 = .ok (.aload_n 0, 1) := by decide +kernel
theorem d7000_16 : decode (jm_b 7000) 16 = .ok (.new 18, 3) := by decide +kernel
theorem d7000_19 : decode (jm_b 7000) 19 = .ok (.dup, 1) := by decide +kernel
theorem d7000_20 : decode (jm_b 7000) 20 = .ok (.invokespecial 20, 3) := by decide +kernel
theorem d7000_23 : decode (jm_b 7000) 23 = .ok (.putfield 21, 3) := by decide +kernel
theorem d7000_26 : decode (jm_b 7000) 26 = .ok (.aload_n 0, 1) := by decide +kernel
theorem d7000_27 : decode (jm_b 7000) 27 = .ok (.iconst (-1), 1) := by decide +kernel
theorem d7000_28 : decode (jm_b 7000) 28 = .ok (.putfield 25, 3) := by decide +kernel
theorem d7000_31 : decode (jm_b 7000) 31 = .ok (.aload_n 0, 1) := by decide +kernel
theorem d7000_32 : decode (jm_b 7000) 32 = .ok (.bipush 10, 2) := by decide +kernel
theorem d7000_34 : decode (jm_b 7000) 34 = .ok (.newarray .int, 2) := by decide +kernel
theorem d7000_36 : decode (jm_b 7000) 36 = .ok (.putfield 29, 3) := by decide +kernel
theorem d7000_39 : decode (jm_b 7000) 39 = .ok (.aload_n 0, 1) := by decide +kernel
theorem d7000_40 : decode (jm_b 7000) 40 = .ok (.bipush 10, 2) := by decide +kernel
theorem d7000_42 : decode (jm_b 7000) 42 = .ok (.newarray .int, 2) := by decide +kernel
theorem d7000_44 : decode (jm_b 7000) 44 = .ok (.putfield 33, 3) := by decide +kernel
theorem d7000_47 : decode (jm_b 7000) 47 = .ok (.aload_n 0, 1) := by decide +kernel
theorem d7000_48 : decode (jm_b 7000) 48 = .ok (.bipush 10, 2) := by decide +kernel
theorem d7000_50 : decode (jm_b 7000) 50 = .ok (.newarray .int, 2) := by decide +kernel
theorem d7000_52 : decode (jm_b 7000) 52 = .ok (.putfield 36, 3) := by decide +kernel
theorem d7000_55 : decode (jm_b 7000) 55 = .ok (.aload_n 0, 1) := by decide +kernel
theorem d7000_56 : decode (jm_b 7000) 56 = .ok (.sipush 800, 3) := by decide +kernel
theorem d7000_59 : decode (jm_b 7000) 59 = .ok (.newarray .int, 2) := by decide +kernel
theorem d7000_61 : decode (jm_b 7000) 61 = .ok (.putfield 39, 3) := by decide +kernel
theorem d7000_64 : decode (jm_b 7000) 64 = .ok (.return_, 1) := by decide +kernel
theorem d8000_0 : decode (jm_b 8000) 0 = .ok (.aload_n 0, 1) := by decide +kernel
theorem d8000_1 : decode (jm_b 8000) 1 = .ok (.invokespecial 3, 3) := by decide +kernel
theorem d8000_4 : decode (jm_b 8000) 4 = .ok (.aload_n 0, 1) := by decide +kernel
theorem d8000_5 : decode (jm_b 8000) 5 = .ok (.new 9, 3) := by decide +kernel
theorem d8000_8 : decode (jm_b 8000) 8 = .ok (.dup, 1) := by decide +kernel
theorem d8000_9 : decode (jm_b 8000) 9 = .ok (.invokespecial 11, 3) := by decide +kernel
theorem d8000_12 : decode (jm_b 8000) 12 = .ok (.putfield 12, 3) := by decide +kernel
theorem d8000_15 : decode (jm_b 8000) 15 = .ok (.aload_n 0, 1) := by decide +kernel
theorem d8000_16 : decode (jm_b 8000) 16 = .ok (.bipush 10, 2) := by decide +kernel
theorem d8000_18 : decode (jm_b 8000) 18 = .ok (.newarray .int, 2) := by decide +kernel
theorem d8000_20 : decode (jm_b 8000) 20 = .ok (.putfield 18, 3) := by decide +kernel
theorem d8000_23 : decode (jm_b 8000) 23 = .ok (.aload_n 0, 1) := by decide +kernel
theorem d8000_24 : decode (jm_b 8000) 24 = .ok (.bipush 12, 2) := by decide +kernel
theorem d8000_26 : decode (jm_b 8000) 26 = .ok (.newarray .long, 2) := by decide +kernel
theorem d8000_28 : decode (jm_b 8000) 28 = .ok (.putfield 24, 3) := by decide +kernel
theorem d8000_31 : decode (jm_b 8000) 31 = .ok (.return_, 1) := by decide +kernel
theorem d9000_0 : decode (jm_b 9000) 0 = .ok (.aload_n 0, 1) := by decide +kernel
theorem d9000_1 : decode (jm_b 9000) 1 = .ok (.invokespecial 3, 3) := by decide +kernel
theorem d9000_4 : decode (jm_b 9000) 4 = .ok (.aload_n 0, 1) := by decide +kernel
theorem d9000_5 : decode (jm_b 9000) 5 = .ok (.new 9, 3) := by decide +kernel
theorem d9000_8 : decode (jm_b 9000) 8 = .ok (.dup, 1) := by decide +kernel
theorem d9000_9 : decode (jm_b 9000) 9 = .ok (.invokespecial 11, 3) := by decide +kernel
theorem d9000_12 : decode (jm_b 9000) 12 = .ok (.putfield 12, 3) := by decide +kernel
theorem d9000_15 : decode (jm_b 9000) 15 = .ok (.aload_n 0, 1) := by decide +kernel
theorem d9000_16 : decode (jm_b 9000) 16 = .ok (.new 9, 3) := by decide +kernel
theorem d9000_19 : decode (jm_b 9000) 19 = .ok (.dup, 1) := by decide +kernel
theorem d9000_20 : decode (jm_b 9000) 20 = .ok (.invokespecial 11, 3) := by decide +kernel
theorem d9000_23 : decode (jm_b 9000) 23 = .ok (.putfield 18, 3) := by decide +kernel
theorem d9000_26 : decode (jm_b 9000) 26 = .ok (.aload_n 0, 1) := by decide +kernel
theorem d9000_27 : decode (jm_b 9000) 27 = .ok (.bipush 110, 2) := by decide +kernel
theorem d9000_29 : decode (jm_b 9000) 29 = .ok (.newarray .int, 2) := by decide +kernel
theorem d9000_31 : decode (jm_b 9000) 31 = .ok (.putfield 21, 3) := by decide +kernel
theorem d9000_34 : decode (jm_b 9000) 34 = .ok (.aload_n 0, 1) := by decide +kernel
theorem d9000_35 : decode (jm_b 9000) 35 = .ok (.aload_n 1, 1) := by decide +kernel
theorem d9000_36 : decode (jm_b 9000) 36 = .ok (.putfield 25, 3) := by decide +kernel
theorem d9000_39 : decode (jm_b 9000) 39 = .ok (.return_, 1) := by decide +kernel
theorem d10000_0 : decode (jm_b 10000) 0 = .ok (.aload_n 0, 1) := by decide +kernel
theorem d10000_1 : decode (jm_b 10000) 1 = .ok (.invokespecial 3, 3) := by decide +kernel
theorem d10000_4 : decode (jm_b 10000) 4 = .ok (.aload_n 0, 1) := by decide +kernel
theorem d10000_5 : decode (jm_b 10000) 5 = .ok (.iconst 5, 1) := by decide +kernel
theorem d10000_6 : decode (jm_b 10000) 6 = .ok (.anewarray 9, 3) := by decide +kernel
theorem d10000_9 : decode (jm_b 10000) 9 = .ok (.putfield 11, 3) := by decide +kernel
theorem d10000_12 : decode (jm_b 10000) 12 = .ok (.aload_n 0, 1) := by decide +kernel
theorem d10000_13 : decode (jm_b 10000) 13 = .ok (.iconst 3, 1) := by decide +kernel
theorem d10000_14 : decode (jm_b 10000) 14 = .ok (.newarray .int, 2) := by decide +kernel
theorem d10000_16 : decode (jm_b 10000) 16 = .ok (.putfield 17, 3) := by decide +kernel
theorem d10000_19 : decode (jm_b 10000) 19 = .ok (.aload_n 0, 1) := by decide +kernel
theorem d10000_20 : decode (jm_b 10000) 20 = .ok (.aload_n 1, 1) := by decide +kernel
theorem d10000_21 : decode (jm_b 10000) 21 = .ok (.putfield 21, 3) := by decide +kernel
theorem d10000_24 : decode (jm_b 10000) 24 = .ok (.iconst 0, 1) := by decide +kernel
theorem d10000_25 : decode (jm_b 10000) 25 = .ok (.istore_n 2, 1) := by decide +kernel
theorem d10000_26 : decode (jm_b 10000) 26 = .ok (.iload_n 2, 1) := by decide +kernel
theorem d10000_27 : decode (jm_b 10000) 27 = .ok (.aload_n 0, 1) := by decide +kernel
theorem d10000_28 : decode (jm_b 10000) 28 = .ok (.getfield 11, 3) := by decide +kernel
theorem d10000_31 : decode (jm_b 10000) 31 = .ok (.arraylength, 1) := by decide +kernel
theorem d10000_32 : decode (jm_b 10000) 32 = .ok (.if_icmp .ge 22, 3) := by decide +kernel
theorem d10000_35 : decode (jm_b 10000) 35 = .ok (.aload_n 0, 1) := by decide +kernel
theorem d10000_36 : decode (jm_b 10000) 36 = .ok (.getfield 11, 3) := by decide +kernel
theorem d10000_39 : decode (jm_b 10000) 39 = .ok (.iload_n 2, 1) := by decide +kernel
theorem d10000_40 : decode (jm_b 10000) 40 = .ok (.new 9, 3) := by decide +kernel
theorem d10000_43 : decode (jm_b 10000) 43 = .ok (.dup, 1) := by decide +kernel
theorem d10000_44 : decode (jm_b 10000) 44 = .ok (.invokespecial 25, 3) := by decide +kernel
theorem d10000_47 : decode (jm_b 10000) 47 = .ok (.aastore, 1) := by decide +kernel
theorem d10000_48 : decode (jm_b 10000) 48 = .ok (.iinc 2 1, 3) := by decide +kernel
theorem d10000_51 : decode (jm_b 10000) 51 = .ok (.goto (-25), 3) := by decide +kernel
theorem d10000_54 : decode (jm_b 10000) 54 = .ok (.return_, 1) := by decide +kernel
theorem d11000_0 : decode (jm_b 11000) 0 = .ok (.aload_n 0, 1) := by decide +kernel
theorem d11000_1 : decode (jm_b 11000) 1 = .ok (.invokespecial 3, 3) := by decide +kernel
theorem d11000_4 : decode (jm_b 11000) 4 = .ok (.aload_n 0, 1) := by decide +kernel
theorem d11000_5 : decode (jm_b 11000) 5 = .ok (.sipush 310, 3) := by decide +kernel
theorem d11000_8 : decode (jm_b 11000) 8 = .ok (.newarray .int, 2) := by decide +kernel
theorem d11000_10 : decode (jm_b 11000) 10 = .ok (.putfield 11, 3) := by decide +kernel
theorem d11000_13 : decode (jm_b 11000) 13 = .ok (.aload_n 0, 1) := by decide +kernel
theorem d11000_14 : decode (jm_b 11000) 14 = .ok (.sipush 300, 3) := by decide +kernel
theorem d11000_17 : decode (jm_b 11000) 17 = .ok (.newarray .int, 2) := by decide +kernel
theorem d11000_19 : decode (jm_b 11000) 19 = .ok (.putfield 15, 3) := by decide +kernel
theorem d11000_22 : decode (jm_b 11000) 22 = .ok (.aload_n 0, 1) := by decide +kernel
theorem d11000_23 : decode (jm_b 11000) 23 = .ok (.sipush 300, 3) := by decide +kernel
theorem d11000_26 : decode (jm_b 11000) 26 = .ok (.newarray .int, 2) := by decide +kernel
theorem d11000_28 : decode (jm_b 11000) 28 = .ok (.putfield 18, 3) := by decide +kernel
theorem d11000_31 : decode (jm_b 11000) 31 = .ok (.aload_n 0, 1) := by decide +kernel
theorem d11000_32 : decode (jm_b 11000) 32 = .ok (.bipush 100, 2) := by decide +kernel
theorem d11000_34 : decode (jm_b 11000) 34 = .ok (.newarray .int, 2) := by decide +kernel
theorem d11000_36 : decode (jm_b 11000) 36 = .ok (.putfield 21, 3) := by decide +kernel
theorem d11000_39 : decode (jm_b 11000) 39 = .ok (.aload_n 0, 1) := by decide +kernel
theorem d11000_40 : decode (jm_b 11000) 40 = .ok (.new 24, 3) := by decide +kernel
theorem d11000_43 : decode (jm_b 11000) 43 = .ok (.dup, 1) := by decide +kernel
theorem d11000_44 : decode (jm_b 11000) 44 = .ok (.invokespecial 26, 3) := by decide +kernel
theorem d11000_47 : decode (jm_b 11000) 47 = .ok (.putfield 27, 3) := by decide +kernel
theorem d11000_50 : decode (jm_b 11000) 50 = .ok (.return_, 1) := by decide +kernel
theorem d1_0 : decode (jm_b 1) 0 = .ok (.aload_n 0, 1) := by decide +kernel
theorem d1_1 : decode (jm_b 1) 1 = .ok (.getfield 10, 3) := by decide +kernel
theorem d1_4 : decode (jm_b 1) 4 = .ok (.getfield 84, 3) := by decide +kernel
theorem d1_7 : decode (jm_b 1) 7 = .ok (.sipush 380, 3) := by decide +kernel
theorem d1_10 : decode (jm_b 1) 10 = .ok (.if_icmp .le 5, 3) := by decide +kernel
theorem d1_13 : decode (jm_b 1) 13 = .ok (.iconst (-1), 1) := by decide +kernel
theorem d1_14 : decode (jm_b 1) 14 = .ok (.ireturn, 1) := by decide +kernel
theorem d1_15 : decode (jm_b 1) 15 = .ok (.aload_n 0, 1) := by decide +kernel
theorem d1_16 : decode (jm_b 1) 16 = .ok (.getfield 10, 3) := by decide +kernel
theorem d1_19 : decode (jm_b 1) 19 = .ok (.iload_n 1, 1) := by decide +kernel
theorem d1_20 : decode (jm_b 1) 20 = .ok (.invokevirtual 88, 3) := by decide +kernel
theorem d1_23 : decode (jm_b 1) 23 = .ok (.aload_n 0, 1) := by decide +kernel
theorem d1_24 : decode (jm_b 1) 24 = .ok (.getfield 10, 3) := by decide +kernel
theorem d1_27 : decode (jm_b 1) 27 = .ok (.iload_n 2, 1) := by decide +kernel
theorem d1_28 : decode (jm_b 1) 28 = .ok (.invokevirtual 88, 3) := by decide +kernel
theorem d1_31 : decode (jm_b 1) 31 = .ok (.aload_n 0, 1) := by decide +kernel
theorem d1_32 : decode (jm_b 1) 32 = .ok (.getfield 10, 3) := by decide +kernel
theorem d1_35 : decode (jm_b 1) 35 = .ok (.iload_n 3, 1) := by decide +kernel
theorem d1_36 : decode (jm_b 1) 36 = .ok (.invokevirtual 88, 3) := by decide +kernel
theorem d1_39 : decode (jm_b 1) 39 = .ok (.aload_n 0, 1) := by decide +kernel
theorem d1_40 : decode (jm_b 1) 40 = .ok (.getfield 10, 3) := by decide +kernel
theorem d1_43 : decode (jm_b 1) 43 = .ok (.iload 4, 2) := by decide +kernel
theorem d1_45 : decode (jm_b 1) 45 = .ok (.invokevirtual 88, 3) := by decide +kernel
theorem d1_48 : decode (jm_b 1) 48 = .ok (.aload_n 0, 1) := by decide +kernel
theorem d1_49 : decode (jm_b 1) 49 = .ok (.getfield 10, 3) := by decide +kernel
theorem d1_52 : decode (jm_b 1) 52 = .ok (.iload 5, 2) := by decide +kernel
theorem d1_54 : decode (jm_b 1) 54 = .ok (.invokevirtual 88, 3) := by decide +kernel
theorem d1_57 : decode (jm_b 1) 57 = .ok (.aload_n 0, 1) := by decide +kernel
theorem d1_58 : decode (jm_b 1) 58 = .ok (.getfield 10, 3) := by decide +kernel
theorem d1_61 : decode (jm_b 1) 61 = .ok (.getfield 84, 3) := by decide +kernel
theorem d1_64 : decode (jm_b 1) 64 = .ok (.ireturn, 1) := by decide +kernel
theorem d1001_0 : decode (jm_b 1001) 0 = .ok (.bipush 24, 2) := by decide +kernel
theorem d1001_2 : decode (jm_b 1001) 2 = .ok (.istore_n 2, 1) := by decide +kernel
theorem d1001_3 : decode (jm_b 1001) 3 = .ok (.iload_n 2, 1) := by decide +kernel
theorem d1001_4 : decode (jm_b 1001) 4 = .ok (.ifCond .lt 45, 3) := by decide +kernel
theorem d1001_7 : decode (jm_b 1001) 7 = .ok (.aload_n 0, 1) := by decide +kernel
theorem d1001_8 : decode (jm_b 1001) 8 = .ok (.getfield 15, 3) := by decide +kernel
theorem d1001_11 : decode (jm_b 1001) 11 = .ok (.sipush 400, 3) := by decide +kernel
theorem d1001_14 : decode (jm_b 1001) 14 = .ok (.if_icmp .ge 35, 3) := by decide +kernel
theorem d1001_17 : decode (jm_b 1001) 17 = .ok (.aload_n 0, 1) := by decide +kernel
theorem d1001_18 : decode (jm_b 1001) 18 = .ok (.getfield 9, 3) := by decide +kernel
theorem d1001_21 : decode (jm_b 1001) 21 = .ok (.aload_n 0, 1) := by decide +kernel
theorem d1001_22 : decode (jm_b 1001) 22 = .ok (.getfield 15, 3) := by decide +kernel
theorem d1001_25 : decode (jm_b 1001) 25 = .ok (.iload_n 1, 1) := by decide +kernel
theorem d1001_26 : decode (jm_b 1001) 26 = .ok (.iload_n 2, 1) := by decide +kernel
theorem d1001_27 : decode (jm_b 1001) 27 = .ok (.ishr, 1) := by decide +kernel
theorem d1001_28 : decode (jm_b 1001) 28 = .ok (.sipush 255, 3) := by decide +kernel
theorem d1001_31 : decode (jm_b 1001) 31 = .ok (.iand, 1) := by decide +kernel
theorem d1001_32 : decode (jm_b 1001) 32 = .ok (.iastore, 1) := by decide +kernel
theorem d1001_33 : decode (jm_b 1001) 33 = .ok (.aload_n 0, 1) := by decide +kernel
theorem d1001_34 : decode (jm_b 1001) 34 = .ok (.dup, 1) := by decide +kernel
theorem d1001_35 : decode (jm_b 1001) 35 = .ok (.getfield 15, 3) := by decide +kernel
theorem d1001_38 : decode (jm_b 1001) 38 = .ok (.iconst 1, 1) := by decide +kernel
theorem d1001_39 : decode (jm_b 1001) 39 = .ok (.iadd, 1) := by decide +kernel
theorem d1001_40 : decode (jm_b 1001) 40 = .ok (.putfield 15, 3) := by decide +kernel
theorem d1001_43 : decode (jm_b 1001) 43 = .ok (.iinc 2 (-8), 3) := by decide +kernel
theorem d1001_46 : decode (jm_b 1001) 46 = .ok (.goto (-43), 3) := by decide +kernel
theorem d1001_49 : decode (jm_b 1001) 49 = .ok (.return_, 1) := by decide +kernel
theorem d2_0 : decode (jm_b 2) 0 = .ok (.iload_n 1, 1) := by decide +kernel
theorem d2_1 : decode (jm_b 2) 1 = .ok (.ifCond .lt 14, 3) := by decide +kernel
theorem d2_4 : decode (jm_b 2) 4 = .ok (.iload_n 1, 1) := by decide +kernel
theorem d2_5 : decode (jm_b 2) 5 = .ok (.aload_n 0, 1) := by decide +kernel
theorem d2_6 : decode (jm_b 2) 6 = .ok (.getfield 10, 3) := by decide +kernel
theorem d2_9 : decode (jm_b 2) 9 = .ok (.getfield 84, 3) := by decide +kernel
theorem d2_12 : decode (jm_b 2) 12 = .ok (.if_icmp .le 5, 3) := by decide +kernel
theorem d2_15 : decode (jm_b 2) 15 = .ok (.iconst (-1), 1) := by decide +kernel
theorem d2_16 : decode (jm_b 2) 16 = .ok (.ireturn, 1) := by decide +kernel
theorem d2_17 : decode (jm_b 2) 17 = .ok (.aload_n 0, 1) := by decide +kernel
theorem d2_18 : decode (jm_b 2) 18 = .ok (.getfield 10, 3) := by decide +kernel
theorem d2_21 : decode (jm_b 2) 21 = .ok (.iload_n 1, 1) := by decide +kernel
theorem d2_22 : decode (jm_b 2) 22 = .ok (.putfield 84, 3) := by decide +kernel
theorem d2_25 : decode (jm_b 2) 25 = .ok (.iload_n 1, 1) := by decide +kernel
theorem d2_26 : decode (jm_b 2) 26 = .ok (.ireturn, 1) := by decide +kernel
theorem d3_0 : decode (jm_b 3) 0 = .ok (.aload_n 0, 1) := by decide +kernel
theorem d3_1 : decode (jm_b 3) 1 = .ok (.getfield 21, 3) := by decide +kernel
theorem d3_4 : decode (jm_b 3) 4 = .ok (.invokevirtual 92, 3) := by decide +kernel
theorem d3_7 : decode (jm_b 3) 7 = .ok (.astore_n 1, 1) := by decide +kernel
theorem d3_8 : decode (jm_b 3) 8 = .ok (.aload_n 0, 1) := by decide +kernel
theorem d3_9 : decode (jm_b 3) 9 = .ok (.getfield 10, 3) := by decide +kernel
theorem d3_12 : decode (jm_b 3) 12 = .ok (.iconst 0, 1) := by decide +kernel
theorem d3_13 : decode (jm_b 3) 13 = .ok (.putfield 84, 3) := by decide +kernel
theorem d3_16 : decode (jm_b 3) 16 = .ok (.aload_n 0, 1) := by decide +kernel
theorem d3_17 : decode (jm_b 3) 17 = .ok (.getfield 10, 3) := by decide +kernel
theorem d3_20 : decode (jm_b 3) 20 = .ok (.getfield 96, 3) := by decide +kernel
theorem d3_23 : decode (jm_b 3) 23 = .ok (.ifCond .eq 14, 3) := by decide +kernel
theorem d3_26 : decode (jm_b 3) 26 = .ok (.bipush (-2), 2) := by decide +kernel
theorem d3_28 : decode (jm_b 3) 28 = .ok (.aload_n 0, 1) := by decide +kernel
theorem d3_29 : decode (jm_b 3) 29 = .ok (.getfield 10, 3) := by decide +kernel
theorem d3_32 : decode (jm_b 3) 32 = .ok (.getfield 96, 3) := by decide +kernel
theorem d3_35 : decode (jm_b 3) 35 = .ok (.isub, 1) := by decide +kernel
theorem d3_36 : decode (jm_b 3) 36 = .ok (.ireturn, 1) := by decide +kernel
theorem d3_37 : decode (jm_b 3) 37 = .ok (.aload_n 0, 1) := by decide +kernel
theorem d3_38 : decode (jm_b 3) 38 = .ok (.getfield 41, 3) := by decide +kernel
theorem d3_41 : decode (jm_b 3) 41 = .ok (.aload_n 1, 1) := by decide +kernel
theorem d3_42 : decode (jm_b 3) 42 = .ok (.invokevirtual 99, 3) := by decide +kernel
theorem d3_45 : decode (jm_b 3) 45 = .ok (.aload_n 0, 1) := by decide +kernel
theorem d3_46 : decode (jm_b 3) 46 = .ok (.invokevirtual 103, 3) := by decide +kernel
theorem d3_49 : decode (jm_b 3) 49 = .ok (.aload_n 1, 1) := by decide +kernel
theorem d3_50 : decode (jm_b 3) 50 = .ok (.getfield 106, 3) := by decide +kernel
theorem d3_53 : decode (jm_b 3) 53 = .ok (.ireturn, 1) := by decide +kernel
theorem d2001_0 : decode (jm_b 2001) 0 = .ok (.new 9, 3) := by decide +kernel
theorem d2001_3 : decode (jm_b 2001) 3 = .ok (.dup, 1) := by decide +kernel
theorem d2001_4 : decode (jm_b 2001) 4 = .ok (.invokespecial 11, 3) := by decide +kernel
theorem d2001_7 : decode (jm_b 2001) 7 = .ok (.astore_n 1, 1) := by decide +kernel
theorem d2001_8 : decode (jm_b 2001) 8 = .ok (.aload_n 0, 1) := by decide +kernel
theorem d2001_9 : decode (jm_b 2001) 9 = .ok (.aload_n 1, 1) := by decide +kernel
theorem d2001_10 : decode (jm_b 2001) 10 = .ok (.putfield 12, 3) := by decide +kernel
theorem d2001_13 : decode (jm_b 2001) 13 = .ok (.aload_n 0, 1) := by decide +kernel
theorem d2001_14 : decode (jm_b 2001) 14 = .ok (.getfield 18, 3) := by decide +kernel
theorem d2001_17 : decode (jm_b 2001) 17 = .ok (.invokevirtual 22, 3) := by decide +kernel
theorem d2001_20 : decode (jm_b 2001) 20 = .ok (.iconst 0, 1) := by decide +kernel
theorem d2001_21 : decode (jm_b 2001) 21 = .ok (.istore_n 2, 1) := by decide +kernel
theorem d2001_22 : decode (jm_b 2001) 22 = .ok (.iload_n 2, 1) := by decide +kernel
theorem d2001_23 : decode (jm_b 2001) 23 = .ok (.bipush 10, 2) := by decide +kernel
theorem d2001_25 : decode (jm_b 2001) 25 = .ok (.if_icmp .ge 20, 3) := by decide +kernel
theorem d2001_28 : decode (jm_b 2001) 28 = .ok (.aload_n 1, 1) := by decide +kernel
theorem d2001_29 : decode (jm_b 2001) 29 = .ok (.getfield 27, 3) := by decide +kernel
theorem d2001_32 : decode (jm_b 2001) 32 = .ok (.getfield 30, 3) := by decide +kernel
theorem d2001_35 : decode (jm_b 2001) 35 = .ok (.iload_n 2, 1) := by decide +kernel
theorem d2001_36 : decode (jm_b 2001) 36 = .ok (.bipush 10, 2) := by decide +kernel
theorem d2001_38 : decode (jm_b 2001) 38 = .ok (.iastore, 1) := by decide +kernel
theorem d2001_39 : decode (jm_b 2001) 39 = .ok (.iinc 2 1, 3) := by decide +kernel
theorem d2001_42 : decode (jm_b 2001) 42 = .ok (.goto (-20), 3) := by decide +kernel
theorem d2001_45 : decode (jm_b 2001) 45 = .ok (.iconst 1, 1) := by decide +kernel
theorem d2001_46 : decode (jm_b 2001) 46 = .ok (.istore_n 2, 1) := by decide +kernel
theorem d2001_47 : decode (jm_b 2001) 47 = .ok (.iconst 0, 1) := by decide +kernel
theorem d2001_48 : decode (jm_b 2001) 48 = .ok (.istore_n 3, 1) := by decide +kernel
theorem d2001_49 : decode (jm_b 2001) 49 = .ok (.iload_n 2, 1) := by decide +kernel
theorem d2001_50 : decode (jm_b 2001) 50 = .ok (.ifCond .eq 28, 3) := by decide +kernel
theorem d2001_53 : decode (jm_b 2001) 53 = .ok (.iload_n 3, 1) := by decide +kernel
theorem d2001_54 : decode (jm_b 2001) 54 = .ok (.bipush 40, 2) := by decide +kernel
theorem d2001_56 : decode (jm_b 2001) 56 = .ok (.if_icmp .gt 22, 3) := by decide +kernel
theorem d2001_59 : decode (jm_b 2001) 59 = .ok (.aload_n 0, 1) := by decide +kernel
theorem d2001_60 : decode (jm_b 2001) 60 = .ok (.iload_n 3, 1) := by decide +kernel
theorem d2001_61 : decode (jm_b 2001) 61 = .ok (.invokevirtual 36, 3) := by decide +kernel
theorem d2001_64 : decode (jm_b 2001) 64 = .ok (.aload_n 0, 1) := by decide +kernel
theorem d2001_65 : decode (jm_b 2001) 65 = .ok (.getfield 18, 3) := by decide +kernel
theorem d2001_68 : decode (jm_b 2001) 68 = .ok (.invokevirtual 40, 3) := by decide +kernel
theorem d2001_71 : decode (jm_b 2001) 71 = .ok (.istore_n 2, 1) := by decide +kernel
theorem d2001_72 : decode (jm_b 2001) 72 = .ok (.iinc 3 1, 3) := by decide +kernel
theorem d2001_75 : decode (jm_b 2001) 75 = .ok (.goto (-26), 3) := by decide +kernel
theorem d2001_78 : decode (jm_b 2001) 78 = .ok (.aload_n 1, 1) := by decide +kernel
theorem d2001_79 : decode (jm_b 2001) 79 = .ok (.areturn, 1) := by decide +kernel
theorem d1002_0 : decode (jm_b 1002) 0 = .ok (.aload_n 0, 1) := by decide +kernel
theorem d1002_1 : decode (jm_b 1002) 1 = .ok (.iconst 0, 1) := by decide +kernel
theorem d1002_2 : decode (jm_b 1002) 2 = .ok (.putfield 19, 3) := by decide +kernel
theorem d1002_5 : decode (jm_b 1002) 5 = .ok (.aload_n 0, 1) := by decide +kernel
theorem d1002_6 : decode (jm_b 1002) 6 = .ok (.iconst 0, 1) := by decide +kernel
theorem d1002_7 : decode (jm_b 1002) 7 = .ok (.putfield 22, 3) := by decide +kernel
theorem d1002_10 : decode (jm_b 1002) 10 = .ok (.aload_n 0, 1) := by decide +kernel
theorem d1002_11 : decode (jm_b 1002) 11 = .ok (.invokevirtual 25, 3) := by decide +kernel
theorem d1002_14 : decode (jm_b 1002) 14 = .ok (.return_, 1) := by decide +kernel
theorem d1003_0 : decode (jm_b 1003) 0 = .ok (.aload_n 0, 1) := by decide +kernel
theorem d1003_1 : decode (jm_b 1003) 1 = .ok (.getfield 22, 3) := by decide +kernel
theorem d1003_4 : decode (jm_b 1003) 4 = .ok (.ifCond .eq 4, 3) := by decide +kernel
theorem d1003_7 : decode (jm_b 1003) 7 = .ok (.return_, 1) := by decide +kernel
theorem d1003_8 : decode (jm_b 1003) 8 = .ok (.aload_n 0, 1) := by decide +kernel
theorem d1003_9 : decode (jm_b 1003) 9 = .ok (.aload_n 0, 1) := by decide +kernel
theorem d1003_10 : decode (jm_b 1003) 10 = .ok (.getfield 19, 3) := by decide +kernel
theorem d1003_13 : decode (jm_b 1003) 13 = .ok (.putfield 28, 3) := by decide +kernel
theorem d1003_16 : decode (jm_b 1003) 16 = .ok (.aload_n 0, 1) := by decide +kernel
theorem d1003_17 : decode (jm_b 1003) 17 = .ok (.getfield 28, 3) := by decide +kernel
theorem d1003_20 : decode (jm_b 1003) 20 = .ok (.aload_n 0, 1) := by decide +kernel
theorem d1003_21 : decode (jm_b 1003) 21 = .ok (.getfield 15, 3) := by decide +kernel
theorem d1003_24 : decode (jm_b 1003) 24 = .ok (.if_icmp .ge 30, 3) := by decide +kernel
theorem d1003_27 : decode (jm_b 1003) 27 = .ok (.aload_n 0, 1) := by decide +kernel
theorem d1003_28 : decode (jm_b 1003) 28 = .ok (.getfield 9, 3) := by decide +kernel
theorem d1003_31 : decode (jm_b 1003) 31 = .ok (.aload_n 0, 1) := by decide +kernel
theorem d1003_32 : decode (jm_b 1003) 32 = .ok (.getfield 28, 3) := by decide +kernel
theorem d1003_35 : decode (jm_b 1003) 35 = .ok (.iaload, 1) := by decide +kernel
theorem d1003_36 : decode (jm_b 1003) 36 = .ok (.bipush 32, 2) := by decide +kernel
theorem d1003_38 : decode (jm_b 1003) 38 = .ok (.if_icmp .ne 16, 3) := by decide +kernel
theorem d1003_41 : decode (jm_b 1003) 41 = .ok (.aload_n 0, 1) := by decide +kernel
theorem d1003_42 : decode (jm_b 1003) 42 = .ok (.dup, 1) := by decide +kernel
theorem d1003_43 : decode (jm_b 1003) 43 = .ok (.getfield 28, 3) := by decide +kernel
theorem d1003_46 : decode (jm_b 1003) 46 = .ok (.iconst 1, 1) := by decide +kernel
theorem d1003_47 : decode (jm_b 1003) 47 = .ok (.iadd, 1) := by decide +kernel
theorem d1003_48 : decode (jm_b 1003) 48 = .ok (.putfield 28, 3) := by decide +kernel
theorem d1003_51 : decode (jm_b 1003) 51 = .ok (.goto (-35), 3) := by decide +kernel
theorem d1003_54 : decode (jm_b 1003) 54 = .ok (.aload_n 0, 1) := by decide +kernel
theorem d1003_55 : decode (jm_b 1003) 55 = .ok (.aload_n 0, 1) := by decide +kernel
theorem d1003_56 : decode (jm_b 1003) 56 = .ok (.getfield 28, 3) := by decide +kernel
theorem d1003_59 : decode (jm_b 1003) 59 = .ok (.iconst 1, 1) := by decide +kernel
theorem d1003_60 : decode (jm_b 1003) 60 = .ok (.iadd, 1) := by decide +kernel
theorem d1003_61 : decode (jm_b 1003) 61 = .ok (.aload_n 0, 1) := by decide +kernel
theorem d1003_62 : decode (jm_b 1003) 62 = .ok (.getfield 15, 3) := by decide +kernel
theorem d1003_65 : decode (jm_b 1003) 65 = .ok (.invokestatic 31, 3) := by decide +kernel
theorem d1003_68 : decode (jm_b 1003) 68 = .ok (.putfield 19, 3) := by decide +kernel
theorem d1003_71 : decode (jm_b 1003) 71 = .ok (.aload_n 0, 1) := by decide +kernel
theorem d1003_72 : decode (jm_b 1003) 72 = .ok (.getfield 28, 3) := by decide +kernel
theorem d1003_75 : decode (jm_b 1003) 75 = .ok (.aload_n 0, 1) := by decide +kernel
theorem d1003_76 : decode (jm_b 1003) 76 = .ok (.getfield 15, 3) := by decide +kernel
theorem d1003_79 : decode (jm_b 1003) 79 = .ok (.if_icmp .lt 11, 3) := by decide +kernel
theorem d1003_82 : decode (jm_b 1003) 82 = .ok (.aload_n 0, 1) := by decide +kernel
theorem d1003_83 : decode (jm_b 1003) 83 = .ok (.iconst (-1), 1) := by decide +kernel
theorem d1003_84 : decode (jm_b 1003) 84 = .ok (.putfield 37, 3) := by decide +kernel
theorem d1003_87 : decode (jm_b 1003) 87 = .ok (.goto 142, 3) := by decide +kernel
theorem d1003_90 : decode (jm_b 1003) 90 = .ok (.aload_n 0, 1) := by decide +kernel
theorem d1003_91 : decode (jm_b 1003) 91 = .ok (.getfield 9, 3) := by decide +kernel
theorem d1003_94 : decode (jm_b 1003) 94 = .ok (.aload_n 0, 1) := by decide +kernel
theorem d1003_95 : decode (jm_b 1003) 95 = .ok (.getfield 28, 3) := by decide +kernel
theorem d1003_98 : decode (jm_b 1003) 98 = .ok (.iaload, 1) := by decide +kernel
theorem d1003_99 : decode (jm_b 1003) 99 = .ok (.invokestatic 40, 3) := by decide +kernel
theorem d1003_102 : decode (jm_b 1003) 102 = .ok (.ifCond .eq 49, 3) := by decide +kernel
theorem d1003_105 : decode (jm_b 1003) 105 = .ok (.aload_n 0, 1) := by decide +kernel
theorem d1003_106 : decode (jm_b 1003) 106 = .ok (.sipush 256, 3) := by decide +kernel
theorem d1003_109 : decode (jm_b 1003) 109 = .ok (.putfield 37, 3) := by decide +kernel
theorem d1003_112 : decode (jm_b 1003) 112 = .ok (.aload_n 0, 1) := by decide +kernel
theorem d1003_113 : decode (jm_b 1003) 113 = .ok (.getfield 19, 3) := by decide +kernel
theorem d1003_116 : decode (jm_b 1003) 116 = .ok (.aload_n 0, 1) := by decide +kernel
theorem d1003_117 : decode (jm_b 1003) 117 = .ok (.getfield 15, 3) := by decide +kernel
theorem d1003_120 : decode (jm_b 1003) 120 = .ok (.if_icmp .ge 109, 3) := by decide +kernel
theorem d1003_123 : decode (jm_b 1003) 123 = .ok (.aload_n 0, 1) := by decide +kernel
theorem d1003_124 : decode (jm_b 1003) 124 = .ok (.getfield 9, 3) := by decide +kernel
theorem d1003_127 : decode (jm_b 1003) 127 = .ok (.aload_n 0, 1) := by decide +kernel
theorem d1003_128 : decode (jm_b 1003) 128 = .ok (.getfield 19, 3) := by decide +kernel
theorem d1003_131 : decode (jm_b 1003) 131 = .ok (.iaload, 1) := by decide +kernel
theorem d1003_132 : decode (jm_b 1003) 132 = .ok (.invokestatic 40, 3) := by decide +kernel
theorem d1003_135 : decode (jm_b 1003) 135 = .ok (.ifCond .eq 94, 3) := by decide +kernel
theorem d1003_138 : decode (jm_b 1003) 138 = .ok (.aload_n 0, 1) := by decide +kernel
theorem d1003_139 : decode (jm_b 1003) 139 = .ok (.dup, 1) := by decide +kernel
theorem d1003_140 : decode (jm_b 1003) 140 = .ok (.getfield 19, 3) := by decide +kernel
theorem d1003_143 : decode (jm_b 1003) 143 = .ok (.iconst 1, 1) := by decide +kernel
theorem d1003_144 : decode (jm_b 1003) 144 = .ok (.iadd, 1) := by decide +kernel
theorem d1003_145 : decode (jm_b 1003) 145 = .ok (.putfield 19, 3) := by decide +kernel
theorem d1003_148 : decode (jm_b 1003) 148 = .ok (.goto (-36), 3) := by decide +kernel
theorem d1003_151 : decode (jm_b 1003) 151 = .ok (.aload_n 0, 1) := by decide +kernel
theorem d1003_152 : decode (jm_b 1003) 152 = .ok (.getfield 9, 3) := by decide +kernel
theorem d1003_155 : decode (jm_b 1003) 155 = .ok (.aload_n 0, 1) := by decide +kernel
theorem d1003_156 : decode (jm_b 1003) 156 = .ok (.getfield 28, 3) := by decide +kernel
theorem d1003_159 : decode (jm_b 1003) 159 = .ok (.iaload, 1) := by decide +kernel
theorem d1003_160 : decode (jm_b 1003) 160 = .ok (.invokestatic 44, 3) := by decide +kernel
theorem d1003_163 : decode (jm_b 1003) 163 = .ok (.ifCond .eq 49, 3) := by decide +kernel
theorem d1003_166 : decode (jm_b 1003) 166 = .ok (.aload_n 0, 1) := by decide +kernel
theorem d1003_167 : decode (jm_b 1003) 167 = .ok (.sipush 257, 3) := by decide +kernel
theorem d1003_170 : decode (jm_b 1003) 170 = .ok (.putfield 37, 3) := by decide +kernel
theorem d1003_173 : decode (jm_b 1003) 173 = .ok (.aload_n 0, 1) := by decide +kernel
theorem d1003_174 : decode (jm_b 1003) 174 = .ok (.getfield 19, 3) := by decide +kernel
theorem d1003_177 : decode (jm_b 1003) 177 = .ok (.aload_n 0, 1) := by decide +kernel
theorem d1003_178 : decode (jm_b 1003) 178 = .ok (.getfield 15, 3) := by decide +kernel
theorem d1003_181 : decode (jm_b 1003) 181 = .ok (.if_icmp .ge 48, 3) := by decide +kernel
theorem d1003_184 : decode (jm_b 1003) 184 = .ok (.aload_n 0, 1) := by decide +kernel
theorem d1003_185 : decode (jm_b 1003) 185 = .ok (.getfield 9, 3) := by decide +kernel
theorem d1003_188 : decode (jm_b 1003) 188 = .ok (.aload_n 0, 1) := by decide +kernel
theorem d1003_189 : decode (jm_b 1003) 189 = .ok (.getfield 19, 3) := by decide +kernel
theorem d1003_192 : decode (jm_b 1003) 192 = .ok (.iaload, 1) := by decide +kernel
theorem d1003_193 : decode (jm_b 1003) 193 = .ok (.invokestatic 44, 3) := by decide +kernel
theorem d1003_196 : decode (jm_b 1003) 196 = .ok (.ifCond .eq 33, 3) := by decide +kernel
theorem d1003_199 : decode (jm_b 1003) 199 = .ok (.aload_n 0, 1) := by decide +kernel
theorem d1003_200 : decode (jm_b 1003) 200 = .ok (.dup, 1) := by decide +kernel
theorem d1003_201 : decode (jm_b 1003) 201 = .ok (.getfield 19, 3) := by decide +kernel
theorem d1003_204 : decode (jm_b 1003) 204 = .ok (.iconst 1, 1) := by decide +kernel
theorem d1003_205 : decode (jm_b 1003) 205 = .ok (.iadd, 1) := by decide +kernel
theorem d1003_206 : decode (jm_b 1003) 206 = .ok (.putfield 19, 3) := by decide +kernel
theorem d1003_209 : decode (jm_b 1003) 209 = .ok (.goto (-36), 3) := by decide +kernel
theorem d1003_212 : decode (jm_b 1003) 212 = .ok (.aload_n 0, 1) := by decide +kernel
theorem d1003_213 : decode (jm_b 1003) 213 = .ok (.aload_n 0, 1) := by decide +kernel
theorem d1003_214 : decode (jm_b 1003) 214 = .ok (.getfield 9, 3) := by decide +kernel
theorem d1003_217 : decode (jm_b 1003) 217 = .ok (.aload_n 0, 1) := by decide +kernel
theorem d1003_218 : decode (jm_b 1003) 218 = .ok (.getfield 28, 3) := by decide +kernel
theorem d1003_221 : decode (jm_b 1003) 221 = .ok (.iaload, 1) := by decide +kernel
theorem d1003_222 : decode (jm_b 1003) 222 = .ok (.putfield 37, 3) := by decide +kernel
theorem d1003_225 : decode (jm_b 1003) 225 = .ok (.aload_n 0, 1) := by decide +kernel
theorem d1003_226 : decode (jm_b 1003) 226 = .ok (.invokevirtual 47, 3) := by decide +kernel
theorem d1003_229 : decode (jm_b 1003) 229 = .ok (.return_, 1) := by decide +kernel
theorem d1004_0 : decode (jm_b 1004) 0 = .ok (.iload_n 0, 1) := by decide +kernel
theorem d1004_1 : decode (jm_b 1004) 1 = .ok (.bipush 48, 2) := by decide +kernel
theorem d1004_3 : decode (jm_b 1004) 3 = .ok (.if_icmp .lt 13, 3) := by decide +kernel
theorem d1004_6 : decode (jm_b 1004) 6 = .ok (.iload_n 0, 1) := by decide +kernel
theorem d1004_7 : decode (jm_b 1004) 7 = .ok (.bipush 57, 2) := by decide +kernel
theorem d1004_9 : decode (jm_b 1004) 9 = .ok (.if_icmp .gt 7, 3) := by decide +kernel
theorem d1004_12 : decode (jm_b 1004) 12 = .ok (.iconst 1, 1) := by decide +kernel
theorem d1004_13 : decode (jm_b 1004) 13 = .ok (.goto 4, 3) := by decide +kernel
theorem d1004_16 : decode (jm_b 1004) 16 = .ok (.iconst 0, 1) := by decide +kernel
theorem d1004_17 : decode (jm_b 1004) 17 = .ok (.ireturn, 1) := by decide +kernel
theorem d1005_0 : decode (jm_b 1005) 0 = .ok (.iload_n 0, 1) := by decide +kernel
theorem d1005_1 : decode (jm_b 1005) 1 = .ok (.bipush 97, 2) := by decide +kernel
theorem d1005_3 : decode (jm_b 1005) 3 = .ok (.if_icmp .lt 13, 3) := by decide +kernel
theorem d1005_6 : decode (jm_b 1005) 6 = .ok (.iload_n 0, 1) := by decide +kernel
theorem d1005_7 : decode (jm_b 1005) 7 = .ok (.bipush 122, 2) := by decide +kernel
theorem d1005_9 : decode (jm_b 1005) 9 = .ok (.if_icmp .gt 7, 3) := by decide +kernel
theorem d1005_12 : decode (jm_b 1005) 12 = .ok (.iconst 1, 1) := by decide +kernel
theorem d1005_13 : decode (jm_b 1005) 13 = .ok (.goto 4, 3) := by decide +kernel
theorem d1005_16 : decode (jm_b 1005) 16 = .ok (.iconst 0, 1) := by decide +kernel
theorem d1005_17 : decode (jm_b 1005) 17 = .ok (.ireturn, 1) := by decide +kernel
theorem d1006_0 : decode (jm_b 1006) 0 = .ok (.aload_n 0, 1) := by decide +kernel
theorem d1006_1 : decode (jm_b 1006) 1 = .ok (.getfield 37, 3) := by decide +kernel
theorem d1006_4 : decode (jm_b 1006) 4 = .ok (.bipush 60, 2) := by decide +kernel
theorem d1006_6 : decode (jm_b 1006) 6 = .ok (.if_icmp .eq 12, 3) := by decide +kernel
theorem d1006_9 : decode (jm_b 1006) 9 = .ok (.aload_n 0, 1) := by decide +kernel
theorem d1006_10 : decode (jm_b 1006) 10 = .ok (.getfield 37, 3) := by decide +kernel
theorem d1006_13 : decode (jm_b 1006) 13 = .ok (.bipush 62, 2) := by decide +kernel
theorem d1006_15 : decode (jm_b 1006) 15 = .ok (.if_icmp .ne 7, 3) := by decide +kernel
theorem d1006_18 : decode (jm_b 1006) 18 = .ok (.iconst 1, 1) := by decide +kernel
theorem d1006_19 : decode (jm_b 1006) 19 = .ok (.goto 4, 3) := by decide +kernel
theorem d1006_22 : decode (jm_b 1006) 22 = .ok (.iconst 0, 1) := by decide +kernel
theorem d1006_23 : decode (jm_b 1006) 23 = .ok (.istore_n 1, 1) := by decide +kernel
theorem d1006_24 : decode (jm_b 1006) 24 = .ok (.iload_n 1, 1) := by decide +kernel
theorem d1006_25 : decode (jm_b 1006) 25 = .ok (.ifCond .eq 60, 3) := by decide +kernel
theorem d1006_28 : decode (jm_b 1006) 28 = .ok (.aload_n 0, 1) := by decide +kernel
theorem d1006_29 : decode (jm_b 1006) 29 = .ok (.getfield 19, 3) := by decide +kernel
theorem d1006_32 : decode (jm_b 1006) 32 = .ok (.aload_n 0, 1) := by decide +kernel
theorem d1006_33 : decode (jm_b 1006) 33 = .ok (.getfield 15, 3) := by decide +kernel
theorem d1006_36 : decode (jm_b 1006) 36 = .ok (.if_icmp .ge 49, 3) := by decide +kernel
theorem d1006_39 : decode (jm_b 1006) 39 = .ok (.aload_n 0, 1) := by decide +kernel
theorem d1006_40 : decode (jm_b 1006) 40 = .ok (.getfield 9, 3) := by decide +kernel
theorem d1006_43 : decode (jm_b 1006) 43 = .ok (.aload_n 0, 1) := by decide +kernel
theorem d1006_44 : decode (jm_b 1006) 44 = .ok (.getfield 19, 3) := by decide +kernel
theorem d1006_47 : decode (jm_b 1006) 47 = .ok (.iaload, 1) := by decide +kernel
theorem d1006_48 : decode (jm_b 1006) 48 = .ok (.bipush 61, 2) := by decide +kernel
theorem d1006_50 : decode (jm_b 1006) 50 = .ok (.if_icmp .ne 35, 3) := by decide +kernel
theorem d1006_53 : decode (jm_b 1006) 53 = .ok (.aload_n 0, 1) := by decide +kernel
theorem d1006_54 : decode (jm_b 1006) 54 = .ok (.aload_n 0, 1) := by decide +kernel
theorem d1006_55 : decode (jm_b 1006) 55 = .ok (.getfield 37, 3) := by decide +kernel
theorem d1006_58 : decode (jm_b 1006) 58 = .ok (.bipush 60, 2) := by decide +kernel
theorem d1006_60 : decode (jm_b 1006) 60 = .ok (.if_icmp .ne 9, 3) := by decide +kernel
theorem d1006_63 : decode (jm_b 1006) 63 = .ok (.sipush 258, 3) := by decide +kernel
theorem d1006_66 : decode (jm_b 1006) 66 = .ok (.goto 6, 3) := by decide +kernel
theorem d1006_69 : decode (jm_b 1006) 69 = .ok (.sipush 259, 3) := by decide +kernel
theorem d1006_72 : decode (jm_b 1006) 72 = .ok (.putfield 37, 3) := by decide +kernel
theorem d1006_75 : decode (jm_b 1006) 75 = .ok (.aload_n 0, 1) := by decide +kernel
theorem d1006_76 : decode (jm_b 1006) 76 = .ok (.dup, 1) := by decide +kernel
theorem d1006_77 : decode (jm_b 1006) 77 = .ok (.getfield 19, 3) := by decide +kernel
theorem d1006_80 : decode (jm_b 1006) 80 = .ok (.iconst 1, 1) := by decide +kernel
theorem d1006_81 : decode (jm_b 1006) 81 = .ok (.iadd, 1) := by decide +kernel
theorem d1006_82 : decode (jm_b 1006) 82 = .ok (.putfield 19, 3) := by decide +kernel
theorem d1006_85 : decode (jm_b 1006) 85 = .ok (.return_, 1) := by decide +kernel
theorem d2002_0 : decode (jm_b 2002) 0 = .ok (.aload_n 0, 1) := by decide +kernel
theorem d2002_1 : decode (jm_b 2002) 1 = .ok (.invokevirtual 44, 3) := by decide +kernel
theorem d2002_4 : decode (jm_b 2002) 4 = .ok (.istore_n 2, 1) := by decide +kernel
theorem d2002_5 : decode (jm_b 2002) 5 = .ok (.iload_n 2, 1) := by decide +kernel
theorem d2002_6 : decode (jm_b 2002) 6 = .ok (.iconst 4, 1) := by decide +kernel
theorem d2002_7 : decode (jm_b 2002) 7 = .ok (.if_icmp .ne 15, 3) := by decide +kernel
theorem d2002_10 : decode (jm_b 2002) 10 = .ok (.aload_n 0, 1) := by decide +kernel
theorem d2002_11 : decode (jm_b 2002) 11 = .ok (.getfield 12, 3) := by decide +kernel
theorem d2002_14 : decode (jm_b 2002) 14 = .ok (.getfield 48, 3) := by decide +kernel
theorem d2002_17 : decode (jm_b 2002) 17 = .ok (.bipush 8, 2) := by decide +kernel
theorem d2002_19 : decode (jm_b 2002) 19 = .ok (.if_icmp .ge 20, 3) := by decide +kernel
theorem d2002_22 : decode (jm_b 2002) 22 = .ok (.iload_n 2, 1) := by decide +kernel
theorem d2002_23 : decode (jm_b 2002) 23 = .ok (.iconst 5, 1) := by decide +kernel
theorem d2002_24 : decode (jm_b 2002) 24 = .ok (.if_icmp .ne 19, 3) := by decide +kernel
theorem d2002_27 : decode (jm_b 2002) 27 = .ok (.aload_n 0, 1) := by decide +kernel
theorem d2002_28 : decode (jm_b 2002) 28 = .ok (.getfield 12, 3) := by decide +kernel
theorem d2002_31 : decode (jm_b 2002) 31 = .ok (.getfield 52, 3) := by decide +kernel
theorem d2002_34 : decode (jm_b 2002) 34 = .ok (.bipush 8, 2) := by decide +kernel
theorem d2002_36 : decode (jm_b 2002) 36 = .ok (.if_icmp .lt 7, 3) := by decide +kernel
theorem d2002_39 : decode (jm_b 2002) 39 = .ok (.iconst 1, 1) := by decide +kernel
theorem d2002_40 : decode (jm_b 2002) 40 = .ok (.goto 4, 3) := by decide +kernel
theorem d2002_43 : decode (jm_b 2002) 43 = .ok (.iconst 0, 1) := by decide +kernel
theorem d2002_44 : decode (jm_b 2002) 44 = .ok (.istore_n 3, 1) := by decide +kernel
theorem d2002_45 : decode (jm_b 2002) 45 = .ok (.iload_n 2, 1) := by decide +kernel
theorem d2002_46 : decode (jm_b 2002) 46 = .ok (.iconst (-1), 1) := by decide +kernel
theorem d2002_47 : decode (jm_b 2002) 47 = .ok (.if_icmp .ne 14, 3) := by decide +kernel
theorem d2002_50 : decode (jm_b 2002) 50 = .ok (.aload_n 0, 1) := by decide +kernel
theorem d2002_51 : decode (jm_b 2002) 51 = .ok (.getfield 18, 3) := by decide +kernel
theorem d2002_54 : decode (jm_b 2002) 54 = .ok (.iconst 0, 1) := by decide +kernel
theorem d2002_55 : decode (jm_b 2002) 55 = .ok (.invokevirtual 55, 3) := by decide +kernel
theorem d2002_58 : decode (jm_b 2002) 58 = .ok (.goto 42, 3) := by decide +kernel
theorem d2002_61 : decode (jm_b 2002) 61 = .ok (.iload_n 2, 1) := by decide +kernel
theorem d2002_62 : decode (jm_b 2002) 62 = .ok (.ifCond .ne 7, 3) := by decide +kernel
theorem d2002_65 : decode (jm_b 2002) 65 = .ok (.iconst 1, 1) := by decide +kernel
theorem d2002_66 : decode (jm_b 2002) 66 = .ok (.goto 4, 3) := by decide +kernel
theorem d2002_69 : decode (jm_b 2002) 69 = .ok (.iconst 0, 1) := by decide +kernel
theorem d2002_70 : decode (jm_b 2002) 70 = .ok (.iload_n 1, 1) := by decide +kernel
theorem d2002_71 : decode (jm_b 2002) 71 = .ok (.ifCond .ne 7, 3) := by decide +kernel
theorem d2002_74 : decode (jm_b 2002) 74 = .ok (.iconst 1, 1) := by decide +kernel
theorem d2002_75 : decode (jm_b 2002) 75 = .ok (.goto 4, 3) := by decide +kernel
theorem d2002_78 : decode (jm_b 2002) 78 = .ok (.iconst 0, 1) := by decide +kernel
theorem d2002_79 : decode (jm_b 2002) 79 = .ok (.if_icmp .ne 13, 3) := by decide +kernel
theorem d2002_82 : decode (jm_b 2002) 82 = .ok (.iload_n 1, 1) := by decide +kernel
theorem d2002_83 : decode (jm_b 2002) 83 = .ok (.bipush 40, 2) := by decide +kernel
theorem d2002_85 : decode (jm_b 2002) 85 = .ok (.if_icmp .ge 7, 3) := by decide +kernel
theorem d2002_88 : decode (jm_b 2002) 88 = .ok (.iload_n 3, 1) := by decide +kernel
theorem d2002_89 : decode (jm_b 2002) 89 = .ok (.ifCond .eq 11, 3) := by decide +kernel
theorem d2002_92 : decode (jm_b 2002) 92 = .ok (.aload_n 0, 1) := by decide +kernel
theorem d2002_93 : decode (jm_b 2002) 93 = .ok (.getfield 18, 3) := by decide +kernel
theorem d2002_96 : decode (jm_b 2002) 96 = .ok (.iconst 4, 1) := by decide +kernel
theorem d2002_97 : decode (jm_b 2002) 97 = .ok (.invokevirtual 55, 3) := by decide +kernel
theorem d2002_100 : decode (jm_b 2002) 100 = .ok (.aload_n 0, 1) := by decide +kernel
theorem d2002_101 : decode (jm_b 2002) 101 = .ok (.getfield 18, 3) := by decide +kernel
theorem d2002_104 : decode (jm_b 2002) 104 = .ok (.invokevirtual 58, 3) := by decide +kernel
theorem d2002_107 : decode (jm_b 2002) 107 = .ok (.iload_n 2, 1) := by decide +kernel
theorem d2002_108 : decode (jm_b 2002) 108 = .ok (.tableswitch 82 0 5 #[40, 47, 54, 61, 68, 75], 40) := by decide +kernel
theorem d2002_148 : decode (jm_b 2002) 148 = .ok (.aload_n 0, 1) := by decide +kernel
theorem d2002_149 : decode (jm_b 2002) 149 = .ok (.invokevirtual 61, 3) := by decide +kernel
theorem d2002_152 : decode (jm_b 2002) 152 = .ok (.goto 38, 3) := by decide +kernel
theorem d2002_155 : decode (jm_b 2002) 155 = .ok (.aload_n 0, 1) := by decide +kernel
theorem d2002_156 : decode (jm_b 2002) 156 = .ok (.invokevirtual 64, 3) := by decide +kernel
theorem d2002_159 : decode (jm_b 2002) 159 = .ok (.goto 31, 3) := by decide +kernel
theorem d2002_162 : decode (jm_b 2002) 162 = .ok (.aload_n 0, 1) := by decide +kernel
theorem d2002_163 : decode (jm_b 2002) 163 = .ok (.invokevirtual 67, 3) := by decide +kernel
theorem d2002_166 : decode (jm_b 2002) 166 = .ok (.goto 24, 3) := by decide +kernel
theorem d2002_169 : decode (jm_b 2002) 169 = .ok (.aload_n 0, 1) := by decide +kernel
theorem d2002_170 : decode (jm_b 2002) 170 = .ok (.invokevirtual 70, 3) := by decide +kernel
theorem d2002_173 : decode (jm_b 2002) 173 = .ok (.goto 17, 3) := by decide +kernel
theorem d2002_176 : decode (jm_b 2002) 176 = .ok (.aload_n 0, 1) := by decide +kernel
theorem d2002_177 : decode (jm_b 2002) 177 = .ok (.invokevirtual 73, 3) := by decide +kernel
theorem d2002_180 : decode (jm_b 2002) 180 = .ok (.goto 10, 3) := by decide +kernel
theorem d2002_183 : decode (jm_b 2002) 183 = .ok (.aload_n 0, 1) := by decide +kernel
theorem d2002_184 : decode (jm_b 2002) 184 = .ok (.invokevirtual 76, 3) := by decide +kernel
theorem d2002_187 : decode (jm_b 2002) 187 = .ok (.goto 3, 3) := by decide +kernel
theorem d2002_190 : decode (jm_b 2002) 190 = .ok (.return_, 1) := by decide +kernel
theorem d2003_0 : decode (jm_b 2003) 0 = .ok (.iconst 0, 1) := by decide +kernel
theorem d2003_1 : decode (jm_b 2003) 1 = .ok (.istore_n 1, 1) := by decide +kernel
theorem d2003_2 : decode (jm_b 2003) 2 = .ok (.iload_n 1, 1) := by decide +kernel
theorem d2003_3 : decode (jm_b 2003) 3 = .ok (.bipush 6, 2) := by decide +kernel
theorem d2003_5 : decode (jm_b 2003) 5 = .ok (.if_icmp .ge 25, 3) := by decide +kernel
theorem d2003_8 : decode (jm_b 2003) 8 = .ok (.aload_n 0, 1) := by decide +kernel
theorem d2003_9 : decode (jm_b 2003) 9 = .ok (.getfield 18, 3) := by decide +kernel
theorem d2003_12 : decode (jm_b 2003) 12 = .ok (.iload_n 1, 1) := by decide +kernel
theorem d2003_13 : decode (jm_b 2003) 13 = .ok (.invokestatic 79, 3) := by decide +kernel
theorem d2003_16 : decode (jm_b 2003) 16 = .ok (.invokevirtual 83, 3) := by decide +kernel
theorem d2003_19 : decode (jm_b 2003) 19 = .ok (.ifCond .eq 5, 3) := by decide +kernel
theorem d2003_22 : decode (jm_b 2003) 22 = .ok (.iload_n 1, 1) := by decide +kernel
theorem d2003_23 : decode (jm_b 2003) 23 = .ok (.ireturn, 1) := by decide +kernel
theorem d2003_24 : decode (jm_b 2003) 24 = .ok (.iinc 1 1, 3) := by decide +kernel
theorem d2003_27 : decode (jm_b 2003) 27 = .ok (.goto (-25), 3) := by decide +kernel
theorem d2003_30 : decode (jm_b 2003) 30 = .ok (.iconst (-1), 1) := by decide +kernel
theorem d2003_31 : decode (jm_b 2003) 31 = .ok (.ireturn, 1) := by decide +kernel
theorem d2004_0 : decode (jm_b 2004) 0 = .ok (.iload_n 0, 1) := by decide +kernel
theorem d2004_1 : decode (jm_b 2004) 1 = .ok (.tableswitch 50 0 4 #[35, 38, 41, 44, 47], 35) := by decide +kernel
theorem d2004_36 : decode (jm_b 2004) 36 = .ok (.ldc 87, 2) := by decide +kernel
theorem d2004_38 : decode (jm_b 2004) 38 = .ok (.areturn, 1) := by decide +kernel
theorem d2004_39 : decode (jm_b 2004) 39 = .ok (.ldc 88, 2) := by decide +kernel
theorem d2004_41 : decode (jm_b 2004) 41 = .ok (.areturn, 1) := by decide +kernel
theorem d2004_42 : decode (jm_b 2004) 42 = .ok (.ldc 90, 2) := by decide +kernel
theorem d2004_44 : decode (jm_b 2004) 44 = .ok (.areturn, 1) := by decide +kernel
theorem d2004_45 : decode (jm_b 2004) 45 = .ok (.ldc 92, 2) := by decide +kernel
theorem d2004_47 : decode (jm_b 2004) 47 = .ok (.areturn, 1) := by decide +kernel
theorem d2004_48 : decode (jm_b 2004) 48 = .ok (.ldc 94, 2) := by decide +kernel
theorem d2004_50 : decode (jm_b 2004) 50 = .ok (.areturn, 1) := by decide +kernel
theorem d2004_51 : decode (jm_b 2004) 51 = .ok (.ldc 96, 2) := by decide +kernel
theorem d2004_53 : decode (jm_b 2004) 53 = .ok (.areturn, 1) := by decide +kernel
theorem d1007_0 : decode (jm_b 1007) 0 = .ok (.aload_n 1, 1) := by decide +kernel
theorem d1007_1 : decode (jm_b 1007) 1 = .ok (.invokevirtual 50, 3) := by decide +kernel
theorem d1007_4 : decode (jm_b 1007) 4 = .ok (.istore_n 2, 1) := by decide +kernel
theorem d1007_5 : decode (jm_b 1007) 5 = .ok (.aload_n 0, 1) := by decide +kernel
theorem d1007_6 : decode (jm_b 1007) 6 = .ok (.getfield 37, 3) := by decide +kernel
theorem d1007_9 : decode (jm_b 1007) 9 = .ok (.sipush 257, 3) := by decide +kernel
theorem d1007_12 : decode (jm_b 1007) 12 = .ok (.if_icmp .ne 16, 3) := by decide +kernel
theorem d1007_15 : decode (jm_b 1007) 15 = .ok (.aload_n 0, 1) := by decide +kernel
theorem d1007_16 : decode (jm_b 1007) 16 = .ok (.getfield 19, 3) := by decide +kernel
theorem d1007_19 : decode (jm_b 1007) 19 = .ok (.aload_n 0, 1) := by decide +kernel
theorem d1007_20 : decode (jm_b 1007) 20 = .ok (.getfield 28, 3) := by decide +kernel
theorem d1007_23 : decode (jm_b 1007) 23 = .ok (.isub, 1) := by decide +kernel
theorem d1007_24 : decode (jm_b 1007) 24 = .ok (.iload_n 2, 1) := by decide +kernel
theorem d1007_25 : decode (jm_b 1007) 25 = .ok (.if_icmp .eq 5, 3) := by decide +kernel
theorem d1007_28 : decode (jm_b 1007) 28 = .ok (.iconst 0, 1) := by decide +kernel
theorem d1007_29 : decode (jm_b 1007) 29 = .ok (.ireturn, 1) := by decide +kernel
theorem d1007_30 : decode (jm_b 1007) 30 = .ok (.iconst 0, 1) := by decide +kernel
theorem d1007_31 : decode (jm_b 1007) 31 = .ok (.istore_n 3, 1) := by decide +kernel
theorem d1007_32 : decode (jm_b 1007) 32 = .ok (.iload_n 3, 1) := by decide +kernel
theorem d1007_33 : decode (jm_b 1007) 33 = .ok (.iload_n 2, 1) := by decide +kernel
theorem d1007_34 : decode (jm_b 1007) 34 = .ok (.if_icmp .ge 30, 3) := by decide +kernel
theorem d1007_37 : decode (jm_b 1007) 37 = .ok (.aload_n 0, 1) := by decide +kernel
theorem d1007_38 : decode (jm_b 1007) 38 = .ok (.getfield 9, 3) := by decide +kernel
theorem d1007_41 : decode (jm_b 1007) 41 = .ok (.aload_n 0, 1) := by decide +kernel
theorem d1007_42 : decode (jm_b 1007) 42 = .ok (.getfield 28, 3) := by decide +kernel
theorem d1007_45 : decode (jm_b 1007) 45 = .ok (.iload_n 3, 1) := by decide +kernel
theorem d1007_46 : decode (jm_b 1007) 46 = .ok (.iadd, 1) := by decide +kernel
theorem d1007_47 : decode (jm_b 1007) 47 = .ok (.iaload, 1) := by decide +kernel
theorem d1007_48 : decode (jm_b 1007) 48 = .ok (.aload_n 1, 1) := by decide +kernel
theorem d1007_49 : decode (jm_b 1007) 49 = .ok (.iload_n 3, 1) := by decide +kernel
theorem d1007_50 : decode (jm_b 1007) 50 = .ok (.invokevirtual 56, 3) := by decide +kernel
theorem d1007_53 : decode (jm_b 1007) 53 = .ok (.if_icmp .eq 5, 3) := by decide +kernel
theorem d1007_56 : decode (jm_b 1007) 56 = .ok (.iconst 0, 1) := by decide +kernel
theorem d1007_57 : decode (jm_b 1007) 57 = .ok (.ireturn, 1) := by decide +kernel
theorem d1007_58 : decode (jm_b 1007) 58 = .ok (.iinc 3 1, 3) := by decide +kernel
theorem d1007_61 : decode (jm_b 1007) 61 = .ok (.goto (-29), 3) := by decide +kernel
theorem d1007_64 : decode (jm_b 1007) 64 = .ok (.iconst 1, 1) := by decide +kernel
theorem d1007_65 : decode (jm_b 1007) 65 = .ok (.ireturn, 1) := by decide +kernel
theorem d17000_0 : decode (jm_b 17000) 0 = .ok (.aload_n 0, 1) := by decide +kernel
theorem d17000_1 : decode (jm_b 17000) 1 = .ok (.getfield 9, 3) := by decide +kernel
theorem d17000_4 : decode (jm_b 17000) 4 = .ok (.arraylength, 1) := by decide +kernel
theorem d17000_5 : decode (jm_b 17000) 5 = .ok (.aload_n 0, 1) := by decide +kernel
theorem d17000_6 : decode (jm_b 17000) 6 = .ok (.invokevirtual 335, 3) := by decide +kernel
theorem d17000_9 : decode (jm_b 17000) 9 = .ok (.ishr, 1) := by decide +kernel
theorem d17000_10 : decode (jm_b 17000) 10 = .ok (.ireturn, 1) := by decide +kernel
theorem d17001_0 : decode (jm_b 17001) 0 = .ok (.getstatic 38, 3) := by decide +kernel
theorem d17001_3 : decode (jm_b 17001) 3 = .ok (.ifCond .eq 10, 3) := by decide +kernel
theorem d17001_6 : decode (jm_b 17001) 6 = .ok (.aload_n 0, 1) := by decide +kernel
theorem d17001_7 : decode (jm_b 17001) 7 = .ok (.getfield 15, 3) := by decide +kernel
theorem d17001_10 : decode (jm_b 17001) 10 = .ok (.goto 4, 3) := by decide +kernel
theorem d17001_13 : decode (jm_b 17001) 13 = .ok (.iconst 1, 1) := by decide +kernel
theorem d17001_14 : decode (jm_b 17001) 14 = .ok (.ireturn, 1) := by decide +kernel
theorem d17002_0 : decode (jm_b 17002) 0 = .ok (.aload_n 0, 1) := by decide +kernel
theorem d17002_1 : decode (jm_b 17002) 1 = .ok (.invokevirtual 492, 3) := by decide +kernel
theorem d17002_4 : decode (jm_b 17002) 4 = .ok (.ifCond .eq 12, 3) := by decide +kernel
theorem d17002_7 : decode (jm_b 17002) 7 = .ok (.aload_n 0, 1) := by decide +kernel
theorem d17002_8 : decode (jm_b 17002) 8 = .ok (.getfield 9, 3) := by decide +kernel
theorem d17002_11 : decode (jm_b 17002) 11 = .ok (.iload_n 1, 1) := by decide +kernel
theorem d17002_12 : decode (jm_b 17002) 12 = .ok (.invokestatic 495, 3) := by decide +kernel
theorem d17002_15 : decode (jm_b 17002) 15 = .ok (.ireturn, 1) := by decide +kernel
theorem d17002_16 : decode (jm_b 17002) 16 = .ok (.aload_n 0, 1) := by decide +kernel
theorem d17002_17 : decode (jm_b 17002) 17 = .ok (.getfield 9, 3) := by decide +kernel
theorem d17002_20 : decode (jm_b 17002) 20 = .ok (.iload_n 1, 1) := by decide +kernel
theorem d17002_21 : decode (jm_b 17002) 21 = .ok (.invokestatic 498, 3) := by decide +kernel
theorem d17002_24 : decode (jm_b 17002) 24 = .ok (.ireturn, 1) := by decide +kernel
theorem d17003_0 : decode (jm_b 17003) 0 = .ok (.getstatic 38, 3) := by decide +kernel
theorem d17003_3 : decode (jm_b 17003) 3 = .ok (.ifCond .eq 14, 3) := by decide +kernel
theorem d17003_6 : decode (jm_b 17003) 6 = .ok (.aload_n 0, 1) := by decide +kernel
theorem d17003_7 : decode (jm_b 17003) 7 = .ok (.getfield 15, 3) := by decide +kernel
theorem d17003_10 : decode (jm_b 17003) 10 = .ok (.ifCond .ne 7, 3) := by decide +kernel
theorem d17003_13 : decode (jm_b 17003) 13 = .ok (.iconst 1, 1) := by decide +kernel
theorem d17003_14 : decode (jm_b 17003) 14 = .ok (.goto 4, 3) := by decide +kernel
theorem d17003_17 : decode (jm_b 17003) 17 = .ok (.iconst 0, 1) := by decide +kernel
theorem d17003_18 : decode (jm_b 17003) 18 = .ok (.ireturn, 1) := by decide +kernel
theorem d18000_0 : decode (jm_b 18000) 0 = .ok (.iload_n 1, 1) := by decide +kernel
theorem d18000_1 : decode (jm_b 18000) 1 = .ok (.aload_n 0, 1) := by decide +kernel
theorem d18000_2 : decode (jm_b 18000) 2 = .ok (.arraylength, 1) := by decide +kernel
theorem d18000_3 : decode (jm_b 18000) 3 = .ok (.invokestatic 9, 3) := by decide +kernel
theorem d18000_6 : decode (jm_b 18000) 6 = .ok (.aload_n 0, 1) := by decide +kernel
theorem d18000_7 : decode (jm_b 18000) 7 = .ok (.iload_n 1, 1) := by decide +kernel
theorem d18000_8 : decode (jm_b 18000) 8 = .ok (.baload, 1) := by decide +kernel
theorem d18000_9 : decode (jm_b 18000) 9 = .ok (.sipush 255, 3) := by decide +kernel
theorem d18000_12 : decode (jm_b 18000) 12 = .ok (.iand, 1) := by decide +kernel
theorem d18000_13 : decode (jm_b 18000) 13 = .ok (.i2c, 1) := by decide +kernel
theorem d18000_14 : decode (jm_b 18000) 14 = .ok (.ireturn, 1) := by decide +kernel
theorem d17004_0 : decode (jm_b 17004) 0 = .ok (.iload_n 0, 1) := by decide +kernel
theorem d17004_1 : decode (jm_b 17004) 1 = .ok (.iload_n 1, 1) := by decide +kernel
theorem d17004_2 : decode (jm_b 17004) 2 = .ok (.getstatic 1053, 3) := by decide +kernel
theorem d17004_5 : decode (jm_b 17004) 5 = .ok (.invokestatic 1059, 3) := by decide +kernel
theorem d17004_8 : decode (jm_b 17004) 8 = .ok (.pop, 1) := by decide +kernel
theorem d17004_9 : decode (jm_b 17004) 9 = .ok (.return_, 1) := by decide +kernel
theorem d20000_0 : decode (jm_b 20000) 0 = .ok (.iload_n 0, 1) := by decide +kernel
theorem d20000_1 : decode (jm_b 20000) 1 = .ok (.ifCond .lt 8, 3) := by decide +kernel
theorem d20000_4 : decode (jm_b 20000) 4 = .ok (.iload_n 0, 1) := by decide +kernel
theorem d20000_5 : decode (jm_b 20000) 5 = .ok (.iload_n 1, 1) := by decide +kernel
theorem d20000_6 : decode (jm_b 20000) 6 = .ok (.if_icmp .lt 10, 3) := by decide +kernel
theorem d20000_9 : decode (jm_b 20000) 9 = .ok (.aload_n 2, 1) := by decide +kernel
theorem d20000_10 : decode (jm_b 20000) 10 = .ok (.iload_n 0, 1) := by decide +kernel
theorem d20000_11 : decode (jm_b 20000) 11 = .ok (.iload_n 1, 1) := by decide +kernel
theorem d20000_12 : decode (jm_b 20000) 12 = .ok (.invokestatic 95, 3) := by decide +kernel
theorem d20000_15 : decode (jm_b 20000) 15 = .ok (.athrow, 1) := by decide +kernel
theorem d20000_16 : decode (jm_b 20000) 16 = .ok (.iload_n 0, 1) := by decide +kernel
theorem d20000_17 : decode (jm_b 20000) 17 = .ok (.ireturn, 1) := by decide +kernel
theorem d1008_0 : decode (jm_b 1008) 0 = .ok (.aload_n 0, 1) := by decide +kernel
theorem d1008_1 : decode (jm_b 1008) 1 = .ok (.getfield 22, 3) := by decide +kernel
theorem d1008_4 : decode (jm_b 1008) 4 = .ok (.ifCond .ne 24, 3) := by decide +kernel
theorem d1008_7 : decode (jm_b 1008) 7 = .ok (.aload_n 0, 1) := by decide +kernel
theorem d1008_8 : decode (jm_b 1008) 8 = .ok (.iconst 1, 1) := by decide +kernel
theorem d1008_9 : decode (jm_b 1008) 9 = .ok (.bipush 8, 2) := by decide +kernel
theorem d1008_11 : decode (jm_b 1008) 11 = .ok (.aload_n 0, 1) := by decide +kernel
theorem d1008_12 : decode (jm_b 1008) 12 = .ok (.getfield 28, 3) := by decide +kernel
theorem d1008_15 : decode (jm_b 1008) 15 = .ok (.imul, 1) := by decide +kernel
theorem d1008_16 : decode (jm_b 1008) 16 = .ok (.iadd, 1) := by decide +kernel
theorem d1008_17 : decode (jm_b 1008) 17 = .ok (.iload_n 1, 1) := by decide +kernel
theorem d1008_18 : decode (jm_b 1008) 18 = .ok (.iadd, 1) := by decide +kernel
theorem d1008_19 : decode (jm_b 1008) 19 = .ok (.putfield 22, 3) := by decide +kernel
theorem d1008_22 : decode (jm_b 1008) 22 = .ok (.aload_n 0, 1) := by decide +kernel
theorem d1008_23 : decode (jm_b 1008) 23 = .ok (.bipush (-2), 2) := by decide +kernel
theorem d1008_25 : decode (jm_b 1008) 25 = .ok (.putfield 37, 3) := by decide +kernel
theorem d1008_28 : decode (jm_b 1008) 28 = .ok (.return_, 1) := by decide +kernel
theorem d2005_0 : decode (jm_b 2005) 0 = .ok (.aload_n 0, 1) := by decide +kernel
theorem d2005_1 : decode (jm_b 2005) 1 = .ok (.getfield 18, 3) := by decide +kernel
theorem d2005_4 : decode (jm_b 2005) 4 = .ok (.iconst 2, 1) := by decide +kernel
theorem d2005_5 : decode (jm_b 2005) 5 = .ok (.bipush 10, 2) := by decide +kernel
theorem d2005_7 : decode (jm_b 2005) 7 = .ok (.invokevirtual 98, 3) := by decide +kernel
theorem d2005_10 : decode (jm_b 2005) 10 = .ok (.istore_n 1, 1) := by decide +kernel
theorem d2005_11 : decode (jm_b 2005) 11 = .ok (.aload_n 0, 1) := by decide +kernel
theorem d2005_12 : decode (jm_b 2005) 12 = .ok (.getfield 18, 3) := by decide +kernel
theorem d2005_15 : decode (jm_b 2005) 15 = .ok (.iconst 0, 1) := by decide +kernel
theorem d2005_16 : decode (jm_b 2005) 16 = .ok (.iconst 3, 1) := by decide +kernel
theorem d2005_17 : decode (jm_b 2005) 17 = .ok (.invokevirtual 98, 3) := by decide +kernel
theorem d2005_20 : decode (jm_b 2005) 20 = .ok (.istore_n 2, 1) := by decide +kernel
theorem d2005_21 : decode (jm_b 2005) 21 = .ok (.aload_n 0, 1) := by decide +kernel
theorem d2005_22 : decode (jm_b 2005) 22 = .ok (.getfield 18, 3) := by decide +kernel
theorem d2005_25 : decode (jm_b 2005) 25 = .ok (.getfield 102, 3) := by decide +kernel
theorem d2005_28 : decode (jm_b 2005) 28 = .ok (.ifCond .ne 19, 3) := by decide +kernel
theorem d2005_31 : decode (jm_b 2005) 31 = .ok (.aload_n 0, 1) := by decide +kernel
theorem d2005_32 : decode (jm_b 2005) 32 = .ok (.getfield 12, 3) := by decide +kernel
theorem d2005_35 : decode (jm_b 2005) 35 = .ok (.iload_n 1, 1) := by decide +kernel
theorem d2005_36 : decode (jm_b 2005) 36 = .ok (.putfield 105, 3) := by decide +kernel
theorem d2005_39 : decode (jm_b 2005) 39 = .ok (.aload_n 0, 1) := by decide +kernel
theorem d2005_40 : decode (jm_b 2005) 40 = .ok (.getfield 12, 3) := by decide +kernel
theorem d2005_43 : decode (jm_b 2005) 43 = .ok (.iload_n 2, 1) := by decide +kernel
theorem d2005_44 : decode (jm_b 2005) 44 = .ok (.putfield 108, 3) := by decide +kernel
theorem d2005_47 : decode (jm_b 2005) 47 = .ok (.return_, 1) := by decide +kernel
theorem d1009_0 : decode (jm_b 1009) 0 = .ok (.aload_n 0, 1) := by decide +kernel
theorem d1009_1 : decode (jm_b 1009) 1 = .ok (.iload_n 1, 1) := by decide +kernel
theorem d1009_2 : decode (jm_b 1009) 2 = .ok (.iload_n 2, 1) := by decide +kernel
theorem d1009_3 : decode (jm_b 1009) 3 = .ok (.invokevirtual 64, 3) := by decide +kernel
theorem d1009_6 : decode (jm_b 1009) 6 = .ok (.istore_n 3, 1) := by decide +kernel
theorem d1009_7 : decode (jm_b 1009) 7 = .ok (.aload_n 0, 1) := by decide +kernel
theorem d1009_8 : decode (jm_b 1009) 8 = .ok (.invokevirtual 25, 3) := by decide +kernel
theorem d1009_11 : decode (jm_b 1009) 11 = .ok (.iload_n 3, 1) := by decide +kernel
theorem d1009_12 : decode (jm_b 1009) 12 = .ok (.ireturn, 1) := by decide +kernel
theorem d1010_0 : decode (jm_b 1010) 0 = .ok (.aload_n 0, 1) := by decide +kernel
theorem d1010_1 : decode (jm_b 1010) 1 = .ok (.getfield 37, 3) := by decide +kernel
theorem d1010_4 : decode (jm_b 1010) 4 = .ok (.sipush 256, 3) := by decide +kernel
theorem d1010_7 : decode (jm_b 1010) 7 = .ok (.if_icmp .eq 10, 3) := by decide +kernel
theorem d1010_10 : decode (jm_b 1010) 10 = .ok (.aload_n 0, 1) := by decide +kernel
theorem d1010_11 : decode (jm_b 1010) 11 = .ok (.iconst 0, 1) := by decide +kernel
theorem d1010_12 : decode (jm_b 1010) 12 = .ok (.invokevirtual 60, 3) := by decide +kernel
theorem d1010_15 : decode (jm_b 1010) 15 = .ok (.iload_n 1, 1) := by decide +kernel
theorem d1010_16 : decode (jm_b 1010) 16 = .ok (.ireturn, 1) := by decide +kernel
theorem d1010_17 : decode (jm_b 1010) 17 = .ok (.iconst 0, 1) := by decide +kernel
theorem d1010_18 : decode (jm_b 1010) 18 = .ok (.istore_n 3, 1) := by decide +kernel
theorem d1010_19 : decode (jm_b 1010) 19 = .ok (.aload_n 0, 1) := by decide +kernel
theorem d1010_20 : decode (jm_b 1010) 20 = .ok (.getfield 28, 3) := by decide +kernel
theorem d1010_23 : decode (jm_b 1010) 23 = .ok (.istore 4, 2) := by decide +kernel
theorem d1010_25 : decode (jm_b 1010) 25 = .ok (.iload 4, 2) := by decide +kernel
theorem d1010_27 : decode (jm_b 1010) 27 = .ok (.aload_n 0, 1) := by decide +kernel
theorem d1010_28 : decode (jm_b 1010) 28 = .ok (.getfield 19, 3) := by decide +kernel
theorem d1010_31 : decode (jm_b 1010) 31 = .ok (.if_icmp .ge 36, 3) := by decide +kernel
theorem d1010_34 : decode (jm_b 1010) 34 = .ok (.iload 4, 2) := by decide +kernel
theorem d1010_36 : decode (jm_b 1010) 36 = .ok (.aload_n 0, 1) := by decide +kernel
theorem d1010_37 : decode (jm_b 1010) 37 = .ok (.getfield 28, 3) := by decide +kernel
theorem d1010_40 : decode (jm_b 1010) 40 = .ok (.iconst 5, 1) := by decide +kernel
theorem d1010_41 : decode (jm_b 1010) 41 = .ok (.iadd, 1) := by decide +kernel
theorem d1010_42 : decode (jm_b 1010) 42 = .ok (.if_icmp .ge 25, 3) := by decide +kernel
theorem d1010_45 : decode (jm_b 1010) 45 = .ok (.iload_n 3, 1) := by decide +kernel
theorem d1010_46 : decode (jm_b 1010) 46 = .ok (.bipush 10, 2) := by decide +kernel
theorem d1010_48 : decode (jm_b 1010) 48 = .ok (.imul, 1) := by decide +kernel
theorem d1010_49 : decode (jm_b 1010) 49 = .ok (.aload_n 0, 1) := by decide +kernel
theorem d1010_50 : decode (jm_b 1010) 50 = .ok (.getfield 9, 3) := by decide +kernel
theorem d1010_53 : decode (jm_b 1010) 53 = .ok (.iload 4, 2) := by decide +kernel
theorem d1010_55 : decode (jm_b 1010) 55 = .ok (.iaload, 1) := by decide +kernel
theorem d1010_56 : decode (jm_b 1010) 56 = .ok (.iadd, 1) := by decide +kernel
theorem d1010_57 : decode (jm_b 1010) 57 = .ok (.bipush 48, 2) := by decide +kernel
theorem d1010_59 : decode (jm_b 1010) 59 = .ok (.isub, 1) := by decide +kernel
theorem d1010_60 : decode (jm_b 1010) 60 = .ok (.istore_n 3, 1) := by decide +kernel
theorem d1010_61 : decode (jm_b 1010) 61 = .ok (.iinc 4 1, 3) := by decide +kernel
theorem d1010_64 : decode (jm_b 1010) 64 = .ok (.goto (-39), 3) := by decide +kernel
theorem d1010_67 : decode (jm_b 1010) 67 = .ok (.aload_n 0, 1) := by decide +kernel
theorem d1010_68 : decode (jm_b 1010) 68 = .ok (.getfield 19, 3) := by decide +kernel
theorem d1010_71 : decode (jm_b 1010) 71 = .ok (.aload_n 0, 1) := by decide +kernel
theorem d1010_72 : decode (jm_b 1010) 72 = .ok (.getfield 28, 3) := by decide +kernel
theorem d1010_75 : decode (jm_b 1010) 75 = .ok (.isub, 1) := by decide +kernel
theorem d1010_76 : decode (jm_b 1010) 76 = .ok (.iconst 5, 1) := by decide +kernel
theorem d1010_77 : decode (jm_b 1010) 77 = .ok (.if_icmp .gt 13, 3) := by decide +kernel
theorem d1010_80 : decode (jm_b 1010) 80 = .ok (.iload_n 3, 1) := by decide +kernel
theorem d1010_81 : decode (jm_b 1010) 81 = .ok (.iload_n 1, 1) := by decide +kernel
theorem d1010_82 : decode (jm_b 1010) 82 = .ok (.if_icmp .lt 8, 3) := by decide +kernel
theorem d1010_85 : decode (jm_b 1010) 85 = .ok (.iload_n 3, 1) := by decide +kernel
theorem d1010_86 : decode (jm_b 1010) 86 = .ok (.iload_n 2, 1) := by decide +kernel
theorem d1010_87 : decode (jm_b 1010) 87 = .ok (.if_icmp .le 10, 3) := by decide +kernel
theorem d1010_90 : decode (jm_b 1010) 90 = .ok (.aload_n 0, 1) := by decide +kernel
theorem d1010_91 : decode (jm_b 1010) 91 = .ok (.iconst 1, 1) := by decide +kernel
theorem d1010_92 : decode (jm_b 1010) 92 = .ok (.invokevirtual 60, 3) := by decide +kernel
theorem d1010_95 : decode (jm_b 1010) 95 = .ok (.iload_n 1, 1) := by decide +kernel
theorem d1010_96 : decode (jm_b 1010) 96 = .ok (.ireturn, 1) := by decide +kernel
theorem d1010_97 : decode (jm_b 1010) 97 = .ok (.iload_n 3, 1) := by decide +kernel
theorem d1010_98 : decode (jm_b 1010) 98 = .ok (.ireturn, 1) := by decide +kernel
theorem d2006_0 : decode (jm_b 2006) 0 = .ok (.aload_n 0, 1) := by decide +kernel
theorem d2006_1 : decode (jm_b 2006) 1 = .ok (.getfield 18, 3) := by decide +kernel
theorem d2006_4 : decode (jm_b 2006) 4 = .ok (.iconst 0, 1) := by decide +kernel
theorem d2006_5 : decode (jm_b 2006) 5 = .ok (.aload_n 0, 1) := by decide +kernel
theorem d2006_6 : decode (jm_b 2006) 6 = .ok (.getfield 12, 3) := by decide +kernel
theorem d2006_9 : decode (jm_b 2006) 9 = .ok (.getfield 105, 3) := by decide +kernel
theorem d2006_12 : decode (jm_b 2006) 12 = .ok (.iconst 1, 1) := by decide +kernel
theorem d2006_13 : decode (jm_b 2006) 13 = .ok (.isub, 1) := by decide +kernel
theorem d2006_14 : decode (jm_b 2006) 14 = .ok (.invokevirtual 98, 3) := by decide +kernel
theorem d2006_17 : decode (jm_b 2006) 17 = .ok (.istore_n 1, 1) := by decide +kernel
theorem d2006_18 : decode (jm_b 2006) 18 = .ok (.aload_n 0, 1) := by decide +kernel
theorem d2006_19 : decode (jm_b 2006) 19 = .ok (.getfield 18, 3) := by decide +kernel
theorem d2006_22 : decode (jm_b 2006) 22 = .ok (.iconst 0, 1) := by decide +kernel
theorem d2006_23 : decode (jm_b 2006) 23 = .ok (.bipush 40, 2) := by decide +kernel
theorem d2006_25 : decode (jm_b 2006) 25 = .ok (.invokevirtual 98, 3) := by decide +kernel
theorem d2006_28 : decode (jm_b 2006) 28 = .ok (.bipush 20, 2) := by decide +kernel
theorem d2006_30 : decode (jm_b 2006) 30 = .ok (.isub, 1) := by decide +kernel
theorem d2006_31 : decode (jm_b 2006) 31 = .ok (.istore_n 2, 1) := by decide +kernel
theorem d2006_32 : decode (jm_b 2006) 32 = .ok (.aload_n 0, 1) := by decide +kernel
theorem d2006_33 : decode (jm_b 2006) 33 = .ok (.getfield 18, 3) := by decide +kernel
theorem d2006_36 : decode (jm_b 2006) 36 = .ok (.iconst 0, 1) := by decide +kernel
theorem d2006_37 : decode (jm_b 2006) 37 = .ok (.bipush 99, 2) := by decide +kernel
theorem d2006_39 : decode (jm_b 2006) 39 = .ok (.invokevirtual 98, 3) := by decide +kernel
theorem d2006_42 : decode (jm_b 2006) 42 = .ok (.istore_n 3, 1) := by decide +kernel
theorem d2006_43 : decode (jm_b 2006) 43 = .ok (.aload_n 0, 1) := by decide +kernel
theorem d2006_44 : decode (jm_b 2006) 44 = .ok (.getfield 18, 3) := by decide +kernel
theorem d2006_47 : decode (jm_b 2006) 47 = .ok (.iconst 0, 1) := by decide +kernel
theorem d2006_48 : decode (jm_b 2006) 48 = .ok (.bipush 9, 2) := by decide +kernel
theorem d2006_50 : decode (jm_b 2006) 50 = .ok (.invokevirtual 98, 3) := by decide +kernel
theorem d2006_53 : decode (jm_b 2006) 53 = .ok (.istore 4, 2) := by decide +kernel
theorem d2006_55 : decode (jm_b 2006) 55 = .ok (.aload_n 0, 1) := by decide +kernel
theorem d2006_56 : decode (jm_b 2006) 56 = .ok (.getfield 18, 3) := by decide +kernel
theorem d2006_59 : decode (jm_b 2006) 59 = .ok (.getfield 102, 3) := by decide +kernel
theorem d2006_62 : decode (jm_b 2006) 62 = .ok (.ifCond .ne 43, 3) := by decide +kernel
theorem d2006_65 : decode (jm_b 2006) 65 = .ok (.aload_n 0, 1) := by decide +kernel
theorem d2006_66 : decode (jm_b 2006) 66 = .ok (.getfield 12, 3) := by decide +kernel
theorem d2006_69 : decode (jm_b 2006) 69 = .ok (.getfield 27, 3) := by decide +kernel
theorem d2006_72 : decode (jm_b 2006) 72 = .ok (.getfield 111, 3) := by decide +kernel
theorem d2006_75 : decode (jm_b 2006) 75 = .ok (.iload_n 1, 1) := by decide +kernel
theorem d2006_76 : decode (jm_b 2006) 76 = .ok (.iload_n 2, 1) := by decide +kernel
theorem d2006_77 : decode (jm_b 2006) 77 = .ok (.iastore, 1) := by decide +kernel
theorem d2006_78 : decode (jm_b 2006) 78 = .ok (.aload_n 0, 1) := by decide +kernel
theorem d2006_79 : decode (jm_b 2006) 79 = .ok (.getfield 12, 3) := by decide +kernel
theorem d2006_82 : decode (jm_b 2006) 82 = .ok (.getfield 27, 3) := by decide +kernel
theorem d2006_85 : decode (jm_b 2006) 85 = .ok (.getfield 30, 3) := by decide +kernel
theorem d2006_88 : decode (jm_b 2006) 88 = .ok (.iload_n 1, 1) := by decide +kernel
theorem d2006_89 : decode (jm_b 2006) 89 = .ok (.iload_n 3, 1) := by decide +kernel
theorem d2006_90 : decode (jm_b 2006) 90 = .ok (.iastore, 1) := by decide +kernel
theorem d2006_91 : decode (jm_b 2006) 91 = .ok (.aload_n 0, 1) := by decide +kernel
theorem d2006_92 : decode (jm_b 2006) 92 = .ok (.getfield 12, 3) := by decide +kernel
theorem d2006_95 : decode (jm_b 2006) 95 = .ok (.getfield 27, 3) := by decide +kernel
theorem d2006_98 : decode (jm_b 2006) 98 = .ok (.getfield 114, 3) := by decide +kernel
theorem d2006_101 : decode (jm_b 2006) 101 = .ok (.iload_n 1, 1) := by decide +kernel
theorem d2006_102 : decode (jm_b 2006) 102 = .ok (.iload 4, 2) := by decide +kernel
theorem d2006_104 : decode (jm_b 2006) 104 = .ok (.iastore, 1) := by decide +kernel
theorem d2006_105 : decode (jm_b 2006) 105 = .ok (.return_, 1) := by decide +kernel
theorem d2007_0 : decode (jm_b 2007) 0 = .ok (.aload_n 0, 1) := by decide +kernel
theorem d2007_1 : decode (jm_b 2007) 1 = .ok (.getfield 18, 3) := by decide +kernel
theorem d2007_4 : decode (jm_b 2007) 4 = .ok (.iconst 0, 1) := by decide +kernel
theorem d2007_5 : decode (jm_b 2007) 5 = .ok (.bipush 99, 2) := by decide +kernel
theorem d2007_7 : decode (jm_b 2007) 7 = .ok (.invokevirtual 98, 3) := by decide +kernel
theorem d2007_10 : decode (jm_b 2007) 10 = .ok (.istore_n 1, 1) := by decide +kernel
theorem d2007_11 : decode (jm_b 2007) 11 = .ok (.aload_n 0, 1) := by decide +kernel
theorem d2007_12 : decode (jm_b 2007) 12 = .ok (.getfield 18, 3) := by decide +kernel
theorem d2007_15 : decode (jm_b 2007) 15 = .ok (.iload_n 1, 1) := by decide +kernel
theorem d2007_16 : decode (jm_b 2007) 16 = .ok (.bipush 99, 2) := by decide +kernel
theorem d2007_18 : decode (jm_b 2007) 18 = .ok (.invokevirtual 98, 3) := by decide +kernel
theorem d2007_21 : decode (jm_b 2007) 21 = .ok (.istore_n 2, 1) := by decide +kernel
theorem d2007_22 : decode (jm_b 2007) 22 = .ok (.aload_n 0, 1) := by decide +kernel
theorem d2007_23 : decode (jm_b 2007) 23 = .ok (.getfield 18, 3) := by decide +kernel
theorem d2007_26 : decode (jm_b 2007) 26 = .ok (.iconst 1, 1) := by decide +kernel
theorem d2007_27 : decode (jm_b 2007) 27 = .ok (.bipush 9, 2) := by decide +kernel
theorem d2007_29 : decode (jm_b 2007) 29 = .ok (.invokevirtual 98, 3) := by decide +kernel
theorem d2007_32 : decode (jm_b 2007) 32 = .ok (.istore_n 3, 1) := by decide +kernel
theorem d2007_33 : decode (jm_b 2007) 33 = .ok (.aload_n 0, 1) := by decide +kernel
theorem d2007_34 : decode (jm_b 2007) 34 = .ok (.getfield 18, 3) := by decide +kernel
theorem d2007_37 : decode (jm_b 2007) 37 = .ok (.getfield 102, 3) := by decide +kernel
theorem d2007_40 : decode (jm_b 2007) 40 = .ok (.ifCond .ne 29, 3) := by decide +kernel
theorem d2007_43 : decode (jm_b 2007) 43 = .ok (.iload_n 1, 1) := by decide +kernel
theorem d2007_44 : decode (jm_b 2007) 44 = .ok (.istore 4, 2) := by decide +kernel
theorem d2007_46 : decode (jm_b 2007) 46 = .ok (.iload 4, 2) := by decide +kernel
theorem d2007_48 : decode (jm_b 2007) 48 = .ok (.iload_n 2, 1) := by decide +kernel
theorem d2007_49 : decode (jm_b 2007) 49 = .ok (.if_icmp .gt 20, 3) := by decide +kernel
theorem d2007_52 : decode (jm_b 2007) 52 = .ok (.aload_n 0, 1) := by decide +kernel
theorem d2007_53 : decode (jm_b 2007) 53 = .ok (.getfield 12, 3) := by decide +kernel
theorem d2007_56 : decode (jm_b 2007) 56 = .ok (.getfield 117, 3) := by decide +kernel
theorem d2007_59 : decode (jm_b 2007) 59 = .ok (.iload 4, 2) := by decide +kernel
theorem d2007_61 : decode (jm_b 2007) 61 = .ok (.iload_n 3, 1) := by decide +kernel
theorem d2007_62 : decode (jm_b 2007) 62 = .ok (.iastore, 1) := by decide +kernel
theorem d2007_63 : decode (jm_b 2007) 63 = .ok (.iinc 4 1, 3) := by decide +kernel
theorem d2007_66 : decode (jm_b 2007) 66 = .ok (.goto (-20), 3) := by decide +kernel
theorem d2007_69 : decode (jm_b 2007) 69 = .ok (.return_, 1) := by decide +kernel
theorem d2008_0 : decode (jm_b 2008) 0 = .ok (.aload_n 0, 1) := by decide +kernel
theorem d2008_1 : decode (jm_b 2008) 1 = .ok (.getfield 18, 3) := by decide +kernel
theorem d2008_4 : decode (jm_b 2008) 4 = .ok (.iconst 0, 1) := by decide +kernel
theorem d2008_5 : decode (jm_b 2008) 5 = .ok (.aload_n 0, 1) := by decide +kernel
theorem d2008_6 : decode (jm_b 2008) 6 = .ok (.getfield 12, 3) := by decide +kernel
theorem d2008_9 : decode (jm_b 2008) 9 = .ok (.getfield 105, 3) := by decide +kernel
theorem d2008_12 : decode (jm_b 2008) 12 = .ok (.iconst 1, 1) := by decide +kernel
theorem d2008_13 : decode (jm_b 2008) 13 = .ok (.isub, 1) := by decide +kernel
theorem d2008_14 : decode (jm_b 2008) 14 = .ok (.invokevirtual 98, 3) := by decide +kernel
theorem d2008_17 : decode (jm_b 2008) 17 = .ok (.istore_n 1, 1) := by decide +kernel
theorem d2008_18 : decode (jm_b 2008) 18 = .ok (.aload_n 0, 1) := by decide +kernel
theorem d2008_19 : decode (jm_b 2008) 19 = .ok (.getfield 18, 3) := by decide +kernel
theorem d2008_22 : decode (jm_b 2008) 22 = .ok (.getfield 102, 3) := by decide +kernel
theorem d2008_25 : decode (jm_b 2008) 25 = .ok (.ifCond .ne 21, 3) := by decide +kernel
theorem d2008_28 : decode (jm_b 2008) 28 = .ok (.aload_n 0, 1) := by decide +kernel
theorem d2008_29 : decode (jm_b 2008) 29 = .ok (.getfield 12, 3) := by decide +kernel
theorem d2008_32 : decode (jm_b 2008) 32 = .ok (.getfield 27, 3) := by decide +kernel
theorem d2008_35 : decode (jm_b 2008) 35 = .ok (.dup, 1) := by decide +kernel
theorem d2008_36 : decode (jm_b 2008) 36 = .ok (.getfield 120, 3) := by decide +kernel
theorem d2008_39 : decode (jm_b 2008) 39 = .ok (.iconst 1, 1) := by decide +kernel
theorem d2008_40 : decode (jm_b 2008) 40 = .ok (.iload_n 1, 1) := by decide +kernel
theorem d2008_41 : decode (jm_b 2008) 41 = .ok (.ishl, 1) := by decide +kernel
theorem d2008_42 : decode (jm_b 2008) 42 = .ok (.ior, 1) := by decide +kernel
theorem d2008_43 : decode (jm_b 2008) 43 = .ok (.putfield 120, 3) := by decide +kernel
theorem d2008_46 : decode (jm_b 2008) 46 = .ok (.return_, 1) := by decide +kernel
theorem d2009_0 : decode (jm_b 2009) 0 = .ok (.aload_n 0, 1) := by decide +kernel
theorem d2009_1 : decode (jm_b 2009) 1 = .ok (.getfield 18, 3) := by decide +kernel
theorem d2009_4 : decode (jm_b 2009) 4 = .ok (.iconst 0, 1) := by decide +kernel
theorem d2009_5 : decode (jm_b 2009) 5 = .ok (.aload_n 0, 1) := by decide +kernel
theorem d2009_6 : decode (jm_b 2009) 6 = .ok (.getfield 12, 3) := by decide +kernel
theorem d2009_9 : decode (jm_b 2009) 9 = .ok (.getfield 105, 3) := by decide +kernel
theorem d2009_12 : decode (jm_b 2009) 12 = .ok (.iconst 1, 1) := by decide +kernel
theorem d2009_13 : decode (jm_b 2009) 13 = .ok (.isub, 1) := by decide +kernel
theorem d2009_14 : decode (jm_b 2009) 14 = .ok (.invokevirtual 98, 3) := by decide +kernel
theorem d2009_17 : decode (jm_b 2009) 17 = .ok (.istore_n 1, 1) := by decide +kernel
theorem d2009_18 : decode (jm_b 2009) 18 = .ok (.aload_n 0, 1) := by decide +kernel
theorem d2009_19 : decode (jm_b 2009) 19 = .ok (.getfield 18, 3) := by decide +kernel
theorem d2009_22 : decode (jm_b 2009) 22 = .ok (.iconst 0, 1) := by decide +kernel
theorem d2009_23 : decode (jm_b 2009) 23 = .ok (.bipush 40, 2) := by decide +kernel
theorem d2009_25 : decode (jm_b 2009) 25 = .ok (.invokevirtual 98, 3) := by decide +kernel
theorem d2009_28 : decode (jm_b 2009) 28 = .ok (.bipush 20, 2) := by decide +kernel
theorem d2009_30 : decode (jm_b 2009) 30 = .ok (.isub, 1) := by decide +kernel
theorem d2009_31 : decode (jm_b 2009) 31 = .ok (.istore_n 2, 1) := by decide +kernel
theorem d2009_32 : decode (jm_b 2009) 32 = .ok (.aload_n 0, 1) := by decide +kernel
theorem d2009_33 : decode (jm_b 2009) 33 = .ok (.getfield 18, 3) := by decide +kernel
theorem d2009_36 : decode (jm_b 2009) 36 = .ok (.iconst 0, 1) := by decide +kernel
theorem d2009_37 : decode (jm_b 2009) 37 = .ok (.iconst 1, 1) := by decide +kernel
theorem d2009_38 : decode (jm_b 2009) 38 = .ok (.invokevirtual 98, 3) := by decide +kernel
theorem d2009_41 : decode (jm_b 2009) 41 = .ok (.istore_n 3, 1) := by decide +kernel
theorem d2009_42 : decode (jm_b 2009) 42 = .ok (.aload_n 0, 1) := by decide +kernel
theorem d2009_43 : decode (jm_b 2009) 43 = .ok (.getfield 18, 3) := by decide +kernel
theorem d2009_46 : decode (jm_b 2009) 46 = .ok (.getfield 102, 3) := by decide +kernel
theorem d2009_49 : decode (jm_b 2009) 49 = .ok (.ifCond .ne 74, 3) := by decide +kernel
theorem d2009_52 : decode (jm_b 2009) 52 = .ok (.aload_n 0, 1) := by decide +kernel
theorem d2009_53 : decode (jm_b 2009) 53 = .ok (.getfield 12, 3) := by decide +kernel
theorem d2009_56 : decode (jm_b 2009) 56 = .ok (.getfield 48, 3) := by decide +kernel
theorem d2009_59 : decode (jm_b 2009) 59 = .ok (.istore 4, 2) := by decide +kernel
theorem d2009_61 : decode (jm_b 2009) 61 = .ok (.aload_n 0, 1) := by decide +kernel
theorem d2009_62 : decode (jm_b 2009) 62 = .ok (.getfield 12, 3) := by decide +kernel
theorem d2009_65 : decode (jm_b 2009) 65 = .ok (.getfield 122, 3) := by decide +kernel
theorem d2009_68 : decode (jm_b 2009) 68 = .ok (.iload 4, 2) := by decide +kernel
theorem d2009_70 : decode (jm_b 2009) 70 = .ok (.iload_n 1, 1) := by decide +kernel
theorem d2009_71 : decode (jm_b 2009) 71 = .ok (.iastore, 1) := by decide +kernel
theorem d2009_72 : decode (jm_b 2009) 72 = .ok (.aload_n 0, 1) := by decide +kernel
theorem d2009_73 : decode (jm_b 2009) 73 = .ok (.getfield 12, 3) := by decide +kernel
theorem d2009_76 : decode (jm_b 2009) 76 = .ok (.getfield 125, 3) := by decide +kernel
theorem d2009_79 : decode (jm_b 2009) 79 = .ok (.iload 4, 2) := by decide +kernel
theorem d2009_81 : decode (jm_b 2009) 81 = .ok (.iload_n 2, 1) := by decide +kernel
theorem d2009_82 : decode (jm_b 2009) 82 = .ok (.iastore, 1) := by decide +kernel
theorem d2009_83 : decode (jm_b 2009) 83 = .ok (.aload_n 0, 1) := by decide +kernel
theorem d2009_84 : decode (jm_b 2009) 84 = .ok (.getfield 12, 3) := by decide +kernel
theorem d2009_87 : decode (jm_b 2009) 87 = .ok (.getfield 128, 3) := by decide +kernel
theorem d2009_90 : decode (jm_b 2009) 90 = .ok (.iload 4, 2) := by decide +kernel
theorem d2009_92 : decode (jm_b 2009) 92 = .ok (.iload_n 3, 1) := by decide +kernel
theorem d2009_93 : decode (jm_b 2009) 93 = .ok (.iastore, 1) := by decide +kernel
theorem d2009_94 : decode (jm_b 2009) 94 = .ok (.aload_n 0, 1) := by decide +kernel
theorem d2009_95 : decode (jm_b 2009) 95 = .ok (.getfield 12, 3) := by decide +kernel
theorem d2009_98 : decode (jm_b 2009) 98 = .ok (.getfield 131, 3) := by decide +kernel
theorem d2009_101 : decode (jm_b 2009) 101 = .ok (.iload_n 1, 1) := by decide +kernel
theorem d2009_102 : decode (jm_b 2009) 102 = .ok (.dup2, 1) := by decide +kernel
theorem d2009_103 : decode (jm_b 2009) 103 = .ok (.iaload, 1) := by decide +kernel
theorem d2009_104 : decode (jm_b 2009) 104 = .ok (.iconst 1, 1) := by decide +kernel
theorem d2009_105 : decode (jm_b 2009) 105 = .ok (.iload 4, 2) := by decide +kernel
theorem d2009_107 : decode (jm_b 2009) 107 = .ok (.ishl, 1) := by decide +kernel
theorem d2009_108 : decode (jm_b 2009) 108 = .ok (.ior, 1) := by decide +kernel
theorem d2009_109 : decode (jm_b 2009) 109 = .ok (.iastore, 1) := by decide +kernel
theorem d2009_110 : decode (jm_b 2009) 110 = .ok (.aload_n 0, 1) := by decide +kernel
theorem d2009_111 : decode (jm_b 2009) 111 = .ok (.getfield 12, 3) := by decide +kernel
theorem d2009_114 : decode (jm_b 2009) 114 = .ok (.dup, 1) := by decide +kernel
theorem d2009_115 : decode (jm_b 2009) 115 = .ok (.getfield 48, 3) := by decide +kernel
theorem d2009_118 : decode (jm_b 2009) 118 = .ok (.iconst 1, 1) := by decide +kernel
theorem d2009_119 : decode (jm_b 2009) 119 = .ok (.iadd, 1) := by decide +kernel
theorem d2009_120 : decode (jm_b 2009) 120 = .ok (.putfield 48, 3) := by decide +kernel
theorem d2009_123 : decode (jm_b 2009) 123 = .ok (.return_, 1) := by decide +kernel
theorem d2010_0 : decode (jm_b 2010) 0 = .ok (.aload_n 0, 1) := by decide +kernel
theorem d2010_1 : decode (jm_b 2010) 1 = .ok (.getfield 18, 3) := by decide +kernel
theorem d2010_4 : decode (jm_b 2010) 4 = .ok (.iconst 0, 1) := by decide +kernel
theorem d2010_5 : decode (jm_b 2010) 5 = .ok (.aload_n 0, 1) := by decide +kernel
theorem d2010_6 : decode (jm_b 2010) 6 = .ok (.getfield 12, 3) := by decide +kernel
theorem d2010_9 : decode (jm_b 2010) 9 = .ok (.getfield 48, 3) := by decide +kernel
theorem d2010_12 : decode (jm_b 2010) 12 = .ok (.iconst 1, 1) := by decide +kernel
theorem d2010_13 : decode (jm_b 2010) 13 = .ok (.isub, 1) := by decide +kernel
theorem d2010_14 : decode (jm_b 2010) 14 = .ok (.invokevirtual 98, 3) := by decide +kernel
theorem d2010_17 : decode (jm_b 2010) 17 = .ok (.istore_n 1, 1) := by decide +kernel
theorem d2010_18 : decode (jm_b 2010) 18 = .ok (.aload_n 0, 1) := by decide +kernel
theorem d2010_19 : decode (jm_b 2010) 19 = .ok (.getfield 18, 3) := by decide +kernel
theorem d2010_22 : decode (jm_b 2010) 22 = .ok (.iconst 0, 1) := by decide +kernel
theorem d2010_23 : decode (jm_b 2010) 23 = .ok (.iconst 1, 1) := by decide +kernel
theorem d2010_24 : decode (jm_b 2010) 24 = .ok (.invokevirtual 98, 3) := by decide +kernel
theorem d2010_27 : decode (jm_b 2010) 27 = .ok (.istore_n 2, 1) := by decide +kernel
theorem d2010_28 : decode (jm_b 2010) 28 = .ok (.aload_n 0, 1) := by decide +kernel
theorem d2010_29 : decode (jm_b 2010) 29 = .ok (.getfield 18, 3) := by decide +kernel
theorem d2010_32 : decode (jm_b 2010) 32 = .ok (.getfield 102, 3) := by decide +kernel
theorem d2010_35 : decode (jm_b 2010) 35 = .ok (.ifCond .ne 48, 3) := by decide +kernel
theorem d2010_38 : decode (jm_b 2010) 38 = .ok (.aload_n 0, 1) := by decide +kernel
theorem d2010_39 : decode (jm_b 2010) 39 = .ok (.getfield 12, 3) := by decide +kernel
theorem d2010_42 : decode (jm_b 2010) 42 = .ok (.getfield 134, 3) := by decide +kernel
theorem d2010_45 : decode (jm_b 2010) 45 = .ok (.aload_n 0, 1) := by decide +kernel
theorem d2010_46 : decode (jm_b 2010) 46 = .ok (.getfield 12, 3) := by decide +kernel
theorem d2010_49 : decode (jm_b 2010) 49 = .ok (.getfield 52, 3) := by decide +kernel
theorem d2010_52 : decode (jm_b 2010) 52 = .ok (.iload_n 1, 1) := by decide +kernel
theorem d2010_53 : decode (jm_b 2010) 53 = .ok (.iastore, 1) := by decide +kernel
theorem d2010_54 : decode (jm_b 2010) 54 = .ok (.aload_n 0, 1) := by decide +kernel
theorem d2010_55 : decode (jm_b 2010) 55 = .ok (.getfield 12, 3) := by decide +kernel
theorem d2010_58 : decode (jm_b 2010) 58 = .ok (.getfield 137, 3) := by decide +kernel
theorem d2010_61 : decode (jm_b 2010) 61 = .ok (.aload_n 0, 1) := by decide +kernel
theorem d2010_62 : decode (jm_b 2010) 62 = .ok (.getfield 12, 3) := by decide +kernel
theorem d2010_65 : decode (jm_b 2010) 65 = .ok (.getfield 52, 3) := by decide +kernel
theorem d2010_68 : decode (jm_b 2010) 68 = .ok (.iload_n 2, 1) := by decide +kernel
theorem d2010_69 : decode (jm_b 2010) 69 = .ok (.iastore, 1) := by decide +kernel
theorem d2010_70 : decode (jm_b 2010) 70 = .ok (.aload_n 0, 1) := by decide +kernel
theorem d2010_71 : decode (jm_b 2010) 71 = .ok (.getfield 12, 3) := by decide +kernel
theorem d2010_74 : decode (jm_b 2010) 74 = .ok (.dup, 1) := by decide +kernel
theorem d2010_75 : decode (jm_b 2010) 75 = .ok (.getfield 52, 3) := by decide +kernel
theorem d2010_78 : decode (jm_b 2010) 78 = .ok (.iconst 1, 1) := by decide +kernel
theorem d2010_79 : decode (jm_b 2010) 79 = .ok (.iadd, 1) := by decide +kernel
theorem d2010_80 : decode (jm_b 2010) 80 = .ok (.putfield 52, 3) := by decide +kernel
theorem d2010_83 : decode (jm_b 2010) 83 = .ok (.return_, 1) := by decide +kernel
theorem d1011_0 : decode (jm_b 1011) 0 = .ok (.aload_n 0, 1) := by decide +kernel
theorem d1011_1 : decode (jm_b 1011) 1 = .ok (.getfield 37, 3) := by decide +kernel
theorem d1011_4 : decode (jm_b 1011) 4 = .ok (.bipush 59, 2) := by decide +kernel
theorem d1011_6 : decode (jm_b 1011) 6 = .ok (.if_icmp .ne 9, 3) := by decide +kernel
theorem d1011_9 : decode (jm_b 1011) 9 = .ok (.aload_n 0, 1) := by decide +kernel
theorem d1011_10 : decode (jm_b 1011) 10 = .ok (.invokevirtual 25, 3) := by decide +kernel
theorem d1011_13 : decode (jm_b 1011) 13 = .ok (.iconst 1, 1) := by decide +kernel
theorem d1011_14 : decode (jm_b 1011) 14 = .ok (.ireturn, 1) := by decide +kernel
theorem d1011_15 : decode (jm_b 1011) 15 = .ok (.aload_n 0, 1) := by decide +kernel
theorem d1011_16 : decode (jm_b 1011) 16 = .ok (.getfield 37, 3) := by decide +kernel
theorem d1011_19 : decode (jm_b 1011) 19 = .ok (.iconst (-1), 1) := by decide +kernel
theorem d1011_20 : decode (jm_b 1011) 20 = .ok (.if_icmp .eq 8, 3) := by decide +kernel
theorem d1011_23 : decode (jm_b 1011) 23 = .ok (.aload_n 0, 1) := by decide +kernel
theorem d1011_24 : decode (jm_b 1011) 24 = .ok (.iconst 0, 1) := by decide +kernel
theorem d1011_25 : decode (jm_b 1011) 25 = .ok (.invokevirtual 60, 3) := by decide +kernel
theorem d1011_28 : decode (jm_b 1011) 28 = .ok (.iconst 0, 1) := by decide +kernel
theorem d1011_29 : decode (jm_b 1011) 29 = .ok (.ireturn, 1) := by decide +kernel
theorem d7001_0 : decode (jm_b 7001) 0 = .ok (.aload_n 0, 1) := by decide +kernel
theorem d7001_1 : decode (jm_b 7001) 1 = .ok (.aload_n 1, 1) := by decide +kernel
theorem d7001_2 : decode (jm_b 7001) 2 = .ok (.putfield 12, 3) := by decide +kernel
theorem d7001_5 : decode (jm_b 7001) 5 = .ok (.aload_n 0, 1) := by decide +kernel
theorem d7001_6 : decode (jm_b 7001) 6 = .ok (.getfield 21, 3) := by decide +kernel
theorem d7001_9 : decode (jm_b 7001) 9 = .ok (.aload_n 1, 1) := by decide +kernel
theorem d7001_10 : decode (jm_b 7001) 10 = .ok (.getfield 64, 3) := by decide +kernel
theorem d7001_13 : decode (jm_b 7001) 13 = .ok (.invokevirtual 42, 3) := by decide +kernel
theorem d7001_16 : decode (jm_b 7001) 16 = .ok (.aload_n 0, 1) := by decide +kernel
theorem d7001_17 : decode (jm_b 7001) 17 = .ok (.iconst 0, 1) := by decide +kernel
theorem d7001_18 : decode (jm_b 7001) 18 = .ok (.putfield 49, 3) := by decide +kernel
theorem d7001_21 : decode (jm_b 7001) 21 = .ok (.aload_n 0, 1) := by decide +kernel
theorem d7001_22 : decode (jm_b 7001) 22 = .ok (.iconst 0, 1) := by decide +kernel
theorem d7001_23 : decode (jm_b 7001) 23 = .ok (.putfield 61, 3) := by decide +kernel
theorem d7001_26 : decode (jm_b 7001) 26 = .ok (.return_, 1) := by decide +kernel
theorem d4001_0 : decode (jm_b 4001) 0 = .ok (.aload_n 1, 1) := by decide +kernel
theorem d4001_1 : decode (jm_b 4001) 1 = .ok (.getfield 9, 3) := by decide +kernel
theorem d4001_4 : decode (jm_b 4001) 4 = .ok (.iconst 0, 1) := by decide +kernel
theorem d4001_5 : decode (jm_b 4001) 5 = .ok (.aload_n 0, 1) := by decide +kernel
theorem d4001_6 : decode (jm_b 4001) 6 = .ok (.getfield 9, 3) := by decide +kernel
theorem d4001_9 : decode (jm_b 4001) 9 = .ok (.iconst 0, 1) := by decide +kernel
theorem d4001_10 : decode (jm_b 4001) 10 = .ok (.bipush 10, 2) := by decide +kernel
theorem d4001_12 : decode (jm_b 4001) 12 = .ok (.invokestatic 24, 3) := by decide +kernel
theorem d4001_15 : decode (jm_b 4001) 15 = .ok (.aload_n 1, 1) := by decide +kernel
theorem d4001_16 : decode (jm_b 4001) 16 = .ok (.getfield 15, 3) := by decide +kernel
theorem d4001_19 : decode (jm_b 4001) 19 = .ok (.iconst 0, 1) := by decide +kernel
theorem d4001_20 : decode (jm_b 4001) 20 = .ok (.aload_n 0, 1) := by decide +kernel
theorem d4001_21 : decode (jm_b 4001) 21 = .ok (.getfield 15, 3) := by decide +kernel
theorem d4001_24 : decode (jm_b 4001) 24 = .ok (.iconst 0, 1) := by decide +kernel
theorem d4001_25 : decode (jm_b 4001) 25 = .ok (.bipush 10, 2) := by decide +kernel
theorem d4001_27 : decode (jm_b 4001) 27 = .ok (.invokestatic 24, 3) := by decide +kernel
theorem d4001_30 : decode (jm_b 4001) 30 = .ok (.aload_n 1, 1) := by decide +kernel
theorem d4001_31 : decode (jm_b 4001) 31 = .ok (.getfield 18, 3) := by decide +kernel
theorem d4001_34 : decode (jm_b 4001) 34 = .ok (.iconst 0, 1) := by decide +kernel
theorem d4001_35 : decode (jm_b 4001) 35 = .ok (.aload_n 0, 1) := by decide +kernel
theorem d4001_36 : decode (jm_b 4001) 36 = .ok (.getfield 18, 3) := by decide +kernel
theorem d4001_39 : decode (jm_b 4001) 39 = .ok (.iconst 0, 1) := by decide +kernel
theorem d4001_40 : decode (jm_b 4001) 40 = .ok (.bipush 10, 2) := by decide +kernel
theorem d4001_42 : decode (jm_b 4001) 42 = .ok (.invokestatic 24, 3) := by decide +kernel
theorem d4001_45 : decode (jm_b 4001) 45 = .ok (.aload_n 1, 1) := by decide +kernel
theorem d4001_46 : decode (jm_b 4001) 46 = .ok (.getfield 21, 3) := by decide +kernel
theorem d4001_49 : decode (jm_b 4001) 49 = .ok (.iconst 0, 1) := by decide +kernel
theorem d4001_50 : decode (jm_b 4001) 50 = .ok (.aload_n 0, 1) := by decide +kernel
theorem d4001_51 : decode (jm_b 4001) 51 = .ok (.getfield 21, 3) := by decide +kernel
theorem d4001_54 : decode (jm_b 4001) 54 = .ok (.iconst 0, 1) := by decide +kernel
theorem d4001_55 : decode (jm_b 4001) 55 = .ok (.bipush 8, 2) := by decide +kernel
theorem d4001_57 : decode (jm_b 4001) 57 = .ok (.invokestatic 24, 3) := by decide +kernel
theorem d4001_60 : decode (jm_b 4001) 60 = .ok (.aload_n 0, 1) := by decide +kernel
theorem d4001_61 : decode (jm_b 4001) 61 = .ok (.aload_n 1, 1) := by decide +kernel
theorem d4001_62 : decode (jm_b 4001) 62 = .ok (.getfield 30, 3) := by decide +kernel
theorem d4001_65 : decode (jm_b 4001) 65 = .ok (.putfield 30, 3) := by decide +kernel
theorem d4001_68 : decode (jm_b 4001) 68 = .ok (.aload_n 0, 1) := by decide +kernel
theorem d4001_69 : decode (jm_b 4001) 69 = .ok (.aload_n 1, 1) := by decide +kernel
theorem d4001_70 : decode (jm_b 4001) 70 = .ok (.getfield 34, 3) := by decide +kernel
theorem d4001_73 : decode (jm_b 4001) 73 = .ok (.putfield 34, 3) := by decide +kernel
theorem d4001_76 : decode (jm_b 4001) 76 = .ok (.return_, 1) := by decide +kernel
theorem d4_0 : decode (jm_b 4) 0 = .ok (.aload_n 0, 1) := by decide +kernel
theorem d4_1 : decode (jm_b 4) 1 = .ok (.getfield 41, 3) := by decide +kernel
theorem d4_4 : decode (jm_b 4) 4 = .ok (.getfield 117, 3) := by decide +kernel
theorem d4_7 : decode (jm_b 4) 7 = .ok (.ifCond .lt 21, 3) := by decide +kernel
theorem d4_10 : decode (jm_b 4) 10 = .ok (.aload_n 0, 1) := by decide +kernel
theorem d4_11 : decode (jm_b 4) 11 = .ok (.getfield 41, 3) := by decide +kernel
theorem d4_14 : decode (jm_b 4) 14 = .ok (.getfield 117, 3) := by decide +kernel
theorem d4_17 : decode (jm_b 4) 17 = .ok (.aload_n 0, 1) := by decide +kernel
theorem d4_18 : decode (jm_b 4) 18 = .ok (.getfield 111, 3) := by decide +kernel
theorem d4_21 : decode (jm_b 4) 21 = .ok (.if_icmp .ge 7, 3) := by decide +kernel
theorem d4_24 : decode (jm_b 4) 24 = .ok (.iconst 1, 1) := by decide +kernel
theorem d4_25 : decode (jm_b 4) 25 = .ok (.goto 4, 3) := by decide +kernel
theorem d4_28 : decode (jm_b 4) 28 = .ok (.iconst 0, 1) := by decide +kernel
theorem d4_29 : decode (jm_b 4) 29 = .ok (.istore_n 1, 1) := by decide +kernel
theorem d4_30 : decode (jm_b 4) 30 = .ok (.aload_n 0, 1) := by decide +kernel
theorem d4_31 : decode (jm_b 4) 31 = .ok (.getfield 56, 3) := by decide +kernel
theorem d4_34 : decode (jm_b 4) 34 = .ok (.aload_n 0, 1) := by decide +kernel
theorem d4_35 : decode (jm_b 4) 35 = .ok (.getfield 41, 3) := by decide +kernel
theorem d4_38 : decode (jm_b 4) 38 = .ok (.getfield 143, 3) := by decide +kernel
theorem d4_41 : decode (jm_b 4) 41 = .ok (.iload_n 1, 1) := by decide +kernel
theorem d4_42 : decode (jm_b 4) 42 = .ok (.ifCond .eq 18, 3) := by decide +kernel
theorem d4_45 : decode (jm_b 4) 45 = .ok (.aload_n 0, 1) := by decide +kernel
theorem d4_46 : decode (jm_b 4) 46 = .ok (.getfield 34, 3) := by decide +kernel
theorem d4_49 : decode (jm_b 4) 49 = .ok (.aload_n 0, 1) := by decide +kernel
theorem d4_50 : decode (jm_b 4) 50 = .ok (.getfield 41, 3) := by decide +kernel
theorem d4_53 : decode (jm_b 4) 53 = .ok (.getfield 117, 3) := by decide +kernel
theorem d4_56 : decode (jm_b 4) 56 = .ok (.aaload, 1) := by decide +kernel
theorem d4_57 : decode (jm_b 4) 57 = .ok (.goto 4, 3) := by decide +kernel
theorem d4_60 : decode (jm_b 4) 60 = .ok (.aconst_null, 1) := by decide +kernel
theorem d4_61 : decode (jm_b 4) 61 = .ok (.invokevirtual 325, 3) := by decide +kernel
theorem d4_64 : decode (jm_b 4) 64 = .ok (.return_, 1) := by decide +kernel
theorem d8001_0 : decode (jm_b 8001) 0 = .ok (.aload_n 0, 1) := by decide +kernel
theorem d8001_1 : decode (jm_b 8001) 1 = .ok (.aload_n 1, 1) := by decide +kernel
theorem d8001_2 : decode (jm_b 8001) 2 = .ok (.putfield 12, 3) := by decide +kernel
theorem d8001_5 : decode (jm_b 8001) 5 = .ok (.aload_n 0, 1) := by decide +kernel
theorem d8001_6 : decode (jm_b 8001) 6 = .ok (.aload_n 2, 1) := by decide +kernel
theorem d8001_7 : decode (jm_b 8001) 7 = .ok (.putfield 28, 3) := by decide +kernel
theorem d8001_10 : decode (jm_b 8001) 10 = .ok (.return_, 1) := by decide +kernel
theorem d5_0 : decode (jm_b 5) 0 = .ok (.aload_n 0, 1) := by decide +kernel
theorem d5_1 : decode (jm_b 5) 1 = .ok (.getfield 111, 3) := by decide +kernel
theorem d5_4 : decode (jm_b 5) 4 = .ok (.bipush 6, 2) := by decide +kernel
theorem d5_6 : decode (jm_b 5) 6 = .ok (.if_icmp .lt 5, 3) := by decide +kernel
theorem d5_9 : decode (jm_b 5) 9 = .ok (.iconst (-1), 1) := by decide +kernel
theorem d5_10 : decode (jm_b 5) 10 = .ok (.ireturn, 1) := by decide +kernel
theorem d5_11 : decode (jm_b 5) 11 = .ok (.aload_n 0, 1) := by decide +kernel
theorem d5_12 : decode (jm_b 5) 12 = .ok (.getfield 28, 3) := by decide +kernel
theorem d5_15 : decode (jm_b 5) 15 = .ok (.aload_n 0, 1) := by decide +kernel
theorem d5_16 : decode (jm_b 5) 16 = .ok (.getfield 34, 3) := by decide +kernel
theorem d5_19 : decode (jm_b 5) 19 = .ok (.aload_n 0, 1) := by decide +kernel
theorem d5_20 : decode (jm_b 5) 20 = .ok (.getfield 111, 3) := by decide +kernel
theorem d5_23 : decode (jm_b 5) 23 = .ok (.aaload, 1) := by decide +kernel
theorem d5_24 : decode (jm_b 5) 24 = .ok (.invokevirtual 114, 3) := by decide +kernel
theorem d5_27 : decode (jm_b 5) 27 = .ok (.aload_n 0, 1) := by decide +kernel
theorem d5_28 : decode (jm_b 5) 28 = .ok (.getfield 10, 3) := by decide +kernel
theorem d5_31 : decode (jm_b 5) 31 = .ok (.iconst 0, 1) := by decide +kernel
theorem d5_32 : decode (jm_b 5) 32 = .ok (.putfield 84, 3) := by decide +kernel
theorem d5_35 : decode (jm_b 5) 35 = .ok (.aload_n 0, 1) := by decide +kernel
theorem d5_36 : decode (jm_b 5) 36 = .ok (.getfield 10, 3) := by decide +kernel
theorem d5_39 : decode (jm_b 5) 39 = .ok (.getfield 96, 3) := by decide +kernel
theorem d5_42 : decode (jm_b 5) 42 = .ok (.ifCond .eq 14, 3) := by decide +kernel
theorem d5_45 : decode (jm_b 5) 45 = .ok (.bipush (-2), 2) := by decide +kernel
theorem d5_47 : decode (jm_b 5) 47 = .ok (.aload_n 0, 1) := by decide +kernel
theorem d5_48 : decode (jm_b 5) 48 = .ok (.getfield 10, 3) := by decide +kernel
theorem d5_51 : decode (jm_b 5) 51 = .ok (.getfield 96, 3) := by decide +kernel
theorem d5_54 : decode (jm_b 5) 54 = .ok (.isub, 1) := by decide +kernel
theorem d5_55 : decode (jm_b 5) 55 = .ok (.ireturn, 1) := by decide +kernel
theorem d5_56 : decode (jm_b 5) 56 = .ok (.aload_n 0, 1) := by decide +kernel
theorem d5_57 : decode (jm_b 5) 57 = .ok (.dup, 1) := by decide +kernel
theorem d5_58 : decode (jm_b 5) 58 = .ok (.getfield 111, 3) := by decide +kernel
theorem d5_61 : decode (jm_b 5) 61 = .ok (.iconst 1, 1) := by decide +kernel
theorem d5_62 : decode (jm_b 5) 62 = .ok (.iadd, 1) := by decide +kernel
theorem d5_63 : decode (jm_b 5) 63 = .ok (.putfield 111, 3) := by decide +kernel
theorem d5_66 : decode (jm_b 5) 66 = .ok (.aload_n 0, 1) := by decide +kernel
theorem d5_67 : decode (jm_b 5) 67 = .ok (.getfield 111, 3) := by decide +kernel
theorem d5_70 : decode (jm_b 5) 70 = .ok (.iconst 1, 1) := by decide +kernel
theorem d5_71 : decode (jm_b 5) 71 = .ok (.isub, 1) := by decide +kernel
theorem d5_72 : decode (jm_b 5) 72 = .ok (.ireturn, 1) := by decide +kernel
theorem d6001_0 : decode (jm_b 6001) 0 = .ok (.aload_n 0, 1) := by decide +kernel
theorem d6001_1 : decode (jm_b 6001) 1 = .ok (.aload_n 1, 1) := by decide +kernel
theorem d6001_2 : decode (jm_b 6001) 2 = .ok (.putfield 10, 3) := by decide +kernel
theorem d6001_5 : decode (jm_b 6001) 5 = .ok (.aload_n 0, 1) := by decide +kernel
theorem d6001_6 : decode (jm_b 6001) 6 = .ok (.getfield 10, 3) := by decide +kernel
theorem d6001_9 : decode (jm_b 6001) 9 = .ok (.invokevirtual 20, 3) := by decide +kernel
theorem d6001_12 : decode (jm_b 6001) 12 = .ok (.aload_n 0, 1) := by decide +kernel
theorem d6001_13 : decode (jm_b 6001) 13 = .ok (.iconst 0, 1) := by decide +kernel
theorem d6001_14 : decode (jm_b 6001) 14 = .ok (.putfield 23, 3) := by decide +kernel
theorem d6001_17 : decode (jm_b 6001) 17 = .ok (.aload_n 0, 1) := by decide +kernel
theorem d6001_18 : decode (jm_b 6001) 18 = .ok (.getfield 16, 3) := by decide +kernel
theorem d6001_21 : decode (jm_b 6001) 21 = .ok (.invokevirtual 27, 3) := by decide +kernel
theorem d6001_24 : decode (jm_b 6001) 24 = .ok (.iconst 1, 1) := by decide +kernel
theorem d6001_25 : decode (jm_b 6001) 25 = .ok (.istore_n 2, 1) := by decide +kernel
theorem d6001_26 : decode (jm_b 6001) 26 = .ok (.iconst 0, 1) := by decide +kernel
theorem d6001_27 : decode (jm_b 6001) 27 = .ok (.istore_n 3, 1) := by decide +kernel
theorem d6001_28 : decode (jm_b 6001) 28 = .ok (.iload_n 2, 1) := by decide +kernel
theorem d6001_29 : decode (jm_b 6001) 29 = .ok (.ifCond .eq 124, 3) := by decide +kernel
theorem d6001_32 : decode (jm_b 6001) 32 = .ok (.iload_n 3, 1) := by decide +kernel
theorem d6001_33 : decode (jm_b 6001) 33 = .ok (.bipush 12, 2) := by decide +kernel
theorem d6001_35 : decode (jm_b 6001) 35 = .ok (.if_icmp .gt 118, 3) := by decide +kernel
theorem d6001_38 : decode (jm_b 6001) 38 = .ok (.aload_n 0, 1) := by decide +kernel
theorem d6001_39 : decode (jm_b 6001) 39 = .ok (.getfield 16, 3) := by decide +kernel
theorem d6001_42 : decode (jm_b 6001) 42 = .ok (.ldc 32, 2) := by decide +kernel
theorem d6001_44 : decode (jm_b 6001) 44 = .ok (.invokevirtual 34, 3) := by decide +kernel
theorem d6001_47 : decode (jm_b 6001) 47 = .ok (.ifCond .ne 14, 3) := by decide +kernel
theorem d6001_50 : decode (jm_b 6001) 50 = .ok (.aload_n 0, 1) := by decide +kernel
theorem d6001_51 : decode (jm_b 6001) 51 = .ok (.getfield 16, 3) := by decide +kernel
theorem d6001_54 : decode (jm_b 6001) 54 = .ok (.iconst 0, 1) := by decide +kernel
theorem d6001_55 : decode (jm_b 6001) 55 = .ok (.invokevirtual 38, 3) := by decide +kernel
theorem d6001_58 : decode (jm_b 6001) 58 = .ok (.goto 17, 3) := by decide +kernel
theorem d6001_61 : decode (jm_b 6001) 61 = .ok (.iload_n 3, 1) := by decide +kernel
theorem d6001_62 : decode (jm_b 6001) 62 = .ok (.bipush 12, 2) := by decide +kernel
theorem d6001_64 : decode (jm_b 6001) 64 = .ok (.if_icmp .ne 11, 3) := by decide +kernel
theorem d6001_67 : decode (jm_b 6001) 67 = .ok (.aload_n 0, 1) := by decide +kernel
theorem d6001_68 : decode (jm_b 6001) 68 = .ok (.getfield 16, 3) := by decide +kernel
theorem d6001_71 : decode (jm_b 6001) 71 = .ok (.iconst 4, 1) := by decide +kernel
theorem d6001_72 : decode (jm_b 6001) 72 = .ok (.invokevirtual 38, 3) := by decide +kernel
theorem d6001_75 : decode (jm_b 6001) 75 = .ok (.aload_n 0, 1) := by decide +kernel
theorem d6001_76 : decode (jm_b 6001) 76 = .ok (.getfield 16, 3) := by decide +kernel
theorem d6001_79 : decode (jm_b 6001) 79 = .ok (.invokevirtual 42, 3) := by decide +kernel
theorem d6001_82 : decode (jm_b 6001) 82 = .ok (.aload_n 0, 1) := by decide +kernel
theorem d6001_83 : decode (jm_b 6001) 83 = .ok (.getfield 10, 3) := by decide +kernel
theorem d6001_86 : decode (jm_b 6001) 86 = .ok (.getfield 45, 3) := by decide +kernel
theorem d6001_89 : decode (jm_b 6001) 89 = .ok (.istore 4, 2) := by decide +kernel
theorem d6001_91 : decode (jm_b 6001) 91 = .ok (.aload_n 0, 1) := by decide +kernel
theorem d6001_92 : decode (jm_b 6001) 92 = .ok (.invokevirtual 48, 3) := by decide +kernel
theorem d6001_95 : decode (jm_b 6001) 95 = .ok (.aload_n 0, 1) := by decide +kernel
theorem d6001_96 : decode (jm_b 6001) 96 = .ok (.getfield 10, 3) := by decide +kernel
theorem d6001_99 : decode (jm_b 6001) 99 = .ok (.getfield 45, 3) := by decide +kernel
theorem d6001_102 : decode (jm_b 6001) 102 = .ok (.istore 5, 2) := by decide +kernel
theorem d6001_104 : decode (jm_b 6001) 104 = .ok (.aload_n 0, 1) := by decide +kernel
theorem d6001_105 : decode (jm_b 6001) 105 = .ok (.getfield 16, 3) := by decide +kernel
theorem d6001_108 : decode (jm_b 6001) 108 = .ok (.ldc 51, 2) := by decide +kernel
theorem d6001_110 : decode (jm_b 6001) 110 = .ok (.invokevirtual 34, 3) := by decide +kernel
theorem d6001_113 : decode (jm_b 6001) 113 = .ok (.ifCond .eq 15, 3) := by decide +kernel
theorem d6001_116 : decode (jm_b 6001) 116 = .ok (.aload_n 0, 1) := by decide +kernel
theorem d6001_117 : decode (jm_b 6001) 117 = .ok (.getfield 16, 3) := by decide +kernel
theorem d6001_120 : decode (jm_b 6001) 120 = .ok (.invokevirtual 42, 3) := by decide +kernel
theorem d6001_123 : decode (jm_b 6001) 123 = .ok (.aload_n 0, 1) := by decide +kernel
theorem d6001_124 : decode (jm_b 6001) 124 = .ok (.iconst 0, 1) := by decide +kernel
theorem d6001_125 : decode (jm_b 6001) 125 = .ok (.invokevirtual 53, 3) := by decide +kernel
theorem d6001_128 : decode (jm_b 6001) 128 = .ok (.aload_n 0, 1) := by decide +kernel
theorem d6001_129 : decode (jm_b 6001) 129 = .ok (.getfield 10, 3) := by decide +kernel
theorem d6001_132 : decode (jm_b 6001) 132 = .ok (.iload 4, 2) := by decide +kernel
theorem d6001_134 : decode (jm_b 6001) 134 = .ok (.iload 5, 2) := by decide +kernel
theorem d6001_136 : decode (jm_b 6001) 136 = .ok (.invokevirtual 56, 3) := by decide +kernel
theorem d6001_139 : decode (jm_b 6001) 139 = .ok (.aload_n 0, 1) := by decide +kernel
theorem d6001_140 : decode (jm_b 6001) 140 = .ok (.getfield 16, 3) := by decide +kernel
theorem d6001_143 : decode (jm_b 6001) 143 = .ok (.invokevirtual 60, 3) := by decide +kernel
theorem d6001_146 : decode (jm_b 6001) 146 = .ok (.istore_n 2, 1) := by decide +kernel
theorem d6001_147 : decode (jm_b 6001) 147 = .ok (.iinc 3 1, 3) := by decide +kernel
theorem d6001_150 : decode (jm_b 6001) 150 = .ok (.goto (-122), 3) := by decide +kernel
theorem d6001_153 : decode (jm_b 6001) 153 = .ok (.return_, 1) := by decide +kernel
theorem d5001_0 : decode (jm_b 5001) 0 = .ok (.aload_n 0, 1) := by decide +kernel
theorem d5001_1 : decode (jm_b 5001) 1 = .ok (.iconst 0, 1) := by decide +kernel
theorem d5001_2 : decode (jm_b 5001) 2 = .ok (.putfield 28, 3) := by decide +kernel
theorem d5001_5 : decode (jm_b 5001) 5 = .ok (.aload_n 0, 1) := by decide +kernel
theorem d5001_6 : decode (jm_b 5001) 6 = .ok (.iconst 0, 1) := by decide +kernel
theorem d5001_7 : decode (jm_b 5001) 7 = .ok (.putfield 32, 3) := by decide +kernel
theorem d5001_10 : decode (jm_b 5001) 10 = .ok (.return_, 1) := by decide +kernel
theorem d6002_0 : decode (jm_b 6002) 0 = .ok (.iconst 0, 1) := by decide +kernel
theorem d6002_1 : decode (jm_b 6002) 1 = .ok (.istore_n 1, 1) := by decide +kernel
theorem d6002_2 : decode (jm_b 6002) 2 = .ok (.iconst 0, 1) := by decide +kernel
theorem d6002_3 : decode (jm_b 6002) 3 = .ok (.istore_n 2, 1) := by decide +kernel
theorem d6002_4 : decode (jm_b 6002) 4 = .ok (.iconst 1, 1) := by decide +kernel
theorem d6002_5 : decode (jm_b 6002) 5 = .ok (.istore_n 3, 1) := by decide +kernel
theorem d6002_6 : decode (jm_b 6002) 6 = .ok (.iconst 0, 1) := by decide +kernel
theorem d6002_7 : decode (jm_b 6002) 7 = .ok (.istore 4, 2) := by decide +kernel
theorem d6002_9 : decode (jm_b 6002) 9 = .ok (.iload_n 3, 1) := by decide +kernel
theorem d6002_10 : decode (jm_b 6002) 10 = .ok (.ifCond .eq 95, 3) := by decide +kernel
theorem d6002_13 : decode (jm_b 6002) 13 = .ok (.iload 4, 2) := by decide +kernel
theorem d6002_15 : decode (jm_b 6002) 15 = .ok (.bipush 60, 2) := by decide +kernel
theorem d6002_17 : decode (jm_b 6002) 17 = .ok (.if_icmp .gt 88, 3) := by decide +kernel
theorem d6002_20 : decode (jm_b 6002) 20 = .ok (.aload_n 0, 1) := by decide +kernel
theorem d6002_21 : decode (jm_b 6002) 21 = .ok (.invokevirtual 90, 3) := by decide +kernel
theorem d6002_24 : decode (jm_b 6002) 24 = .ok (.iload_n 1, 1) := by decide +kernel
theorem d6002_25 : decode (jm_b 6002) 25 = .ok (.ifCond .eq 11, 3) := by decide +kernel
theorem d6002_28 : decode (jm_b 6002) 28 = .ok (.aload_n 0, 1) := by decide +kernel
theorem d6002_29 : decode (jm_b 6002) 29 = .ok (.getfield 10, 3) := by decide +kernel
theorem d6002_32 : decode (jm_b 6002) 32 = .ok (.iload_n 1, 1) := by decide +kernel
theorem d6002_33 : decode (jm_b 6002) 33 = .ok (.invokevirtual 67, 3) := by decide +kernel
theorem d6002_36 : decode (jm_b 6002) 36 = .ok (.aload_n 0, 1) := by decide +kernel
theorem d6002_37 : decode (jm_b 6002) 37 = .ok (.getfield 16, 3) := by decide +kernel
theorem d6002_40 : decode (jm_b 6002) 40 = .ok (.getfield 74, 3) := by decide +kernel
theorem d6002_43 : decode (jm_b 6002) 43 = .ok (.invokestatic 93, 3) := by decide +kernel
theorem d6002_46 : decode (jm_b 6002) 46 = .ok (.istore_n 1, 1) := by decide +kernel
theorem d6002_47 : decode (jm_b 6002) 47 = .ok (.iload_n 1, 1) := by decide +kernel
theorem d6002_48 : decode (jm_b 6002) 48 = .ok (.ifCond .ne 26, 3) := by decide +kernel
theorem d6002_51 : decode (jm_b 6002) 51 = .ok (.iload_n 2, 1) := by decide +kernel
theorem d6002_52 : decode (jm_b 6002) 52 = .ok (.ifCond .eq 11, 3) := by decide +kernel
theorem d6002_55 : decode (jm_b 6002) 55 = .ok (.aload_n 0, 1) := by decide +kernel
theorem d6002_56 : decode (jm_b 6002) 56 = .ok (.getfield 10, 3) := by decide +kernel
theorem d6002_59 : decode (jm_b 6002) 59 = .ok (.iload_n 2, 1) := by decide +kernel
theorem d6002_60 : decode (jm_b 6002) 60 = .ok (.invokevirtual 67, 3) := by decide +kernel
theorem d6002_63 : decode (jm_b 6002) 63 = .ok (.aload_n 0, 1) := by decide +kernel
theorem d6002_64 : decode (jm_b 6002) 64 = .ok (.getfield 16, 3) := by decide +kernel
theorem d6002_67 : decode (jm_b 6002) 67 = .ok (.getfield 74, 3) := by decide +kernel
theorem d6002_70 : decode (jm_b 6002) 70 = .ok (.invokestatic 96, 3) := by decide +kernel
theorem d6002_73 : decode (jm_b 6002) 73 = .ok (.istore_n 2, 1) := by decide +kernel
theorem d6002_74 : decode (jm_b 6002) 74 = .ok (.iload_n 1, 1) := by decide +kernel
theorem d6002_75 : decode (jm_b 6002) 75 = .ok (.ifCond .ne 7, 3) := by decide +kernel
theorem d6002_78 : decode (jm_b 6002) 78 = .ok (.iload_n 2, 1) := by decide +kernel
theorem d6002_79 : decode (jm_b 6002) 79 = .ok (.ifCond .eq 7, 3) := by decide +kernel
theorem d6002_82 : decode (jm_b 6002) 82 = .ok (.iconst 1, 1) := by decide +kernel
theorem d6002_83 : decode (jm_b 6002) 83 = .ok (.goto 4, 3) := by decide +kernel
theorem d6002_86 : decode (jm_b 6002) 86 = .ok (.iconst 0, 1) := by decide +kernel
theorem d6002_87 : decode (jm_b 6002) 87 = .ok (.istore_n 3, 1) := by decide +kernel
theorem d6002_88 : decode (jm_b 6002) 88 = .ok (.iload_n 3, 1) := by decide +kernel
theorem d6002_89 : decode (jm_b 6002) 89 = .ok (.ifCond .eq 10, 3) := by decide +kernel
theorem d6002_92 : decode (jm_b 6002) 92 = .ok (.aload_n 0, 1) := by decide +kernel
theorem d6002_93 : decode (jm_b 6002) 93 = .ok (.getfield 16, 3) := by decide +kernel
theorem d6002_96 : decode (jm_b 6002) 96 = .ok (.invokevirtual 42, 3) := by decide +kernel
theorem d6002_99 : decode (jm_b 6002) 99 = .ok (.iinc 4 1, 3) := by decide +kernel
theorem d6002_102 : decode (jm_b 6002) 102 = .ok (.goto (-93), 3) := by decide +kernel
theorem d6002_105 : decode (jm_b 6002) 105 = .ok (.return_, 1) := by decide +kernel
theorem d6003_0 : decode (jm_b 6003) 0 = .ok (.aload_n 0, 1) := by decide +kernel
theorem d6003_1 : decode (jm_b 6003) 1 = .ok (.getfield 16, 3) := by decide +kernel
theorem d6003_4 : decode (jm_b 6003) 4 = .ok (.getfield 74, 3) := by decide +kernel
theorem d6003_7 : decode (jm_b 6003) 7 = .ok (.sipush 257, 3) := by decide +kernel
theorem d6003_10 : decode (jm_b 6003) 10 = .ok (.if_icmp .ne 10, 3) := by decide +kernel
theorem d6003_13 : decode (jm_b 6003) 13 = .ok (.aload_n 0, 1) := by decide +kernel
theorem d6003_14 : decode (jm_b 6003) 14 = .ok (.invokevirtual 99, 3) := by decide +kernel
theorem d6003_17 : decode (jm_b 6003) 17 = .ok (.goto 13, 3) := by decide +kernel
theorem d6003_20 : decode (jm_b 6003) 20 = .ok (.aload_n 0, 1) := by decide +kernel
theorem d6003_21 : decode (jm_b 6003) 21 = .ok (.getfield 16, 3) := by decide +kernel
theorem d6003_24 : decode (jm_b 6003) 24 = .ok (.iconst 0, 1) := by decide +kernel
theorem d6003_25 : decode (jm_b 6003) 25 = .ok (.ldc 102, 2) := by decide +kernel
theorem d6003_27 : decode (jm_b 6003) 27 = .ok (.invokevirtual 103, 3) := by decide +kernel
theorem d6003_30 : decode (jm_b 6003) 30 = .ok (.istore_n 1, 1) := by decide +kernel
theorem d6003_31 : decode (jm_b 6003) 31 = .ok (.aload_n 0, 1) := by decide +kernel
theorem d6003_32 : decode (jm_b 6003) 32 = .ok (.invokevirtual 87, 3) := by decide +kernel
theorem d6003_35 : decode (jm_b 6003) 35 = .ok (.aload_n 0, 1) := by decide +kernel
theorem d6003_36 : decode (jm_b 6003) 36 = .ok (.getfield 16, 3) := by decide +kernel
theorem d6003_39 : decode (jm_b 6003) 39 = .ok (.invokevirtual 42, 3) := by decide +kernel
theorem d6003_42 : decode (jm_b 6003) 42 = .ok (.aload_n 0, 1) := by decide +kernel
theorem d6003_43 : decode (jm_b 6003) 43 = .ok (.getfield 10, 3) := by decide +kernel
theorem d6003_46 : decode (jm_b 6003) 46 = .ok (.iload_n 1, 1) := by decide +kernel
theorem d6003_47 : decode (jm_b 6003) 47 = .ok (.invokevirtual 67, 3) := by decide +kernel
theorem d6003_50 : decode (jm_b 6003) 50 = .ok (.return_, 1) := by decide +kernel
