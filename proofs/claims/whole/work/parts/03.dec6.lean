/-! decode rows (by program) -/
theorem d12103_0 : decode (jm_b 12103) 0 = .ok (.aload_n 0, 1) := by decide +kernel
theorem d12103_1 : decode (jm_b 12103) 1 = .ok (.iload_n 1, 1) := by decide +kernel
theorem d12103_2 : decode (jm_b 12103) 2 = .ok (.invokevirtual 178, 3) := by decide +kernel
theorem d12103_5 : decode (jm_b 12103) 5 = .ok (.ifCond .eq 34, 3) := by decide +kernel
theorem d12103_8 : decode (jm_b 12103) 8 = .ok (.aload_n 0, 1) := by decide +kernel
theorem d12103_9 : decode (jm_b 12103) 9 = .ok (.iload_n 2, 1) := by decide +kernel
theorem d12103_10 : decode (jm_b 12103) 10 = .ok (.invokevirtual 397, 3) := by decide +kernel
theorem d12103_13 : decode (jm_b 12103) 13 = .ok (.ifCond .eq 26, 3) := by decide +kernel
theorem d12103_16 : decode (jm_b 12103) 16 = .ok (.iload_n 3, 1) := by decide +kernel
theorem d12103_17 : decode (jm_b 12103) 17 = .ok (.i2l, 1) := by decide +kernel
theorem d12103_18 : decode (jm_b 12103) 18 = .ok (.lconst 1, 1) := by decide +kernel
theorem d12103_19 : decode (jm_b 12103) 19 = .ok (.ldc2_w 543, 3) := by decide +kernel
theorem d12103_22 : decode (jm_b 12103) 22 = .ok (.invokestatic 170, 3) := by decide +kernel
theorem d12103_25 : decode (jm_b 12103) 25 = .ok (.ifCond .eq 14, 3) := by decide +kernel
theorem d12103_28 : decode (jm_b 12103) 28 = .ok (.iload 4, 2) := by decide +kernel
theorem d12103_30 : decode (jm_b 12103) 30 = .ok (.i2l, 1) := by decide +kernel
theorem d12103_31 : decode (jm_b 12103) 31 = .ok (.lconst 0, 1) := by decide +kernel
theorem d12103_32 : decode (jm_b 12103) 32 = .ok (.lconst 1, 1) := by decide +kernel
theorem d12103_33 : decode (jm_b 12103) 33 = .ok (.invokestatic 170, 3) := by decide +kernel
theorem d12103_36 : decode (jm_b 12103) 36 = .ok (.ifCond .ne 6, 3) := by decide +kernel
theorem d12103_39 : decode (jm_b 12103) 39 = .ok (.bipush (-2), 2) := by decide +kernel
theorem d12103_41 : decode (jm_b 12103) 41 = .ok (.ireturn, 1) := by decide +kernel
theorem d12103_42 : decode (jm_b 12103) 42 = .ok (.aload_n 0, 1) := by decide +kernel
theorem d12103_43 : decode (jm_b 12103) 43 = .ok (.invokevirtual 482, 3) := by decide +kernel
theorem d12103_46 : decode (jm_b 12103) 46 = .ok (.iconst (-1), 1) := by decide +kernel
theorem d12103_47 : decode (jm_b 12103) 47 = .ok (.istore 5, 2) := by decide +kernel
theorem d12103_49 : decode (jm_b 12103) 49 = .ok (.aload_n 0, 1) := by decide +kernel
theorem d12103_50 : decode (jm_b 12103) 50 = .ok (.iload_n 1, 1) := by decide +kernel
theorem d12103_51 : decode (jm_b 12103) 51 = .ok (.iload_n 2, 1) := by decide +kernel
theorem d12103_52 : decode (jm_b 12103) 52 = .ok (.iload_n 3, 1) := by decide +kernel
theorem d12103_53 : decode (jm_b 12103) 53 = .ok (.iconst (-1), 1) := by decide +kernel
theorem d12103_54 : decode (jm_b 12103) 54 = .ok (.invokevirtual 545, 3) := by decide +kernel
theorem d12103_57 : decode (jm_b 12103) 57 = .ok (.istore 6, 2) := by decide +kernel
theorem d12103_59 : decode (jm_b 12103) 59 = .ok (.iload_n 3, 1) := by decide +kernel
theorem d12103_60 : decode (jm_b 12103) 60 = .ok (.iconst 1, 1) := by decide +kernel
theorem d12103_61 : decode (jm_b 12103) 61 = .ok (.isub, 1) := by decide +kernel
theorem d12103_62 : decode (jm_b 12103) 62 = .ok (.istore 7, 2) := by decide +kernel
theorem d12103_64 : decode (jm_b 12103) 64 = .ok (.iload 7, 2) := by decide +kernel
theorem d12103_66 : decode (jm_b 12103) 66 = .ok (.ifCond .lt 60, 3) := by decide +kernel
theorem d12103_69 : decode (jm_b 12103) 69 = .ok (.aload_n 0, 1) := by decide +kernel
theorem d12103_70 : decode (jm_b 12103) 70 = .ok (.iload_n 1, 1) := by decide +kernel
theorem d12103_71 : decode (jm_b 12103) 71 = .ok (.invokevirtual 182, 3) := by decide +kernel
theorem d12103_74 : decode (jm_b 12103) 74 = .ok (.ifCond .ne 52, 3) := by decide +kernel
theorem d12103_77 : decode (jm_b 12103) 77 = .ok (.aload_n 0, 1) := by decide +kernel
theorem d12103_78 : decode (jm_b 12103) 78 = .ok (.iload_n 1, 1) := by decide +kernel
theorem d12103_79 : decode (jm_b 12103) 79 = .ok (.iload_n 2, 1) := by decide +kernel
theorem d12103_80 : decode (jm_b 12103) 80 = .ok (.iload_n 3, 1) := by decide +kernel
theorem d12103_81 : decode (jm_b 12103) 81 = .ok (.iload 7, 2) := by decide +kernel
theorem d12103_83 : decode (jm_b 12103) 83 = .ok (.invokevirtual 545, 3) := by decide +kernel
theorem d12103_86 : decode (jm_b 12103) 86 = .ok (.istore 8, 2) := by decide +kernel
theorem d12103_88 : decode (jm_b 12103) 88 = .ok (.iload 8, 2) := by decide +kernel
theorem d12103_90 : decode (jm_b 12103) 90 = .ok (.iload 6, 2) := by decide +kernel
theorem d12103_92 : decode (jm_b 12103) 92 = .ok (.if_icmp .le 8, 3) := by decide +kernel
theorem d12103_95 : decode (jm_b 12103) 95 = .ok (.iload 7, 2) := by decide +kernel
theorem d12103_97 : decode (jm_b 12103) 97 = .ok (.goto 5, 3) := by decide +kernel
theorem d12103_100 : decode (jm_b 12103) 100 = .ok (.iload 5, 2) := by decide +kernel
theorem d12103_102 : decode (jm_b 12103) 102 = .ok (.istore 5, 2) := by decide +kernel
theorem d12103_104 : decode (jm_b 12103) 104 = .ok (.iload 8, 2) := by decide +kernel
theorem d12103_106 : decode (jm_b 12103) 106 = .ok (.iload 6, 2) := by decide +kernel
theorem d12103_108 : decode (jm_b 12103) 108 = .ok (.if_icmp .le 8, 3) := by decide +kernel
theorem d12103_111 : decode (jm_b 12103) 111 = .ok (.iload 8, 2) := by decide +kernel
theorem d12103_113 : decode (jm_b 12103) 113 = .ok (.goto 5, 3) := by decide +kernel
theorem d12103_116 : decode (jm_b 12103) 116 = .ok (.iload 6, 2) := by decide +kernel
theorem d12103_118 : decode (jm_b 12103) 118 = .ok (.istore 6, 2) := by decide +kernel
theorem d12103_120 : decode (jm_b 12103) 120 = .ok (.iinc 7 (-1), 3) := by decide +kernel
theorem d12103_123 : decode (jm_b 12103) 123 = .ok (.goto (-59), 3) := by decide +kernel
theorem d12103_126 : decode (jm_b 12103) 126 = .ok (.iload 4, 2) := by decide +kernel
theorem d12103_128 : decode (jm_b 12103) 128 = .ok (.iconst 1, 1) := by decide +kernel
theorem d12103_129 : decode (jm_b 12103) 129 = .ok (.if_icmp .ne 8, 3) := by decide +kernel
theorem d12103_132 : decode (jm_b 12103) 132 = .ok (.iload 6, 2) := by decide +kernel
theorem d12103_134 : decode (jm_b 12103) 134 = .ok (.goto 22, 3) := by decide +kernel
theorem d12103_137 : decode (jm_b 12103) 137 = .ok (.iload 5, 2) := by decide +kernel
theorem d12103_139 : decode (jm_b 12103) 139 = .ok (.iconst (-1), 1) := by decide +kernel
theorem d12103_140 : decode (jm_b 12103) 140 = .ok (.if_icmp .ne 7, 3) := by decide +kernel
theorem d12103_143 : decode (jm_b 12103) 143 = .ok (.iconst (-1), 1) := by decide +kernel
theorem d12103_144 : decode (jm_b 12103) 144 = .ok (.goto 12, 3) := by decide +kernel
theorem d12103_147 : decode (jm_b 12103) 147 = .ok (.aload_n 0, 1) := by decide +kernel
theorem d12103_148 : decode (jm_b 12103) 148 = .ok (.getfield 9, 3) := by decide +kernel
theorem d12103_151 : decode (jm_b 12103) 151 = .ok (.iconst 5, 1) := by decide +kernel
theorem d12103_152 : decode (jm_b 12103) 152 = .ok (.iaload, 1) := by decide +kernel
theorem d12103_153 : decode (jm_b 12103) 153 = .ok (.iload 5, 2) := by decide +kernel
theorem d12103_155 : decode (jm_b 12103) 155 = .ok (.iadd, 1) := by decide +kernel
theorem d12103_156 : decode (jm_b 12103) 156 = .ok (.ireturn, 1) := by decide +kernel
theorem d12104_0 : decode (jm_b 12104) 0 = .ok (.iconst 0, 1) := by decide +kernel
theorem d12104_1 : decode (jm_b 12104) 1 = .ok (.istore 5, 2) := by decide +kernel
theorem d12104_3 : decode (jm_b 12104) 3 = .ok (.iconst 0, 1) := by decide +kernel
theorem d12104_4 : decode (jm_b 12104) 4 = .ok (.istore 6, 2) := by decide +kernel
theorem d12104_6 : decode (jm_b 12104) 6 = .ok (.iload 6, 2) := by decide +kernel
theorem d12104_8 : decode (jm_b 12104) 8 = .ok (.iload_n 3, 1) := by decide +kernel
theorem d12104_9 : decode (jm_b 12104) 9 = .ok (.if_icmp .ge 61, 3) := by decide +kernel
theorem d12104_12 : decode (jm_b 12104) 12 = .ok (.aload_n 0, 1) := by decide +kernel
theorem d12104_13 : decode (jm_b 12104) 13 = .ok (.getfield 9, 3) := by decide +kernel
theorem d12104_16 : decode (jm_b 12104) 16 = .ok (.iconst 4, 1) := by decide +kernel
theorem d12104_17 : decode (jm_b 12104) 17 = .ok (.dup2, 1) := by decide +kernel
theorem d12104_18 : decode (jm_b 12104) 18 = .ok (.iaload, 1) := by decide +kernel
theorem d12104_19 : decode (jm_b 12104) 19 = .ok (.iload 6, 2) := by decide +kernel
theorem d12104_21 : decode (jm_b 12104) 21 = .ok (.iload 4, 2) := by decide +kernel
theorem d12104_23 : decode (jm_b 12104) 23 = .ok (.if_icmp .ne 9, 3) := by decide +kernel
theorem d12104_26 : decode (jm_b 12104) 26 = .ok (.iconst 1, 1) := by decide +kernel
theorem d12104_27 : decode (jm_b 12104) 27 = .ok (.iload_n 1, 1) := by decide +kernel
theorem d12104_28 : decode (jm_b 12104) 28 = .ok (.ishl, 1) := by decide +kernel
theorem d12104_29 : decode (jm_b 12104) 29 = .ok (.goto 4, 3) := by decide +kernel
theorem d12104_32 : decode (jm_b 12104) 32 = .ok (.iconst 0, 1) := by decide +kernel
theorem d12104_33 : decode (jm_b 12104) 33 = .ok (.ior, 1) := by decide +kernel
theorem d12104_34 : decode (jm_b 12104) 34 = .ok (.iastore, 1) := by decide +kernel
theorem d12104_35 : decode (jm_b 12104) 35 = .ok (.aload_n 0, 1) := by decide +kernel
theorem d12104_36 : decode (jm_b 12104) 36 = .ok (.invokevirtual 439, 3) := by decide +kernel
theorem d12104_39 : decode (jm_b 12104) 39 = .ok (.pop, 1) := by decide +kernel
theorem d12104_40 : decode (jm_b 12104) 40 = .ok (.iload 5, 2) := by decide +kernel
theorem d12104_42 : decode (jm_b 12104) 42 = .ok (.aload_n 0, 1) := by decide +kernel
theorem d12104_43 : decode (jm_b 12104) 43 = .ok (.iload_n 2, 1) := by decide +kernel
theorem d12104_44 : decode (jm_b 12104) 44 = .ok (.invokevirtual 394, 3) := by decide +kernel
theorem d12104_47 : decode (jm_b 12104) 47 = .ok (.aload_n 0, 1) := by decide +kernel
theorem d12104_48 : decode (jm_b 12104) 48 = .ok (.getfield 31, 3) := by decide +kernel
theorem d12104_51 : decode (jm_b 12104) 51 = .ok (.iload_n 2, 1) := by decide +kernel
theorem d12104_52 : decode (jm_b 12104) 52 = .ok (.iaload, 1) := by decide +kernel
theorem d12104_53 : decode (jm_b 12104) 53 = .ok (.if_icmp .ne 7, 3) := by decide +kernel
theorem d12104_56 : decode (jm_b 12104) 56 = .ok (.iconst 1, 1) := by decide +kernel
theorem d12104_57 : decode (jm_b 12104) 57 = .ok (.goto 4, 3) := by decide +kernel
theorem d12104_60 : decode (jm_b 12104) 60 = .ok (.iconst 0, 1) := by decide +kernel
theorem d12104_61 : decode (jm_b 12104) 61 = .ok (.iadd, 1) := by decide +kernel
theorem d12104_62 : decode (jm_b 12104) 62 = .ok (.istore 5, 2) := by decide +kernel
theorem d12104_64 : decode (jm_b 12104) 64 = .ok (.iinc 6 1, 3) := by decide +kernel
theorem d12104_67 : decode (jm_b 12104) 67 = .ok (.goto (-61), 3) := by decide +kernel
theorem d12104_70 : decode (jm_b 12104) 70 = .ok (.aload_n 0, 1) := by decide +kernel
theorem d12104_71 : decode (jm_b 12104) 71 = .ok (.invokevirtual 491, 3) := by decide +kernel
theorem d12104_74 : decode (jm_b 12104) 74 = .ok (.iload 5, 2) := by decide +kernel
theorem d12104_76 : decode (jm_b 12104) 76 = .ok (.ireturn, 1) := by decide +kernel
theorem d12105_0 : decode (jm_b 12105) 0 = .ok (.aload_n 0, 1) := by decide +kernel
theorem d12105_1 : decode (jm_b 12105) 1 = .ok (.invokevirtual 400, 3) := by decide +kernel
theorem d12105_4 : decode (jm_b 12105) 4 = .ok (.ifCond .eq 25, 3) := by decide +kernel
theorem d12105_7 : decode (jm_b 12105) 7 = .ok (.iload_n 1, 1) := by decide +kernel
theorem d12105_8 : decode (jm_b 12105) 8 = .ok (.i2l, 1) := by decide +kernel
theorem d12105_9 : decode (jm_b 12105) 9 = .ok (.lconst 1, 1) := by decide +kernel
theorem d12105_10 : decode (jm_b 12105) 10 = .ok (.ldc2_w 543, 3) := by decide +kernel
theorem d12105_13 : decode (jm_b 12105) 13 = .ok (.invokestatic 170, 3) := by decide +kernel
theorem d12105_16 : decode (jm_b 12105) 16 = .ok (.ifCond .eq 13, 3) := by decide +kernel
theorem d12105_19 : decode (jm_b 12105) 19 = .ok (.iload_n 2, 1) := by decide +kernel
theorem d12105_20 : decode (jm_b 12105) 20 = .ok (.i2l, 1) := by decide +kernel
theorem d12105_21 : decode (jm_b 12105) 21 = .ok (.lconst 0, 1) := by decide +kernel
theorem d12105_22 : decode (jm_b 12105) 22 = .ok (.lconst 1, 1) := by decide +kernel
theorem d12105_23 : decode (jm_b 12105) 23 = .ok (.invokestatic 170, 3) := by decide +kernel
theorem d12105_26 : decode (jm_b 12105) 26 = .ok (.ifCond .ne 5, 3) := by decide +kernel
theorem d12105_29 : decode (jm_b 12105) 29 = .ok (.iconst (-1), 1) := by decide +kernel
theorem d12105_30 : decode (jm_b 12105) 30 = .ok (.ireturn, 1) := by decide +kernel
theorem d12105_31 : decode (jm_b 12105) 31 = .ok (.iconst 1, 1) := by decide +kernel
theorem d12105_32 : decode (jm_b 12105) 32 = .ok (.aload_n 0, 1) := by decide +kernel
theorem d12105_33 : decode (jm_b 12105) 33 = .ok (.getfield 9, 3) := by decide +kernel
theorem d12105_36 : decode (jm_b 12105) 36 = .ok (.iconst 0, 1) := by decide +kernel
theorem d12105_37 : decode (jm_b 12105) 37 = .ok (.iaload, 1) := by decide +kernel
theorem d12105_38 : decode (jm_b 12105) 38 = .ok (.ishl, 1) := by decide +kernel
theorem d12105_39 : decode (jm_b 12105) 39 = .ok (.iconst 1, 1) := by decide +kernel
theorem d12105_40 : decode (jm_b 12105) 40 = .ok (.isub, 1) := by decide +kernel
theorem d12105_41 : decode (jm_b 12105) 41 = .ok (.aload_n 0, 1) := by decide +kernel
theorem d12105_42 : decode (jm_b 12105) 42 = .ok (.getfield 9, 3) := by decide +kernel
theorem d12105_45 : decode (jm_b 12105) 45 = .ok (.iconst 4, 1) := by decide +kernel
theorem d12105_46 : decode (jm_b 12105) 46 = .ok (.iaload, 1) := by decide +kernel
theorem d12105_47 : decode (jm_b 12105) 47 = .ok (.iconst (-1), 1) := by decide +kernel
theorem d12105_48 : decode (jm_b 12105) 48 = .ok (.ixor, 1) := by decide +kernel
theorem d12105_49 : decode (jm_b 12105) 49 = .ok (.iand, 1) := by decide +kernel
theorem d12105_50 : decode (jm_b 12105) 50 = .ok (.istore_n 3, 1) := by decide +kernel
theorem d12105_51 : decode (jm_b 12105) 51 = .ok (.bipush (-2), 2) := by decide +kernel
theorem d12105_53 : decode (jm_b 12105) 53 = .ok (.istore 4, 2) := by decide +kernel
theorem d12105_55 : decode (jm_b 12105) 55 = .ok (.aload_n 0, 1) := by decide +kernel
theorem d12105_56 : decode (jm_b 12105) 56 = .ok (.invokevirtual 482, 3) := by decide +kernel
theorem d12105_59 : decode (jm_b 12105) 59 = .ok (.iconst 0, 1) := by decide +kernel
theorem d12105_60 : decode (jm_b 12105) 60 = .ok (.istore 5, 2) := by decide +kernel
theorem d12105_62 : decode (jm_b 12105) 62 = .ok (.iload 5, 2) := by decide +kernel
theorem d12105_64 : decode (jm_b 12105) 64 = .ok (.iload_n 3, 1) := by decide +kernel
theorem d12105_65 : decode (jm_b 12105) 65 = .ok (.if_icmp .gt 70, 3) := by decide +kernel
theorem d12105_68 : decode (jm_b 12105) 68 = .ok (.iload 5, 2) := by decide +kernel
theorem d12105_70 : decode (jm_b 12105) 70 = .ok (.iload_n 3, 1) := by decide +kernel
theorem d12105_71 : decode (jm_b 12105) 71 = .ok (.iconst (-1), 1) := by decide +kernel
theorem d12105_72 : decode (jm_b 12105) 72 = .ok (.ixor, 1) := by decide +kernel
theorem d12105_73 : decode (jm_b 12105) 73 = .ok (.iand, 1) := by decide +kernel
theorem d12105_74 : decode (jm_b 12105) 74 = .ok (.ifCond .ne 55, 3) := by decide +kernel
theorem d12105_77 : decode (jm_b 12105) 77 = .ok (.iload 4, 2) := by decide +kernel
theorem d12105_79 : decode (jm_b 12105) 79 = .ok (.bipush (-2), 2) := by decide +kernel
theorem d12105_81 : decode (jm_b 12105) 81 = .ok (.if_icmp .eq 16, 3) := by decide +kernel
theorem d12105_84 : decode (jm_b 12105) 84 = .ok (.iload 5, 2) := by decide +kernel
theorem d12105_86 : decode (jm_b 12105) 86 = .ok (.invokestatic 503, 3) := by decide +kernel
theorem d12105_89 : decode (jm_b 12105) 89 = .ok (.iload 4, 2) := by decide +kernel
theorem d12105_91 : decode (jm_b 12105) 91 = .ok (.invokestatic 503, 3) := by decide +kernel
theorem d12105_94 : decode (jm_b 12105) 94 = .ok (.if_icmp .ge 35, 3) := by decide +kernel
theorem d12105_97 : decode (jm_b 12105) 97 = .ok (.aload_n 0, 1) := by decide +kernel
theorem d12105_98 : decode (jm_b 12105) 98 = .ok (.getfield 9, 3) := by decide +kernel
theorem d12105_101 : decode (jm_b 12105) 101 = .ok (.iconst 4, 1) := by decide +kernel
theorem d12105_102 : decode (jm_b 12105) 102 = .ok (.dup2, 1) := by decide +kernel
theorem d12105_103 : decode (jm_b 12105) 103 = .ok (.iaload, 1) := by decide +kernel
theorem d12105_104 : decode (jm_b 12105) 104 = .ok (.iload 5, 2) := by decide +kernel
theorem d12105_106 : decode (jm_b 12105) 106 = .ok (.ior, 1) := by decide +kernel
theorem d12105_107 : decode (jm_b 12105) 107 = .ok (.iastore, 1) := by decide +kernel
theorem d12105_108 : decode (jm_b 12105) 108 = .ok (.aload_n 0, 1) := by decide +kernel
theorem d12105_109 : decode (jm_b 12105) 109 = .ok (.iload_n 1, 1) := by decide +kernel
theorem d12105_110 : decode (jm_b 12105) 110 = .ok (.invokevirtual 485, 3) := by decide +kernel
theorem d12105_113 : decode (jm_b 12105) 113 = .ok (.ifCond .ne 8, 3) := by decide +kernel
theorem d12105_116 : decode (jm_b 12105) 116 = .ok (.iload 5, 2) := by decide +kernel
theorem d12105_118 : decode (jm_b 12105) 118 = .ok (.goto 5, 3) := by decide +kernel
theorem d12105_121 : decode (jm_b 12105) 121 = .ok (.iload 4, 2) := by decide +kernel
theorem d12105_123 : decode (jm_b 12105) 123 = .ok (.istore 4, 2) := by decide +kernel
theorem d12105_125 : decode (jm_b 12105) 125 = .ok (.aload_n 0, 1) := by decide +kernel
theorem d12105_126 : decode (jm_b 12105) 126 = .ok (.invokevirtual 491, 3) := by decide +kernel
theorem d12105_129 : decode (jm_b 12105) 129 = .ok (.iinc 5 1, 3) := by decide +kernel
theorem d12105_132 : decode (jm_b 12105) 132 = .ok (.goto (-70), 3) := by decide +kernel
theorem d12105_135 : decode (jm_b 12105) 135 = .ok (.iload 4, 2) := by decide +kernel
theorem d12105_137 : decode (jm_b 12105) 137 = .ok (.bipush (-2), 2) := by decide +kernel
theorem d12105_139 : decode (jm_b 12105) 139 = .ok (.if_icmp .eq 8, 3) := by decide +kernel
theorem d12105_142 : decode (jm_b 12105) 142 = .ok (.iload_n 2, 1) := by decide +kernel
theorem d12105_143 : decode (jm_b 12105) 143 = .ok (.iconst 1, 1) := by decide +kernel
theorem d12105_144 : decode (jm_b 12105) 144 = .ok (.if_icmp .ne 8, 3) := by decide +kernel
theorem d12105_147 : decode (jm_b 12105) 147 = .ok (.iload 4, 2) := by decide +kernel
theorem d12105_149 : decode (jm_b 12105) 149 = .ok (.goto 8, 3) := by decide +kernel
theorem d12105_152 : decode (jm_b 12105) 152 = .ok (.iload 4, 2) := by decide +kernel
theorem d12105_154 : decode (jm_b 12105) 154 = .ok (.invokestatic 503, 3) := by decide +kernel
theorem d12105_157 : decode (jm_b 12105) 157 = .ok (.ireturn, 1) := by decide +kernel
theorem d12106_0 : decode (jm_b 12106) 0 = .ok (.aload_n 0, 1) := by decide +kernel
theorem d12106_1 : decode (jm_b 12106) 1 = .ok (.invokevirtual 400, 3) := by decide +kernel
theorem d12106_4 : decode (jm_b 12106) 4 = .ok (.ifCond .eq 13, 3) := by decide +kernel
theorem d12106_7 : decode (jm_b 12106) 7 = .ok (.iload_n 1, 1) := by decide +kernel
theorem d12106_8 : decode (jm_b 12106) 8 = .ok (.i2l, 1) := by decide +kernel
theorem d12106_9 : decode (jm_b 12106) 9 = .ok (.lconst 0, 1) := by decide +kernel
theorem d12106_10 : decode (jm_b 12106) 10 = .ok (.lconst 1, 1) := by decide +kernel
theorem d12106_11 : decode (jm_b 12106) 11 = .ok (.invokestatic 170, 3) := by decide +kernel
theorem d12106_14 : decode (jm_b 12106) 14 = .ok (.ifCond .ne 5, 3) := by decide +kernel
theorem d12106_17 : decode (jm_b 12106) 17 = .ok (.iconst (-1), 1) := by decide +kernel
theorem d12106_18 : decode (jm_b 12106) 18 = .ok (.ireturn, 1) := by decide +kernel
theorem d12106_19 : decode (jm_b 12106) 19 = .ok (.iconst 0, 1) := by decide +kernel
theorem d12106_20 : decode (jm_b 12106) 20 = .ok (.istore_n 2, 1) := by decide +kernel
theorem d12106_21 : decode (jm_b 12106) 21 = .ok (.iconst 0, 1) := by decide +kernel
theorem d12106_22 : decode (jm_b 12106) 22 = .ok (.istore_n 3, 1) := by decide +kernel
theorem d12106_23 : decode (jm_b 12106) 23 = .ok (.iload_n 3, 1) := by decide +kernel
theorem d12106_24 : decode (jm_b 12106) 24 = .ok (.aload_n 0, 1) := by decide +kernel
theorem d12106_25 : decode (jm_b 12106) 25 = .ok (.getfield 9, 3) := by decide +kernel
theorem d12106_28 : decode (jm_b 12106) 28 = .ok (.iconst 0, 1) := by decide +kernel
theorem d12106_29 : decode (jm_b 12106) 29 = .ok (.iaload, 1) := by decide +kernel
theorem d12106_30 : decode (jm_b 12106) 30 = .ok (.if_icmp .ge 21, 3) := by decide +kernel
theorem d12106_33 : decode (jm_b 12106) 33 = .ok (.iload_n 2, 1) := by decide +kernel
theorem d12106_34 : decode (jm_b 12106) 34 = .ok (.aload_n 0, 1) := by decide +kernel
theorem d12106_35 : decode (jm_b 12106) 35 = .ok (.getfield 13, 3) := by decide +kernel
theorem d12106_38 : decode (jm_b 12106) 38 = .ok (.iload_n 3, 1) := by decide +kernel
theorem d12106_39 : decode (jm_b 12106) 39 = .ok (.iaload, 1) := by decide +kernel
theorem d12106_40 : decode (jm_b 12106) 40 = .ok (.bipush 20, 2) := by decide +kernel
theorem d12106_42 : decode (jm_b 12106) 42 = .ok (.iadd, 1) := by decide +kernel
theorem d12106_43 : decode (jm_b 12106) 43 = .ok (.iadd, 1) := by decide +kernel
theorem d12106_44 : decode (jm_b 12106) 44 = .ok (.istore_n 2, 1) := by decide +kernel
theorem d12106_45 : decode (jm_b 12106) 45 = .ok (.iinc 3 1, 3) := by decide +kernel
theorem d12106_48 : decode (jm_b 12106) 48 = .ok (.goto (-25), 3) := by decide +kernel
theorem d12106_51 : decode (jm_b 12106) 51 = .ok (.bipush 41, 2) := by decide +kernel
theorem d12106_53 : decode (jm_b 12106) 53 = .ok (.aload_n 0, 1) := by decide +kernel
theorem d12106_54 : decode (jm_b 12106) 54 = .ok (.getfield 9, 3) := by decide +kernel
theorem d12106_57 : decode (jm_b 12106) 57 = .ok (.iconst 0, 1) := by decide +kernel
theorem d12106_58 : decode (jm_b 12106) 58 = .ok (.iaload, 1) := by decide +kernel
theorem d12106_59 : decode (jm_b 12106) 59 = .ok (.imul, 1) := by decide +kernel
theorem d12106_60 : decode (jm_b 12106) 60 = .ok (.istore_n 3, 1) := by decide +kernel
theorem d12106_61 : decode (jm_b 12106) 61 = .ok (.iload_n 2, 1) := by decide +kernel
theorem d12106_62 : decode (jm_b 12106) 62 = .ok (.istore 4, 2) := by decide +kernel
theorem d12106_64 : decode (jm_b 12106) 64 = .ok (.iload_n 3, 1) := by decide +kernel
theorem d12106_65 : decode (jm_b 12106) 65 = .ok (.istore 5, 2) := by decide +kernel
theorem d12106_67 : decode (jm_b 12106) 67 = .ok (.iload 4, 2) := by decide +kernel
theorem d12106_69 : decode (jm_b 12106) 69 = .ok (.ifCond .eq 21, 3) := by decide +kernel
theorem d12106_72 : decode (jm_b 12106) 72 = .ok (.iload 5, 2) := by decide +kernel
theorem d12106_74 : decode (jm_b 12106) 74 = .ok (.iload 4, 2) := by decide +kernel
theorem d12106_76 : decode (jm_b 12106) 76 = .ok (.irem, 1) := by decide +kernel
theorem d12106_77 : decode (jm_b 12106) 77 = .ok (.istore 6, 2) := by decide +kernel
theorem d12106_79 : decode (jm_b 12106) 79 = .ok (.iload 4, 2) := by decide +kernel
theorem d12106_81 : decode (jm_b 12106) 81 = .ok (.istore 5, 2) := by decide +kernel
theorem d12106_83 : decode (jm_b 12106) 83 = .ok (.iload 6, 2) := by decide +kernel
theorem d12106_85 : decode (jm_b 12106) 85 = .ok (.istore 4, 2) := by decide +kernel
theorem d12106_87 : decode (jm_b 12106) 87 = .ok (.goto (-20), 3) := by decide +kernel
theorem d12106_90 : decode (jm_b 12106) 90 = .ok (.iload_n 1, 1) := by decide +kernel
theorem d12106_91 : decode (jm_b 12106) 91 = .ok (.ifCond .ne 10, 3) := by decide +kernel
theorem d12106_94 : decode (jm_b 12106) 94 = .ok (.iload_n 2, 1) := by decide +kernel
theorem d12106_95 : decode (jm_b 12106) 95 = .ok (.iload 5, 2) := by decide +kernel
theorem d12106_97 : decode (jm_b 12106) 97 = .ok (.idiv, 1) := by decide +kernel
theorem d12106_98 : decode (jm_b 12106) 98 = .ok (.goto 7, 3) := by decide +kernel
theorem d12106_101 : decode (jm_b 12106) 101 = .ok (.iload_n 3, 1) := by decide +kernel
theorem d12106_102 : decode (jm_b 12106) 102 = .ok (.iload 5, 2) := by decide +kernel
theorem d12106_104 : decode (jm_b 12106) 104 = .ok (.idiv, 1) := by decide +kernel
theorem d12106_105 : decode (jm_b 12106) 105 = .ok (.ireturn, 1) := by decide +kernel
theorem d12107_0 : decode (jm_b 12107) 0 = .ok (.iload_n 1, 1) := by decide +kernel
theorem d12107_1 : decode (jm_b 12107) 1 = .ok (.ifCond .ge 5, 3) := by decide +kernel
theorem d12107_4 : decode (jm_b 12107) 4 = .ok (.iconst (-1), 1) := by decide +kernel
theorem d12107_5 : decode (jm_b 12107) 5 = .ok (.ireturn, 1) := by decide +kernel
theorem d12107_6 : decode (jm_b 12107) 6 = .ok (.aload_n 0, 1) := by decide +kernel
theorem d12107_7 : decode (jm_b 12107) 7 = .ok (.getfield 9, 3) := by decide +kernel
theorem d12107_10 : decode (jm_b 12107) 10 = .ok (.bipush 7, 2) := by decide +kernel
theorem d12107_12 : decode (jm_b 12107) 12 = .ok (.iaload, 1) := by decide +kernel
theorem d12107_13 : decode (jm_b 12107) 13 = .ok (.istore_n 2, 1) := by decide +kernel
theorem d12107_14 : decode (jm_b 12107) 14 = .ok (.aload_n 0, 1) := by decide +kernel
theorem d12107_15 : decode (jm_b 12107) 15 = .ok (.getfield 9, 3) := by decide +kernel
theorem d12107_18 : decode (jm_b 12107) 18 = .ok (.bipush 7, 2) := by decide +kernel
theorem d12107_20 : decode (jm_b 12107) 20 = .ok (.iload_n 1, 1) := by decide +kernel
theorem d12107_21 : decode (jm_b 12107) 21 = .ok (.iastore, 1) := by decide +kernel
theorem d12107_22 : decode (jm_b 12107) 22 = .ok (.iload_n 2, 1) := by decide +kernel
theorem d12107_23 : decode (jm_b 12107) 23 = .ok (.ireturn, 1) := by decide +kernel
theorem d12108_0 : decode (jm_b 12108) 0 = .ok (.aload_n 0, 1) := by decide +kernel
theorem d12108_1 : decode (jm_b 12108) 1 = .ok (.invokevirtual 400, 3) := by decide +kernel
theorem d12108_4 : decode (jm_b 12108) 4 = .ok (.ifCond .eq 37, 3) := by decide +kernel
theorem d12108_7 : decode (jm_b 12108) 7 = .ok (.iload_n 1, 1) := by decide +kernel
theorem d12108_8 : decode (jm_b 12108) 8 = .ok (.i2l, 1) := by decide +kernel
theorem d12108_9 : decode (jm_b 12108) 9 = .ok (.lconst 1, 1) := by decide +kernel
theorem d12108_10 : decode (jm_b 12108) 10 = .ok (.ldc2_w 556, 3) := by decide +kernel
theorem d12108_13 : decode (jm_b 12108) 13 = .ok (.invokestatic 170, 3) := by decide +kernel
theorem d12108_16 : decode (jm_b 12108) 16 = .ok (.ifCond .eq 25, 3) := by decide +kernel
theorem d12108_19 : decode (jm_b 12108) 19 = .ok (.iload_n 2, 1) := by decide +kernel
theorem d12108_20 : decode (jm_b 12108) 20 = .ok (.i2l, 1) := by decide +kernel
theorem d12108_21 : decode (jm_b 12108) 21 = .ok (.lconst 1, 1) := by decide +kernel
theorem d12108_22 : decode (jm_b 12108) 22 = .ok (.ldc2_w 543, 3) := by decide +kernel
theorem d12108_25 : decode (jm_b 12108) 25 = .ok (.invokestatic 170, 3) := by decide +kernel
theorem d12108_28 : decode (jm_b 12108) 28 = .ok (.ifCond .eq 13, 3) := by decide +kernel
theorem d12108_31 : decode (jm_b 12108) 31 = .ok (.iload_n 3, 1) := by decide +kernel
theorem d12108_32 : decode (jm_b 12108) 32 = .ok (.i2l, 1) := by decide +kernel
theorem d12108_33 : decode (jm_b 12108) 33 = .ok (.lconst 0, 1) := by decide +kernel
theorem d12108_34 : decode (jm_b 12108) 34 = .ok (.lconst 1, 1) := by decide +kernel
theorem d12108_35 : decode (jm_b 12108) 35 = .ok (.invokestatic 170, 3) := by decide +kernel
theorem d12108_38 : decode (jm_b 12108) 38 = .ok (.ifCond .ne 5, 3) := by decide +kernel
theorem d12108_41 : decode (jm_b 12108) 41 = .ok (.iconst (-1), 1) := by decide +kernel
theorem d12108_42 : decode (jm_b 12108) 42 = .ok (.ireturn, 1) := by decide +kernel
theorem d12108_43 : decode (jm_b 12108) 43 = .ok (.aload_n 0, 1) := by decide +kernel
theorem d12108_44 : decode (jm_b 12108) 44 = .ok (.getfield 9, 3) := by decide +kernel
theorem d12108_47 : decode (jm_b 12108) 47 = .ok (.bipush 7, 2) := by decide +kernel
theorem d12108_49 : decode (jm_b 12108) 49 = .ok (.iaload, 1) := by decide +kernel
theorem d12108_50 : decode (jm_b 12108) 50 = .ok (.istore 4, 2) := by decide +kernel
theorem d12108_52 : decode (jm_b 12108) 52 = .ok (.iload 4, 2) := by decide +kernel
theorem d12108_54 : decode (jm_b 12108) 54 = .ok (.istore 5, 2) := by decide +kernel
theorem d12108_56 : decode (jm_b 12108) 56 = .ok (.iconst 0, 1) := by decide +kernel
theorem d12108_57 : decode (jm_b 12108) 57 = .ok (.istore 6, 2) := by decide +kernel
theorem d12108_59 : decode (jm_b 12108) 59 = .ok (.iconst 0, 1) := by decide +kernel
theorem d12108_60 : decode (jm_b 12108) 60 = .ok (.istore 7, 2) := by decide +kernel
theorem d12108_62 : decode (jm_b 12108) 62 = .ok (.aload_n 0, 1) := by decide +kernel
theorem d12108_63 : decode (jm_b 12108) 63 = .ok (.invokevirtual 482, 3) := by decide +kernel
theorem d12108_66 : decode (jm_b 12108) 66 = .ok (.aload_n 0, 1) := by decide +kernel
theorem d12108_67 : decode (jm_b 12108) 67 = .ok (.getfield 13, 3) := by decide +kernel
theorem d12108_70 : decode (jm_b 12108) 70 = .ok (.aload_n 0, 1) := by decide +kernel
theorem d12108_71 : decode (jm_b 12108) 71 = .ok (.getfield 157, 3) := by decide +kernel
theorem d12108_74 : decode (jm_b 12108) 74 = .ok (.invokestatic 357, 3) := by decide +kernel
theorem d12108_77 : decode (jm_b 12108) 77 = .ok (.iconst 0, 1) := by decide +kernel
theorem d12108_78 : decode (jm_b 12108) 78 = .ok (.istore 8, 2) := by decide +kernel
theorem d12108_80 : decode (jm_b 12108) 80 = .ok (.iload 8, 2) := by decide +kernel
theorem d12108_82 : decode (jm_b 12108) 82 = .ok (.iload_n 1, 1) := by decide +kernel
theorem d12108_83 : decode (jm_b 12108) 83 = .ok (.if_icmp .ge 136, 3) := by decide +kernel
theorem d12108_86 : decode (jm_b 12108) 86 = .ok (.aload_n 0, 1) := by decide +kernel
theorem d12108_87 : decode (jm_b 12108) 87 = .ok (.getfield 9, 3) := by decide +kernel
theorem d12108_90 : decode (jm_b 12108) 90 = .ok (.bipush 7, 2) := by decide +kernel
theorem d12108_92 : decode (jm_b 12108) 92 = .ok (.iload 5, 2) := by decide +kernel
theorem d12108_94 : decode (jm_b 12108) 94 = .ok (.iastore, 1) := by decide +kernel
theorem d12108_95 : decode (jm_b 12108) 95 = .ok (.iconst 0, 1) := by decide +kernel
theorem d12108_96 : decode (jm_b 12108) 96 = .ok (.istore 9, 2) := by decide +kernel
theorem d12108_98 : decode (jm_b 12108) 98 = .ok (.iload 9, 2) := by decide +kernel
theorem d12108_100 : decode (jm_b 12108) 100 = .ok (.iload_n 2, 1) := by decide +kernel
theorem d12108_101 : decode (jm_b 12108) 101 = .ok (.if_icmp .ge 24, 3) := by decide +kernel
theorem d12108_104 : decode (jm_b 12108) 104 = .ok (.iload 6, 2) := by decide +kernel
theorem d12108_106 : decode (jm_b 12108) 106 = .ok (.aload_n 0, 1) := by decide +kernel
theorem d12108_107 : decode (jm_b 12108) 107 = .ok (.aload_n 0, 1) := by decide +kernel
theorem d12108_108 : decode (jm_b 12108) 108 = .ok (.bipush 10, 2) := by decide +kernel
theorem d12108_110 : decode (jm_b 12108) 110 = .ok (.invokevirtual 558, 3) := by decide +kernel
theorem d12108_113 : decode (jm_b 12108) 113 = .ok (.invokevirtual 436, 3) := by decide +kernel
theorem d12108_116 : decode (jm_b 12108) 116 = .ok (.iadd, 1) := by decide +kernel
theorem d12108_117 : decode (jm_b 12108) 117 = .ok (.istore 6, 2) := by decide +kernel
theorem d12108_119 : decode (jm_b 12108) 119 = .ok (.iinc 9 1, 3) := by decide +kernel
theorem d12108_122 : decode (jm_b 12108) 122 = .ok (.goto (-24), 3) := by decide +kernel
theorem d12108_125 : decode (jm_b 12108) 125 = .ok (.iconst 0, 1) := by decide +kernel
theorem d12108_126 : decode (jm_b 12108) 126 = .ok (.istore 9, 2) := by decide +kernel
theorem d12108_128 : decode (jm_b 12108) 128 = .ok (.iload 9, 2) := by decide +kernel
theorem d12108_130 : decode (jm_b 12108) 130 = .ok (.aload_n 0, 1) := by decide +kernel
theorem d12108_131 : decode (jm_b 12108) 131 = .ok (.getfield 9, 3) := by decide +kernel
theorem d12108_134 : decode (jm_b 12108) 134 = .ok (.iconst 0, 1) := by decide +kernel
theorem d12108_135 : decode (jm_b 12108) 135 = .ok (.iaload, 1) := by decide +kernel
theorem d12108_136 : decode (jm_b 12108) 136 = .ok (.if_icmp .ge 64, 3) := by decide +kernel
theorem d12108_139 : decode (jm_b 12108) 139 = .ok (.iload 7, 2) := by decide +kernel
theorem d12108_141 : decode (jm_b 12108) 141 = .ok (.aload_n 0, 1) := by decide +kernel
theorem d12108_142 : decode (jm_b 12108) 142 = .ok (.getfield 13, 3) := by decide +kernel
theorem d12108_145 : decode (jm_b 12108) 145 = .ok (.iload 9, 2) := by decide +kernel
theorem d12108_147 : decode (jm_b 12108) 147 = .ok (.iaload, 1) := by decide +kernel
theorem d12108_148 : decode (jm_b 12108) 148 = .ok (.aload_n 0, 1) := by decide +kernel
theorem d12108_149 : decode (jm_b 12108) 149 = .ok (.getfield 157, 3) := by decide +kernel
theorem d12108_152 : decode (jm_b 12108) 152 = .ok (.iload 9, 2) := by decide +kernel
theorem d12108_154 : decode (jm_b 12108) 154 = .ok (.iaload, 1) := by decide +kernel
theorem d12108_155 : decode (jm_b 12108) 155 = .ok (.if_icmp .le 21, 3) := by decide +kernel
theorem d12108_158 : decode (jm_b 12108) 158 = .ok (.aload_n 0, 1) := by decide +kernel
theorem d12108_159 : decode (jm_b 12108) 159 = .ok (.getfield 13, 3) := by decide +kernel
theorem d12108_162 : decode (jm_b 12108) 162 = .ok (.iload 9, 2) := by decide +kernel
theorem d12108_164 : decode (jm_b 12108) 164 = .ok (.iaload, 1) := by decide +kernel
theorem d12108_165 : decode (jm_b 12108) 165 = .ok (.aload_n 0, 1) := by decide +kernel
theorem d12108_166 : decode (jm_b 12108) 166 = .ok (.getfield 157, 3) := by decide +kernel
theorem d12108_169 : decode (jm_b 12108) 169 = .ok (.iload 9, 2) := by decide +kernel
theorem d12108_171 : decode (jm_b 12108) 171 = .ok (.iaload, 1) := by decide +kernel
theorem d12108_172 : decode (jm_b 12108) 172 = .ok (.isub, 1) := by decide +kernel
theorem d12108_173 : decode (jm_b 12108) 173 = .ok (.goto 18, 3) := by decide +kernel
theorem d12108_176 : decode (jm_b 12108) 176 = .ok (.aload_n 0, 1) := by decide +kernel
theorem d12108_177 : decode (jm_b 12108) 177 = .ok (.getfield 157, 3) := by decide +kernel
theorem d12108_180 : decode (jm_b 12108) 180 = .ok (.iload 9, 2) := by decide +kernel
theorem d12108_182 : decode (jm_b 12108) 182 = .ok (.iaload, 1) := by decide +kernel
theorem d12108_183 : decode (jm_b 12108) 183 = .ok (.aload_n 0, 1) := by decide +kernel
theorem d12108_184 : decode (jm_b 12108) 184 = .ok (.getfield 13, 3) := by decide +kernel
theorem d12108_187 : decode (jm_b 12108) 187 = .ok (.iload 9, 2) := by decide +kernel
theorem d12108_189 : decode (jm_b 12108) 189 = .ok (.iaload, 1) := by decide +kernel
theorem d12108_190 : decode (jm_b 12108) 190 = .ok (.isub, 1) := by decide +kernel
theorem d12108_191 : decode (jm_b 12108) 191 = .ok (.iadd, 1) := by decide +kernel
theorem d12108_192 : decode (jm_b 12108) 192 = .ok (.istore 7, 2) := by decide +kernel
theorem d12108_194 : decode (jm_b 12108) 194 = .ok (.iinc 9 1, 3) := by decide +kernel
theorem d12108_197 : decode (jm_b 12108) 197 = .ok (.goto (-69), 3) := by decide +kernel
theorem d12108_200 : decode (jm_b 12108) 200 = .ok (.aload_n 0, 1) := by decide +kernel
theorem d12108_201 : decode (jm_b 12108) 201 = .ok (.getfield 9, 3) := by decide +kernel
theorem d12108_204 : decode (jm_b 12108) 204 = .ok (.bipush 7, 2) := by decide +kernel
theorem d12108_206 : decode (jm_b 12108) 206 = .ok (.iaload, 1) := by decide +kernel
theorem d12108_207 : decode (jm_b 12108) 207 = .ok (.istore 5, 2) := by decide +kernel
theorem d12108_209 : decode (jm_b 12108) 209 = .ok (.aload_n 0, 1) := by decide +kernel
theorem d12108_210 : decode (jm_b 12108) 210 = .ok (.invokevirtual 491, 3) := by decide +kernel
theorem d12108_213 : decode (jm_b 12108) 213 = .ok (.iinc 8 1, 3) := by decide +kernel
theorem d12108_216 : decode (jm_b 12108) 216 = .ok (.goto (-136), 3) := by decide +kernel
theorem d12108_219 : decode (jm_b 12108) 219 = .ok (.aload_n 0, 1) := by decide +kernel
theorem d12108_220 : decode (jm_b 12108) 220 = .ok (.getfield 9, 3) := by decide +kernel
theorem d12108_223 : decode (jm_b 12108) 223 = .ok (.bipush 7, 2) := by decide +kernel
theorem d12108_225 : decode (jm_b 12108) 225 = .ok (.iload 4, 2) := by decide +kernel
theorem d12108_227 : decode (jm_b 12108) 227 = .ok (.iastore, 1) := by decide +kernel
theorem d12108_228 : decode (jm_b 12108) 228 = .ok (.iload_n 3, 1) := by decide +kernel
theorem d12108_229 : decode (jm_b 12108) 229 = .ok (.ifCond .ne 8, 3) := by decide +kernel
theorem d12108_232 : decode (jm_b 12108) 232 = .ok (.iload 6, 2) := by decide +kernel
theorem d12108_234 : decode (jm_b 12108) 234 = .ok (.goto 5, 3) := by decide +kernel
theorem d12108_237 : decode (jm_b 12108) 237 = .ok (.iload 7, 2) := by decide +kernel
theorem d12108_239 : decode (jm_b 12108) 239 = .ok (.ireturn, 1) := by decide +kernel
theorem d12109_0 : decode (jm_b 12109) 0 = .ok (.aload_n 0, 1) := by decide +kernel
theorem d12109_1 : decode (jm_b 12109) 1 = .ok (.getfield 9, 3) := by decide +kernel
theorem d12109_4 : decode (jm_b 12109) 4 = .ok (.bipush 7, 2) := by decide +kernel
theorem d12109_6 : decode (jm_b 12109) 6 = .ok (.aload_n 0, 1) := by decide +kernel
theorem d12109_7 : decode (jm_b 12109) 7 = .ok (.getfield 9, 3) := by decide +kernel
theorem d12109_10 : decode (jm_b 12109) 10 = .ok (.bipush 7, 2) := by decide +kernel
theorem d12109_12 : decode (jm_b 12109) 12 = .ok (.iaload, 1) := by decide +kernel
theorem d12109_13 : decode (jm_b 12109) 13 = .ok (.i2l, 1) := by decide +kernel
theorem d12109_14 : decode (jm_b 12109) 14 = .ok (.ldc2_w 549, 3) := by decide +kernel
theorem d12109_17 : decode (jm_b 12109) 17 = .ok (.lmul, 1) := by decide +kernel
theorem d12109_18 : decode (jm_b 12109) 18 = .ok (.ldc2_w 551, 3) := by decide +kernel
theorem d12109_21 : decode (jm_b 12109) 21 = .ok (.ladd, 1) := by decide +kernel
theorem d12109_22 : decode (jm_b 12109) 22 = .ok (.ldc2_w 553, 3) := by decide +kernel
theorem d12109_25 : decode (jm_b 12109) 25 = .ok (.lrem, 1) := by decide +kernel
theorem d12109_26 : decode (jm_b 12109) 26 = .ok (.l2i, 1) := by decide +kernel
theorem d12109_27 : decode (jm_b 12109) 27 = .ok (.iastore, 1) := by decide +kernel
theorem d12109_28 : decode (jm_b 12109) 28 = .ok (.aload_n 0, 1) := by decide +kernel
theorem d12109_29 : decode (jm_b 12109) 29 = .ok (.getfield 9, 3) := by decide +kernel
theorem d12109_32 : decode (jm_b 12109) 32 = .ok (.bipush 7, 2) := by decide +kernel
theorem d12109_34 : decode (jm_b 12109) 34 = .ok (.iaload, 1) := by decide +kernel
theorem d12109_35 : decode (jm_b 12109) 35 = .ok (.ldc_w 555, 3) := by decide +kernel
theorem d12109_38 : decode (jm_b 12109) 38 = .ok (.idiv, 1) := by decide +kernel
theorem d12109_39 : decode (jm_b 12109) 39 = .ok (.iload_n 1, 1) := by decide +kernel
theorem d12109_40 : decode (jm_b 12109) 40 = .ok (.irem, 1) := by decide +kernel
theorem d12109_41 : decode (jm_b 12109) 41 = .ok (.ireturn, 1) := by decide +kernel
theorem d12110_0 : decode (jm_b 12110) 0 = .ok (.iload_n 1, 1) := by decide +kernel
theorem d12110_1 : decode (jm_b 12110) 1 = .ok (.tableswitch 153 0 12 #[67, 74, 81, 88, 95, 100, 108, 115, 122, 127, 135, 140, 148], 67) := by decide +kernel
theorem d12110_68 : decode (jm_b 12110) 68 = .ok (.aload_n 0, 1) := by decide +kernel
theorem d12110_69 : decode (jm_b 12110) 69 = .ok (.getfield 9, 3) := by decide +kernel
theorem d12110_72 : decode (jm_b 12110) 72 = .ok (.iconst 0, 1) := by decide +kernel
theorem d12110_73 : decode (jm_b 12110) 73 = .ok (.iaload, 1) := by decide +kernel
theorem d12110_74 : decode (jm_b 12110) 74 = .ok (.ireturn, 1) := by decide +kernel
theorem d12110_75 : decode (jm_b 12110) 75 = .ok (.aload_n 0, 1) := by decide +kernel
theorem d12110_76 : decode (jm_b 12110) 76 = .ok (.getfield 9, 3) := by decide +kernel
theorem d12110_79 : decode (jm_b 12110) 79 = .ok (.iconst 1, 1) := by decide +kernel
theorem d12110_80 : decode (jm_b 12110) 80 = .ok (.iaload, 1) := by decide +kernel
theorem d12110_81 : decode (jm_b 12110) 81 = .ok (.ireturn, 1) := by decide +kernel
theorem d12110_82 : decode (jm_b 12110) 82 = .ok (.aload_n 0, 1) := by decide +kernel
theorem d12110_83 : decode (jm_b 12110) 83 = .ok (.getfield 9, 3) := by decide +kernel
theorem d12110_86 : decode (jm_b 12110) 86 = .ok (.iconst 2, 1) := by decide +kernel
theorem d12110_87 : decode (jm_b 12110) 87 = .ok (.iaload, 1) := by decide +kernel
theorem d12110_88 : decode (jm_b 12110) 88 = .ok (.ireturn, 1) := by decide +kernel
theorem d12110_89 : decode (jm_b 12110) 89 = .ok (.aload_n 0, 1) := by decide +kernel
theorem d12110_90 : decode (jm_b 12110) 90 = .ok (.getfield 9, 3) := by decide +kernel
theorem d12110_93 : decode (jm_b 12110) 93 = .ok (.iconst 3, 1) := by decide +kernel
theorem d12110_94 : decode (jm_b 12110) 94 = .ok (.iaload, 1) := by decide +kernel
theorem d12110_95 : decode (jm_b 12110) 95 = .ok (.ireturn, 1) := by decide +kernel
theorem d12110_96 : decode (jm_b 12110) 96 = .ok (.aload_n 0, 1) := by decide +kernel
theorem d12110_97 : decode (jm_b 12110) 97 = .ok (.getfield 374, 3) := by decide +kernel
theorem d12110_100 : decode (jm_b 12110) 100 = .ok (.ireturn, 1) := by decide +kernel
theorem d12110_101 : decode (jm_b 12110) 101 = .ok (.aload_n 0, 1) := by decide +kernel
theorem d12110_102 : decode (jm_b 12110) 102 = .ok (.getfield 9, 3) := by decide +kernel
theorem d12110_105 : decode (jm_b 12110) 105 = .ok (.bipush 8, 2) := by decide +kernel
theorem d12110_107 : decode (jm_b 12110) 107 = .ok (.iaload, 1) := by decide +kernel
theorem d12110_108 : decode (jm_b 12110) 108 = .ok (.ireturn, 1) := by decide +kernel
theorem d12110_109 : decode (jm_b 12110) 109 = .ok (.aload_n 0, 1) := by decide +kernel
theorem d12110_110 : decode (jm_b 12110) 110 = .ok (.getfield 9, 3) := by decide +kernel
theorem d12110_113 : decode (jm_b 12110) 113 = .ok (.iconst 5, 1) := by decide +kernel
theorem d12110_114 : decode (jm_b 12110) 114 = .ok (.iaload, 1) := by decide +kernel
theorem d12110_115 : decode (jm_b 12110) 115 = .ok (.ireturn, 1) := by decide +kernel
theorem d12110_116 : decode (jm_b 12110) 116 = .ok (.aload_n 0, 1) := by decide +kernel
theorem d12110_117 : decode (jm_b 12110) 117 = .ok (.getfield 9, 3) := by decide +kernel
theorem d12110_120 : decode (jm_b 12110) 120 = .ok (.iconst 4, 1) := by decide +kernel
theorem d12110_121 : decode (jm_b 12110) 121 = .ok (.iaload, 1) := by decide +kernel
theorem d12110_122 : decode (jm_b 12110) 122 = .ok (.ireturn, 1) := by decide +kernel
theorem d12110_123 : decode (jm_b 12110) 123 = .ok (.aload_n 0, 1) := by decide +kernel
theorem d12110_124 : decode (jm_b 12110) 124 = .ok (.invokevirtual 561, 3) := by decide +kernel
theorem d12110_127 : decode (jm_b 12110) 127 = .ok (.ireturn, 1) := by decide +kernel
theorem d12110_128 : decode (jm_b 12110) 128 = .ok (.aload_n 0, 1) := by decide +kernel
theorem d12110_129 : decode (jm_b 12110) 129 = .ok (.getfield 9, 3) := by decide +kernel
theorem d12110_132 : decode (jm_b 12110) 132 = .ok (.bipush 6, 2) := by decide +kernel
theorem d12110_134 : decode (jm_b 12110) 134 = .ok (.iaload, 1) := by decide +kernel
theorem d12110_135 : decode (jm_b 12110) 135 = .ok (.ireturn, 1) := by decide +kernel
theorem d12110_136 : decode (jm_b 12110) 136 = .ok (.aload_n 0, 1) := by decide +kernel
theorem d12110_137 : decode (jm_b 12110) 137 = .ok (.getfield 361, 3) := by decide +kernel
theorem d12110_140 : decode (jm_b 12110) 140 = .ok (.ireturn, 1) := by decide +kernel
theorem d12110_141 : decode (jm_b 12110) 141 = .ok (.aload_n 0, 1) := by decide +kernel
theorem d12110_142 : decode (jm_b 12110) 142 = .ok (.getfield 9, 3) := by decide +kernel
theorem d12110_145 : decode (jm_b 12110) 145 = .ok (.bipush 7, 2) := by decide +kernel
theorem d12110_147 : decode (jm_b 12110) 147 = .ok (.iaload, 1) := by decide +kernel
theorem d12110_148 : decode (jm_b 12110) 148 = .ok (.ireturn, 1) := by decide +kernel
theorem d12110_149 : decode (jm_b 12110) 149 = .ok (.aload_n 0, 1) := by decide +kernel
theorem d12110_150 : decode (jm_b 12110) 150 = .ok (.getfield 185, 3) := by decide +kernel
theorem d12110_153 : decode (jm_b 12110) 153 = .ok (.ireturn, 1) := by decide +kernel
theorem d12110_154 : decode (jm_b 12110) 154 = .ok (.iconst (-1), 1) := by decide +kernel
theorem d12110_155 : decode (jm_b 12110) 155 = .ok (.ireturn, 1) := by decide +kernel
theorem d12111_0 : decode (jm_b 12111) 0 = .ok (.iconst 0, 1) := by decide +kernel
theorem d12111_1 : decode (jm_b 12111) 1 = .ok (.istore_n 1, 1) := by decide +kernel
theorem d12111_2 : decode (jm_b 12111) 2 = .ok (.iconst 0, 1) := by decide +kernel
theorem d12111_3 : decode (jm_b 12111) 3 = .ok (.istore_n 2, 1) := by decide +kernel
theorem d12111_4 : decode (jm_b 12111) 4 = .ok (.iload_n 2, 1) := by decide +kernel
theorem d12111_5 : decode (jm_b 12111) 5 = .ok (.aload_n 0, 1) := by decide +kernel
theorem d12111_6 : decode (jm_b 12111) 6 = .ok (.getfield 9, 3) := by decide +kernel
theorem d12111_9 : decode (jm_b 12111) 9 = .ok (.iconst 2, 1) := by decide +kernel
theorem d12111_10 : decode (jm_b 12111) 10 = .ok (.iaload, 1) := by decide +kernel
theorem d12111_11 : decode (jm_b 12111) 11 = .ok (.if_icmp .ge 18, 3) := by decide +kernel
theorem d12111_14 : decode (jm_b 12111) 14 = .ok (.iload_n 1, 1) := by decide +kernel
theorem d12111_15 : decode (jm_b 12111) 15 = .ok (.aload_n 0, 1) := by decide +kernel
theorem d12111_16 : decode (jm_b 12111) 16 = .ok (.getfield 34, 3) := by decide +kernel
theorem d12111_19 : decode (jm_b 12111) 19 = .ok (.iload_n 2, 1) := by decide +kernel
theorem d12111_20 : decode (jm_b 12111) 20 = .ok (.iaload, 1) := by decide +kernel
theorem d12111_21 : decode (jm_b 12111) 21 = .ok (.iadd, 1) := by decide +kernel
theorem d12111_22 : decode (jm_b 12111) 22 = .ok (.istore_n 1, 1) := by decide +kernel
theorem d12111_23 : decode (jm_b 12111) 23 = .ok (.iinc 2 1, 3) := by decide +kernel
theorem d12111_26 : decode (jm_b 12111) 26 = .ok (.goto (-22), 3) := by decide +kernel
theorem d12111_29 : decode (jm_b 12111) 29 = .ok (.iload_n 1, 1) := by decide +kernel
theorem d12111_30 : decode (jm_b 12111) 30 = .ok (.ireturn, 1) := by decide +kernel
theorem d12112_0 : decode (jm_b 12112) 0 = .ok (.iload_n 1, 1) := by decide +kernel
theorem d12112_1 : decode (jm_b 12112) 1 = .ok (.i2l, 1) := by decide +kernel
theorem d12112_2 : decode (jm_b 12112) 2 = .ok (.lconst 0, 1) := by decide +kernel
theorem d12112_3 : decode (jm_b 12112) 3 = .ok (.ldc2_w 468, 3) := by decide +kernel
theorem d12112_6 : decode (jm_b 12112) 6 = .ok (.invokestatic 170, 3) := by decide +kernel
theorem d12112_9 : decode (jm_b 12112) 9 = .ok (.ifCond .ne 5, 3) := by decide +kernel
theorem d12112_12 : decode (jm_b 12112) 12 = .ok (.iconst (-1), 1) := by decide +kernel
theorem d12112_13 : decode (jm_b 12112) 13 = .ok (.ireturn, 1) := by decide +kernel
theorem d12112_14 : decode (jm_b 12112) 14 = .ok (.aload_n 0, 1) := by decide +kernel
theorem d12112_15 : decode (jm_b 12112) 15 = .ok (.getfield 163, 3) := by decide +kernel
theorem d12112_18 : decode (jm_b 12112) 18 = .ok (.iload_n 1, 1) := by decide +kernel
theorem d12112_19 : decode (jm_b 12112) 19 = .ok (.iconst 1, 1) := by decide +kernel
theorem d12112_20 : decode (jm_b 12112) 20 = .ok (.bastore, 1) := by decide +kernel
theorem d12112_21 : decode (jm_b 12112) 21 = .ok (.aload_n 0, 1) := by decide +kernel
theorem d12112_22 : decode (jm_b 12112) 22 = .ok (.iload_n 1, 1) := by decide +kernel
theorem d12112_23 : decode (jm_b 12112) 23 = .ok (.iconst 0, 1) := by decide +kernel
theorem d12112_24 : decode (jm_b 12112) 24 = .ok (.invokevirtual 475, 3) := by decide +kernel
theorem d12112_27 : decode (jm_b 12112) 27 = .ok (.aload_n 0, 1) := by decide +kernel
theorem d12112_28 : decode (jm_b 12112) 28 = .ok (.getfield 9, 3) := by decide +kernel
theorem d12112_31 : decode (jm_b 12112) 31 = .ok (.iconst 5, 1) := by decide +kernel
theorem d12112_32 : decode (jm_b 12112) 32 = .ok (.iaload, 1) := by decide +kernel
theorem d12112_33 : decode (jm_b 12112) 33 = .ok (.ireturn, 1) := by decide +kernel
theorem d12113_0 : decode (jm_b 12113) 0 = .ok (.iload_n 1, 1) := by decide +kernel
theorem d12113_1 : decode (jm_b 12113) 1 = .ok (.i2l, 1) := by decide +kernel
theorem d12113_2 : decode (jm_b 12113) 2 = .ok (.lconst 0, 1) := by decide +kernel
theorem d12113_3 : decode (jm_b 12113) 3 = .ok (.ldc2_w 468, 3) := by decide +kernel
theorem d12113_6 : decode (jm_b 12113) 6 = .ok (.invokestatic 170, 3) := by decide +kernel
theorem d12113_9 : decode (jm_b 12113) 9 = .ok (.ifCond .eq 12, 3) := by decide +kernel
theorem d12113_12 : decode (jm_b 12113) 12 = .ok (.aload_n 0, 1) := by decide +kernel
theorem d12113_13 : decode (jm_b 12113) 13 = .ok (.getfield 163, 3) := by decide +kernel
theorem d12113_16 : decode (jm_b 12113) 16 = .ok (.iload_n 1, 1) := by decide +kernel
theorem d12113_17 : decode (jm_b 12113) 17 = .ok (.baload, 1) := by decide +kernel
theorem d12113_18 : decode (jm_b 12113) 18 = .ok (.ifCond .ne 5, 3) := by decide +kernel
theorem d12113_21 : decode (jm_b 12113) 21 = .ok (.iconst (-1), 1) := by decide +kernel
theorem d12113_22 : decode (jm_b 12113) 22 = .ok (.ireturn, 1) := by decide +kernel
theorem d12113_23 : decode (jm_b 12113) 23 = .ok (.aload_n 0, 1) := by decide +kernel
theorem d12113_24 : decode (jm_b 12113) 24 = .ok (.iload_n 1, 1) := by decide +kernel
theorem d12113_25 : decode (jm_b 12113) 25 = .ok (.iconst 1, 1) := by decide +kernel
theorem d12113_26 : decode (jm_b 12113) 26 = .ok (.invokevirtual 475, 3) := by decide +kernel
theorem d12113_29 : decode (jm_b 12113) 29 = .ok (.aload_n 0, 1) := by decide +kernel
theorem d12113_30 : decode (jm_b 12113) 30 = .ok (.getfield 9, 3) := by decide +kernel
theorem d12113_33 : decode (jm_b 12113) 33 = .ok (.iconst 5, 1) := by decide +kernel
theorem d12113_34 : decode (jm_b 12113) 34 = .ok (.iaload, 1) := by decide +kernel
theorem d12113_35 : decode (jm_b 12113) 35 = .ok (.ireturn, 1) := by decide +kernel
theorem d13000_0 : decode (jm_b 13000) 0 = .ok (.new 7, 3) := by decide +kernel
theorem d13000_3 : decode (jm_b 13000) 3 = .ok (.dup, 1) := by decide +kernel
theorem d13000_4 : decode (jm_b 13000) 4 = .ok (.invokespecial 9, 3) := by decide +kernel
theorem d13000_7 : decode (jm_b 13000) 7 = .ok (.astore_n 1, 1) := by decide +kernel
theorem d13000_8 : decode (jm_b 13000) 8 = .ok (.new 10, 3) := by decide +kernel
theorem d13000_11 : decode (jm_b 13000) 11 = .ok (.dup, 1) := by decide +kernel
theorem d13000_12 : decode (jm_b 13000) 12 = .ok (.invokespecial 12, 3) := by decide +kernel
theorem d13000_15 : decode (jm_b 13000) 15 = .ok (.astore_n 2, 1) := by decide +kernel
theorem d13000_16 : decode (jm_b 13000) 16 = .ok (.iconst 0, 1) := by decide +kernel
theorem d13000_17 : decode (jm_b 13000) 17 = .ok (.istore_n 3, 1) := by decide +kernel
theorem d13000_18 : decode (jm_b 13000) 18 = .ok (.iload_n 3, 1) := by decide +kernel
theorem d13000_19 : decode (jm_b 13000) 19 = .ok (.aload_n 0, 1) := by decide +kernel
theorem d13000_20 : decode (jm_b 13000) 20 = .ok (.arraylength, 1) := by decide +kernel
theorem d13000_21 : decode (jm_b 13000) 21 = .ok (.bipush 6, 2) := by decide +kernel
theorem d13000_23 : decode (jm_b 13000) 23 = .ok (.isub, 1) := by decide +kernel
theorem d13000_24 : decode (jm_b 13000) 24 = .ok (.if_icmp .gt 1030, 3) := by decide +kernel
theorem d13000_27 : decode (jm_b 13000) 27 = .ok (.aload_n 0, 1) := by decide +kernel
theorem d13000_28 : decode (jm_b 13000) 28 = .ok (.iload_n 3, 1) := by decide +kernel
theorem d13000_29 : decode (jm_b 13000) 29 = .ok (.iaload, 1) := by decide +kernel
theorem d13000_30 : decode (jm_b 13000) 30 = .ok (.bipush 31, 2) := by decide +kernel
theorem d13000_32 : decode (jm_b 13000) 32 = .ok (.iand, 1) := by decide +kernel
theorem d13000_33 : decode (jm_b 13000) 33 = .ok (.tableswitch 1015 0 29 #[135, 198, 221, 234, 247, 270, 303, 336, 359, 372, 405, 428, 451, 484, 507, 520, 563, 586, 619, 652, 695, 728, 771, 824, 857, 880, 903, 946, 969, 992], 135) := by decide +kernel
theorem d13000_168 : decode (jm_b 13000) 168 = .ok (.aload_n 1, 1) := by decide +kernel
theorem d13000_169 : decode (jm_b 13000) 169 = .ok (.aload_n 0, 1) := by decide +kernel
theorem d13000_170 : decode (jm_b 13000) 170 = .ok (.iload_n 3, 1) := by decide +kernel
theorem d13000_171 : decode (jm_b 13000) 171 = .ok (.iconst 1, 1) := by decide +kernel
theorem d13000_172 : decode (jm_b 13000) 172 = .ok (.iadd, 1) := by decide +kernel
theorem d13000_173 : decode (jm_b 13000) 173 = .ok (.iaload, 1) := by decide +kernel
theorem d13000_174 : decode (jm_b 13000) 174 = .ok (.aload_n 0, 1) := by decide +kernel
theorem d13000_175 : decode (jm_b 13000) 175 = .ok (.iload_n 3, 1) := by decide +kernel
theorem d13000_176 : decode (jm_b 13000) 176 = .ok (.iconst 2, 1) := by decide +kernel
theorem d13000_177 : decode (jm_b 13000) 177 = .ok (.iadd, 1) := by decide +kernel
theorem d13000_178 : decode (jm_b 13000) 178 = .ok (.iaload, 1) := by decide +kernel
theorem d13000_179 : decode (jm_b 13000) 179 = .ok (.aload_n 0, 1) := by decide +kernel
theorem d13000_180 : decode (jm_b 13000) 180 = .ok (.iload_n 3, 1) := by decide +kernel
theorem d13000_181 : decode (jm_b 13000) 181 = .ok (.iconst 3, 1) := by decide +kernel
theorem d13000_182 : decode (jm_b 13000) 182 = .ok (.iadd, 1) := by decide +kernel
theorem d13000_183 : decode (jm_b 13000) 183 = .ok (.iaload, 1) := by decide +kernel
theorem d13000_184 : decode (jm_b 13000) 184 = .ok (.aload_n 0, 1) := by decide +kernel
theorem d13000_185 : decode (jm_b 13000) 185 = .ok (.iload_n 3, 1) := by decide +kernel
theorem d13000_186 : decode (jm_b 13000) 186 = .ok (.iconst 4, 1) := by decide +kernel
theorem d13000_187 : decode (jm_b 13000) 187 = .ok (.iadd, 1) := by decide +kernel
theorem d13000_188 : decode (jm_b 13000) 188 = .ok (.iaload, 1) := by decide +kernel
theorem d13000_189 : decode (jm_b 13000) 189 = .ok (.aload_n 0, 1) := by decide +kernel
theorem d13000_190 : decode (jm_b 13000) 190 = .ok (.iload_n 3, 1) := by decide +kernel
theorem d13000_191 : decode (jm_b 13000) 191 = .ok (.iconst 5, 1) := by decide +kernel
theorem d13000_192 : decode (jm_b 13000) 192 = .ok (.iadd, 1) := by decide +kernel
theorem d13000_193 : decode (jm_b 13000) 193 = .ok (.iaload, 1) := by decide +kernel
theorem d13000_194 : decode (jm_b 13000) 194 = .ok (.invokevirtual 13, 3) := by decide +kernel
theorem d13000_197 : decode (jm_b 13000) 197 = .ok (.aload_n 2, 1) := by decide +kernel
theorem d13000_198 : decode (jm_b 13000) 198 = .ok (.aload_n 0, 1) := by decide +kernel
theorem d13000_199 : decode (jm_b 13000) 199 = .ok (.iload_n 3, 1) := by decide +kernel
theorem d13000_200 : decode (jm_b 13000) 200 = .ok (.iconst 1, 1) := by decide +kernel
theorem d13000_201 : decode (jm_b 13000) 201 = .ok (.iadd, 1) := by decide +kernel
theorem d13000_202 : decode (jm_b 13000) 202 = .ok (.iaload, 1) := by decide +kernel
theorem d13000_203 : decode (jm_b 13000) 203 = .ok (.aload_n 0, 1) := by decide +kernel
theorem d13000_204 : decode (jm_b 13000) 204 = .ok (.iload_n 3, 1) := by decide +kernel
theorem d13000_205 : decode (jm_b 13000) 205 = .ok (.iconst 2, 1) := by decide +kernel
theorem d13000_206 : decode (jm_b 13000) 206 = .ok (.iadd, 1) := by decide +kernel
theorem d13000_207 : decode (jm_b 13000) 207 = .ok (.iaload, 1) := by decide +kernel
theorem d13000_208 : decode (jm_b 13000) 208 = .ok (.aload_n 0, 1) := by decide +kernel
theorem d13000_209 : decode (jm_b 13000) 209 = .ok (.iload_n 3, 1) := by decide +kernel
theorem d13000_210 : decode (jm_b 13000) 210 = .ok (.iconst 3, 1) := by decide +kernel
theorem d13000_211 : decode (jm_b 13000) 211 = .ok (.iadd, 1) := by decide +kernel
theorem d13000_212 : decode (jm_b 13000) 212 = .ok (.iaload, 1) := by decide +kernel
theorem d13000_213 : decode (jm_b 13000) 213 = .ok (.aload_n 0, 1) := by decide +kernel
theorem d13000_214 : decode (jm_b 13000) 214 = .ok (.iload_n 3, 1) := by decide +kernel
theorem d13000_215 : decode (jm_b 13000) 215 = .ok (.iconst 4, 1) := by decide +kernel
theorem d13000_216 : decode (jm_b 13000) 216 = .ok (.iadd, 1) := by decide +kernel
theorem d13000_217 : decode (jm_b 13000) 217 = .ok (.iaload, 1) := by decide +kernel
theorem d13000_218 : decode (jm_b 13000) 218 = .ok (.aload_n 0, 1) := by decide +kernel
theorem d13000_219 : decode (jm_b 13000) 219 = .ok (.iload_n 3, 1) := by decide +kernel
theorem d13000_220 : decode (jm_b 13000) 220 = .ok (.iconst 5, 1) := by decide +kernel
theorem d13000_221 : decode (jm_b 13000) 221 = .ok (.iadd, 1) := by decide +kernel
theorem d13000_222 : decode (jm_b 13000) 222 = .ok (.iaload, 1) := by decide +kernel
theorem d13000_223 : decode (jm_b 13000) 223 = .ok (.invokevirtual 17, 3) := by decide +kernel
theorem d13000_226 : decode (jm_b 13000) 226 = .ok (.if_icmp .eq 822, 3) := by decide +kernel
theorem d13000_229 : decode (jm_b 13000) 229 = .ok (.iconst 0, 1) := by decide +kernel
theorem d13000_230 : decode (jm_b 13000) 230 = .ok (.ireturn, 1) := by decide +kernel
theorem d13000_231 : decode (jm_b 13000) 231 = .ok (.aload_n 1, 1) := by decide +kernel
theorem d13000_232 : decode (jm_b 13000) 232 = .ok (.aload_n 0, 1) := by decide +kernel
theorem d13000_233 : decode (jm_b 13000) 233 = .ok (.iload_n 3, 1) := by decide +kernel
theorem d13000_234 : decode (jm_b 13000) 234 = .ok (.iconst 1, 1) := by decide +kernel
theorem d13000_235 : decode (jm_b 13000) 235 = .ok (.iadd, 1) := by decide +kernel
theorem d13000_236 : decode (jm_b 13000) 236 = .ok (.iaload, 1) := by decide +kernel
theorem d13000_237 : decode (jm_b 13000) 237 = .ok (.invokevirtual 18, 3) := by decide +kernel
theorem d13000_240 : decode (jm_b 13000) 240 = .ok (.aload_n 2, 1) := by decide +kernel
theorem d13000_241 : decode (jm_b 13000) 241 = .ok (.aload_n 0, 1) := by decide +kernel
theorem d13000_242 : decode (jm_b 13000) 242 = .ok (.iload_n 3, 1) := by decide +kernel
theorem d13000_243 : decode (jm_b 13000) 243 = .ok (.iconst 1, 1) := by decide +kernel
theorem d13000_244 : decode (jm_b 13000) 244 = .ok (.iadd, 1) := by decide +kernel
theorem d13000_245 : decode (jm_b 13000) 245 = .ok (.iaload, 1) := by decide +kernel
theorem d13000_246 : decode (jm_b 13000) 246 = .ok (.invokevirtual 22, 3) := by decide +kernel
theorem d13000_249 : decode (jm_b 13000) 249 = .ok (.if_icmp .eq 799, 3) := by decide +kernel
theorem d13000_252 : decode (jm_b 13000) 252 = .ok (.iconst 0, 1) := by decide +kernel
theorem d13000_253 : decode (jm_b 13000) 253 = .ok (.ireturn, 1) := by decide +kernel
theorem d13000_254 : decode (jm_b 13000) 254 = .ok (.aload_n 1, 1) := by decide +kernel
theorem d13000_255 : decode (jm_b 13000) 255 = .ok (.invokevirtual 23, 3) := by decide +kernel
theorem d13000_258 : decode (jm_b 13000) 258 = .ok (.aload_n 2, 1) := by decide +kernel
theorem d13000_259 : decode (jm_b 13000) 259 = .ok (.invokevirtual 27, 3) := by decide +kernel
theorem d13000_262 : decode (jm_b 13000) 262 = .ok (.if_icmp .eq 786, 3) := by decide +kernel
theorem d13000_265 : decode (jm_b 13000) 265 = .ok (.iconst 0, 1) := by decide +kernel
theorem d13000_266 : decode (jm_b 13000) 266 = .ok (.ireturn, 1) := by decide +kernel
theorem d13000_267 : decode (jm_b 13000) 267 = .ok (.aload_n 1, 1) := by decide +kernel
theorem d13000_268 : decode (jm_b 13000) 268 = .ok (.invokevirtual 28, 3) := by decide +kernel
theorem d13000_271 : decode (jm_b 13000) 271 = .ok (.aload_n 2, 1) := by decide +kernel
theorem d13000_272 : decode (jm_b 13000) 272 = .ok (.invokevirtual 31, 3) := by decide +kernel
theorem d13000_275 : decode (jm_b 13000) 275 = .ok (.if_icmp .eq 773, 3) := by decide +kernel
theorem d13000_278 : decode (jm_b 13000) 278 = .ok (.iconst 0, 1) := by decide +kernel
theorem d13000_279 : decode (jm_b 13000) 279 = .ok (.ireturn, 1) := by decide +kernel
theorem d13000_280 : decode (jm_b 13000) 280 = .ok (.aload_n 1, 1) := by decide +kernel
theorem d13000_281 : decode (jm_b 13000) 281 = .ok (.aload_n 0, 1) := by decide +kernel
theorem d13000_282 : decode (jm_b 13000) 282 = .ok (.iload_n 3, 1) := by decide +kernel
theorem d13000_283 : decode (jm_b 13000) 283 = .ok (.iconst 1, 1) := by decide +kernel
theorem d13000_284 : decode (jm_b 13000) 284 = .ok (.iadd, 1) := by decide +kernel
theorem d13000_285 : decode (jm_b 13000) 285 = .ok (.iaload, 1) := by decide +kernel
theorem d13000_286 : decode (jm_b 13000) 286 = .ok (.invokevirtual 32, 3) := by decide +kernel
theorem d13000_289 : decode (jm_b 13000) 289 = .ok (.aload_n 2, 1) := by decide +kernel
theorem d13000_290 : decode (jm_b 13000) 290 = .ok (.aload_n 0, 1) := by decide +kernel
theorem d13000_291 : decode (jm_b 13000) 291 = .ok (.iload_n 3, 1) := by decide +kernel
theorem d13000_292 : decode (jm_b 13000) 292 = .ok (.iconst 1, 1) := by decide +kernel
theorem d13000_293 : decode (jm_b 13000) 293 = .ok (.iadd, 1) := by decide +kernel
theorem d13000_294 : decode (jm_b 13000) 294 = .ok (.iaload, 1) := by decide +kernel
theorem d13000_295 : decode (jm_b 13000) 295 = .ok (.invokevirtual 35, 3) := by decide +kernel
theorem d13000_298 : decode (jm_b 13000) 298 = .ok (.if_icmp .eq 750, 3) := by decide +kernel
theorem d13000_301 : decode (jm_b 13000) 301 = .ok (.iconst 0, 1) := by decide +kernel
theorem d13000_302 : decode (jm_b 13000) 302 = .ok (.ireturn, 1) := by decide +kernel
theorem d13000_303 : decode (jm_b 13000) 303 = .ok (.aload_n 1, 1) := by decide +kernel
theorem d13000_304 : decode (jm_b 13000) 304 = .ok (.aload_n 0, 1) := by decide +kernel
theorem d13000_305 : decode (jm_b 13000) 305 = .ok (.iload_n 3, 1) := by decide +kernel
theorem d13000_306 : decode (jm_b 13000) 306 = .ok (.iconst 1, 1) := by decide +kernel
theorem d13000_307 : decode (jm_b 13000) 307 = .ok (.iadd, 1) := by decide +kernel
theorem d13000_308 : decode (jm_b 13000) 308 = .ok (.iaload, 1) := by decide +kernel
theorem d13000_309 : decode (jm_b 13000) 309 = .ok (.aload_n 0, 1) := by decide +kernel
theorem d13000_310 : decode (jm_b 13000) 310 = .ok (.iload_n 3, 1) := by decide +kernel
theorem d13000_311 : decode (jm_b 13000) 311 = .ok (.iconst 2, 1) := by decide +kernel
theorem d13000_312 : decode (jm_b 13000) 312 = .ok (.iadd, 1) := by decide +kernel
theorem d13000_313 : decode (jm_b 13000) 313 = .ok (.iaload, 1) := by decide +kernel
theorem d13000_314 : decode (jm_b 13000) 314 = .ok (.invokevirtual 36, 3) := by decide +kernel
theorem d13000_317 : decode (jm_b 13000) 317 = .ok (.aload_n 2, 1) := by decide +kernel
theorem d13000_318 : decode (jm_b 13000) 318 = .ok (.aload_n 0, 1) := by decide +kernel
theorem d13000_319 : decode (jm_b 13000) 319 = .ok (.iload_n 3, 1) := by decide +kernel
theorem d13000_320 : decode (jm_b 13000) 320 = .ok (.iconst 1, 1) := by decide +kernel
theorem d13000_321 : decode (jm_b 13000) 321 = .ok (.iadd, 1) := by decide +kernel
theorem d13000_322 : decode (jm_b 13000) 322 = .ok (.iaload, 1) := by decide +kernel
theorem d13000_323 : decode (jm_b 13000) 323 = .ok (.aload_n 0, 1) := by decide +kernel
theorem d13000_324 : decode (jm_b 13000) 324 = .ok (.iload_n 3, 1) := by decide +kernel
theorem d13000_325 : decode (jm_b 13000) 325 = .ok (.iconst 2, 1) := by decide +kernel
theorem d13000_326 : decode (jm_b 13000) 326 = .ok (.iadd, 1) := by decide +kernel
theorem d13000_327 : decode (jm_b 13000) 327 = .ok (.iaload, 1) := by decide +kernel
theorem d13000_328 : decode (jm_b 13000) 328 = .ok (.invokevirtual 40, 3) := by decide +kernel
theorem d13000_331 : decode (jm_b 13000) 331 = .ok (.if_icmp .eq 717, 3) := by decide +kernel
theorem d13000_334 : decode (jm_b 13000) 334 = .ok (.iconst 0, 1) := by decide +kernel
theorem d13000_335 : decode (jm_b 13000) 335 = .ok (.ireturn, 1) := by decide +kernel
theorem d13000_336 : decode (jm_b 13000) 336 = .ok (.aload_n 1, 1) := by decide +kernel
theorem d13000_337 : decode (jm_b 13000) 337 = .ok (.aload_n 0, 1) := by decide +kernel
theorem d13000_338 : decode (jm_b 13000) 338 = .ok (.iload_n 3, 1) := by decide +kernel
theorem d13000_339 : decode (jm_b 13000) 339 = .ok (.iconst 1, 1) := by decide +kernel
theorem d13000_340 : decode (jm_b 13000) 340 = .ok (.iadd, 1) := by decide +kernel
theorem d13000_341 : decode (jm_b 13000) 341 = .ok (.iaload, 1) := by decide +kernel
theorem d13000_342 : decode (jm_b 13000) 342 = .ok (.aload_n 0, 1) := by decide +kernel
theorem d13000_343 : decode (jm_b 13000) 343 = .ok (.iload_n 3, 1) := by decide +kernel
theorem d13000_344 : decode (jm_b 13000) 344 = .ok (.iconst 2, 1) := by decide +kernel
theorem d13000_345 : decode (jm_b 13000) 345 = .ok (.iadd, 1) := by decide +kernel
theorem d13000_346 : decode (jm_b 13000) 346 = .ok (.iaload, 1) := by decide +kernel
theorem d13000_347 : decode (jm_b 13000) 347 = .ok (.invokevirtual 41, 3) := by decide +kernel
theorem d13000_350 : decode (jm_b 13000) 350 = .ok (.aload_n 2, 1) := by decide +kernel
theorem d13000_351 : decode (jm_b 13000) 351 = .ok (.aload_n 0, 1) := by decide +kernel
theorem d13000_352 : decode (jm_b 13000) 352 = .ok (.iload_n 3, 1) := by decide +kernel
theorem d13000_353 : decode (jm_b 13000) 353 = .ok (.iconst 1, 1) := by decide +kernel
theorem d13000_354 : decode (jm_b 13000) 354 = .ok (.iadd, 1) := by decide +kernel
theorem d13000_355 : decode (jm_b 13000) 355 = .ok (.iaload, 1) := by decide +kernel
theorem d13000_356 : decode (jm_b 13000) 356 = .ok (.aload_n 0, 1) := by decide +kernel
theorem d13000_357 : decode (jm_b 13000) 357 = .ok (.iload_n 3, 1) := by decide +kernel
theorem d13000_358 : decode (jm_b 13000) 358 = .ok (.iconst 2, 1) := by decide +kernel
theorem d13000_359 : decode (jm_b 13000) 359 = .ok (.iadd, 1) := by decide +kernel
theorem d13000_360 : decode (jm_b 13000) 360 = .ok (.iaload, 1) := by decide +kernel
theorem d13000_361 : decode (jm_b 13000) 361 = .ok (.invokevirtual 44, 3) := by decide +kernel
theorem d13000_364 : decode (jm_b 13000) 364 = .ok (.if_icmp .eq 684, 3) := by decide +kernel
theorem d13000_367 : decode (jm_b 13000) 367 = .ok (.iconst 0, 1) := by decide +kernel
theorem d13000_368 : decode (jm_b 13000) 368 = .ok (.ireturn, 1) := by decide +kernel
theorem d13000_369 : decode (jm_b 13000) 369 = .ok (.aload_n 1, 1) := by decide +kernel
theorem d13000_370 : decode (jm_b 13000) 370 = .ok (.aload_n 0, 1) := by decide +kernel
theorem d13000_371 : decode (jm_b 13000) 371 = .ok (.iload_n 3, 1) := by decide +kernel
theorem d13000_372 : decode (jm_b 13000) 372 = .ok (.iconst 1, 1) := by decide +kernel
theorem d13000_373 : decode (jm_b 13000) 373 = .ok (.iadd, 1) := by decide +kernel
theorem d13000_374 : decode (jm_b 13000) 374 = .ok (.iaload, 1) := by decide +kernel
theorem d13000_375 : decode (jm_b 13000) 375 = .ok (.invokevirtual 45, 3) := by decide +kernel
theorem d13000_378 : decode (jm_b 13000) 378 = .ok (.aload_n 2, 1) := by decide +kernel
theorem d13000_379 : decode (jm_b 13000) 379 = .ok (.aload_n 0, 1) := by decide +kernel
theorem d13000_380 : decode (jm_b 13000) 380 = .ok (.iload_n 3, 1) := by decide +kernel
theorem d13000_381 : decode (jm_b 13000) 381 = .ok (.iconst 1, 1) := by decide +kernel
theorem d13000_382 : decode (jm_b 13000) 382 = .ok (.iadd, 1) := by decide +kernel
theorem d13000_383 : decode (jm_b 13000) 383 = .ok (.iaload, 1) := by decide +kernel
theorem d13000_384 : decode (jm_b 13000) 384 = .ok (.invokevirtual 48, 3) := by decide +kernel
theorem d13000_387 : decode (jm_b 13000) 387 = .ok (.if_icmp .eq 661, 3) := by decide +kernel
theorem d13000_390 : decode (jm_b 13000) 390 = .ok (.iconst 0, 1) := by decide +kernel
theorem d13000_391 : decode (jm_b 13000) 391 = .ok (.ireturn, 1) := by decide +kernel
theorem d13000_392 : decode (jm_b 13000) 392 = .ok (.aload_n 1, 1) := by decide +kernel
theorem d13000_393 : decode (jm_b 13000) 393 = .ok (.invokevirtual 49, 3) := by decide +kernel
theorem d13000_396 : decode (jm_b 13000) 396 = .ok (.aload_n 2, 1) := by decide +kernel
theorem d13000_397 : decode (jm_b 13000) 397 = .ok (.invokevirtual 52, 3) := by decide +kernel
theorem d13000_400 : decode (jm_b 13000) 400 = .ok (.if_icmp .eq 648, 3) := by decide +kernel
theorem d13000_403 : decode (jm_b 13000) 403 = .ok (.iconst 0, 1) := by decide +kernel
theorem d13000_404 : decode (jm_b 13000) 404 = .ok (.ireturn, 1) := by decide +kernel
theorem d13000_405 : decode (jm_b 13000) 405 = .ok (.aload_n 1, 1) := by decide +kernel
theorem d13000_406 : decode (jm_b 13000) 406 = .ok (.aload_n 0, 1) := by decide +kernel
theorem d13000_407 : decode (jm_b 13000) 407 = .ok (.iload_n 3, 1) := by decide +kernel
theorem d13000_408 : decode (jm_b 13000) 408 = .ok (.iconst 1, 1) := by decide +kernel
theorem d13000_409 : decode (jm_b 13000) 409 = .ok (.iadd, 1) := by decide +kernel
theorem d13000_410 : decode (jm_b 13000) 410 = .ok (.iaload, 1) := by decide +kernel
theorem d13000_411 : decode (jm_b 13000) 411 = .ok (.aload_n 0, 1) := by decide +kernel
theorem d13000_412 : decode (jm_b 13000) 412 = .ok (.iload_n 3, 1) := by decide +kernel
theorem d13000_413 : decode (jm_b 13000) 413 = .ok (.iconst 2, 1) := by decide +kernel
theorem d13000_414 : decode (jm_b 13000) 414 = .ok (.iadd, 1) := by decide +kernel
theorem d13000_415 : decode (jm_b 13000) 415 = .ok (.iaload, 1) := by decide +kernel
theorem d13000_416 : decode (jm_b 13000) 416 = .ok (.invokevirtual 53, 3) := by decide +kernel
theorem d13000_419 : decode (jm_b 13000) 419 = .ok (.aload_n 2, 1) := by decide +kernel
theorem d13000_420 : decode (jm_b 13000) 420 = .ok (.aload_n 0, 1) := by decide +kernel
theorem d13000_421 : decode (jm_b 13000) 421 = .ok (.iload_n 3, 1) := by decide +kernel
theorem d13000_422 : decode (jm_b 13000) 422 = .ok (.iconst 1, 1) := by decide +kernel
theorem d13000_423 : decode (jm_b 13000) 423 = .ok (.iadd, 1) := by decide +kernel
theorem d13000_424 : decode (jm_b 13000) 424 = .ok (.iaload, 1) := by decide +kernel
theorem d13000_425 : decode (jm_b 13000) 425 = .ok (.aload_n 0, 1) := by decide +kernel
theorem d13000_426 : decode (jm_b 13000) 426 = .ok (.iload_n 3, 1) := by decide +kernel
theorem d13000_427 : decode (jm_b 13000) 427 = .ok (.iconst 2, 1) := by decide +kernel
theorem d13000_428 : decode (jm_b 13000) 428 = .ok (.iadd, 1) := by decide +kernel
theorem d13000_429 : decode (jm_b 13000) 429 = .ok (.iaload, 1) := by decide +kernel
theorem d13000_430 : decode (jm_b 13000) 430 = .ok (.invokevirtual 56, 3) := by decide +kernel
theorem d13000_433 : decode (jm_b 13000) 433 = .ok (.if_icmp .eq 615, 3) := by decide +kernel
theorem d13000_436 : decode (jm_b 13000) 436 = .ok (.iconst 0, 1) := by decide +kernel
theorem d13000_437 : decode (jm_b 13000) 437 = .ok (.ireturn, 1) := by decide +kernel
theorem d13000_438 : decode (jm_b 13000) 438 = .ok (.aload_n 1, 1) := by decide +kernel
theorem d13000_439 : decode (jm_b 13000) 439 = .ok (.aload_n 0, 1) := by decide +kernel
theorem d13000_440 : decode (jm_b 13000) 440 = .ok (.iload_n 3, 1) := by decide +kernel
theorem d13000_441 : decode (jm_b 13000) 441 = .ok (.iconst 1, 1) := by decide +kernel
theorem d13000_442 : decode (jm_b 13000) 442 = .ok (.iadd, 1) := by decide +kernel
theorem d13000_443 : decode (jm_b 13000) 443 = .ok (.iaload, 1) := by decide +kernel
theorem d13000_444 : decode (jm_b 13000) 444 = .ok (.invokevirtual 57, 3) := by decide +kernel
theorem d13000_447 : decode (jm_b 13000) 447 = .ok (.aload_n 2, 1) := by decide +kernel
theorem d13000_448 : decode (jm_b 13000) 448 = .ok (.aload_n 0, 1) := by decide +kernel
theorem d13000_449 : decode (jm_b 13000) 449 = .ok (.iload_n 3, 1) := by decide +kernel
theorem d13000_450 : decode (jm_b 13000) 450 = .ok (.iconst 1, 1) := by decide +kernel
theorem d13000_451 : decode (jm_b 13000) 451 = .ok (.iadd, 1) := by decide +kernel
theorem d13000_452 : decode (jm_b 13000) 452 = .ok (.iaload, 1) := by decide +kernel
theorem d13000_453 : decode (jm_b 13000) 453 = .ok (.invokevirtual 60, 3) := by decide +kernel
theorem d13000_456 : decode (jm_b 13000) 456 = .ok (.if_icmp .eq 592, 3) := by decide +kernel
theorem d13000_459 : decode (jm_b 13000) 459 = .ok (.iconst 0, 1) := by decide +kernel
theorem d13000_460 : decode (jm_b 13000) 460 = .ok (.ireturn, 1) := by decide +kernel
theorem d13000_461 : decode (jm_b 13000) 461 = .ok (.aload_n 1, 1) := by decide +kernel
theorem d13000_462 : decode (jm_b 13000) 462 = .ok (.aload_n 0, 1) := by decide +kernel
theorem d13000_463 : decode (jm_b 13000) 463 = .ok (.iload_n 3, 1) := by decide +kernel
theorem d13000_464 : decode (jm_b 13000) 464 = .ok (.iconst 1, 1) := by decide +kernel
theorem d13000_465 : decode (jm_b 13000) 465 = .ok (.iadd, 1) := by decide +kernel
theorem d13000_466 : decode (jm_b 13000) 466 = .ok (.iaload, 1) := by decide +kernel
theorem d13000_467 : decode (jm_b 13000) 467 = .ok (.invokevirtual 61, 3) := by decide +kernel
theorem d13000_470 : decode (jm_b 13000) 470 = .ok (.aload_n 2, 1) := by decide +kernel
theorem d13000_471 : decode (jm_b 13000) 471 = .ok (.aload_n 0, 1) := by decide +kernel
theorem d13000_472 : decode (jm_b 13000) 472 = .ok (.iload_n 3, 1) := by decide +kernel
theorem d13000_473 : decode (jm_b 13000) 473 = .ok (.iconst 1, 1) := by decide +kernel
theorem d13000_474 : decode (jm_b 13000) 474 = .ok (.iadd, 1) := by decide +kernel
theorem d13000_475 : decode (jm_b 13000) 475 = .ok (.iaload, 1) := by decide +kernel
theorem d13000_476 : decode (jm_b 13000) 476 = .ok (.invokevirtual 64, 3) := by decide +kernel
theorem d13000_479 : decode (jm_b 13000) 479 = .ok (.if_icmp .eq 569, 3) := by decide +kernel
theorem d13000_482 : decode (jm_b 13000) 482 = .ok (.iconst 0, 1) := by decide +kernel
theorem d13000_483 : decode (jm_b 13000) 483 = .ok (.ireturn, 1) := by decide +kernel
theorem d13000_484 : decode (jm_b 13000) 484 = .ok (.aload_n 1, 1) := by decide +kernel
theorem d13000_485 : decode (jm_b 13000) 485 = .ok (.aload_n 0, 1) := by decide +kernel
theorem d13000_486 : decode (jm_b 13000) 486 = .ok (.iload_n 3, 1) := by decide +kernel
theorem d13000_487 : decode (jm_b 13000) 487 = .ok (.iconst 1, 1) := by decide +kernel
theorem d13000_488 : decode (jm_b 13000) 488 = .ok (.iadd, 1) := by decide +kernel
theorem d13000_489 : decode (jm_b 13000) 489 = .ok (.iaload, 1) := by decide +kernel
theorem d13000_490 : decode (jm_b 13000) 490 = .ok (.aload_n 0, 1) := by decide +kernel
theorem d13000_491 : decode (jm_b 13000) 491 = .ok (.iload_n 3, 1) := by decide +kernel
theorem d13000_492 : decode (jm_b 13000) 492 = .ok (.iconst 2, 1) := by decide +kernel
theorem d13000_493 : decode (jm_b 13000) 493 = .ok (.iadd, 1) := by decide +kernel
theorem d13000_494 : decode (jm_b 13000) 494 = .ok (.iaload, 1) := by decide +kernel
theorem d13000_495 : decode (jm_b 13000) 495 = .ok (.invokevirtual 65, 3) := by decide +kernel
theorem d13000_498 : decode (jm_b 13000) 498 = .ok (.aload_n 2, 1) := by decide +kernel
theorem d13000_499 : decode (jm_b 13000) 499 = .ok (.aload_n 0, 1) := by decide +kernel
theorem d13000_500 : decode (jm_b 13000) 500 = .ok (.iload_n 3, 1) := by decide +kernel
theorem d13000_501 : decode (jm_b 13000) 501 = .ok (.iconst 1, 1) := by decide +kernel
theorem d13000_502 : decode (jm_b 13000) 502 = .ok (.iadd, 1) := by decide +kernel
theorem d13000_503 : decode (jm_b 13000) 503 = .ok (.iaload, 1) := by decide +kernel
theorem d13000_504 : decode (jm_b 13000) 504 = .ok (.aload_n 0, 1) := by decide +kernel
theorem d13000_505 : decode (jm_b 13000) 505 = .ok (.iload_n 3, 1) := by decide +kernel
theorem d13000_506 : decode (jm_b 13000) 506 = .ok (.iconst 2, 1) := by decide +kernel
theorem d13000_507 : decode (jm_b 13000) 507 = .ok (.iadd, 1) := by decide +kernel
theorem d13000_508 : decode (jm_b 13000) 508 = .ok (.iaload, 1) := by decide +kernel
theorem d13000_509 : decode (jm_b 13000) 509 = .ok (.invokevirtual 68, 3) := by decide +kernel
theorem d13000_512 : decode (jm_b 13000) 512 = .ok (.if_icmp .eq 536, 3) := by decide +kernel
theorem d13000_515 : decode (jm_b 13000) 515 = .ok (.iconst 0, 1) := by decide +kernel
theorem d13000_516 : decode (jm_b 13000) 516 = .ok (.ireturn, 1) := by decide +kernel
theorem d13000_517 : decode (jm_b 13000) 517 = .ok (.aload_n 1, 1) := by decide +kernel
theorem d13000_518 : decode (jm_b 13000) 518 = .ok (.aload_n 0, 1) := by decide +kernel
theorem d13000_519 : decode (jm_b 13000) 519 = .ok (.iload_n 3, 1) := by decide +kernel
theorem d13000_520 : decode (jm_b 13000) 520 = .ok (.iconst 1, 1) := by decide +kernel
theorem d13000_521 : decode (jm_b 13000) 521 = .ok (.iadd, 1) := by decide +kernel
theorem d13000_522 : decode (jm_b 13000) 522 = .ok (.iaload, 1) := by decide +kernel
theorem d13000_523 : decode (jm_b 13000) 523 = .ok (.invokevirtual 69, 3) := by decide +kernel
theorem d13000_526 : decode (jm_b 13000) 526 = .ok (.aload_n 2, 1) := by decide +kernel
theorem d13000_527 : decode (jm_b 13000) 527 = .ok (.aload_n 0, 1) := by decide +kernel
theorem d13000_528 : decode (jm_b 13000) 528 = .ok (.iload_n 3, 1) := by decide +kernel
theorem d13000_529 : decode (jm_b 13000) 529 = .ok (.iconst 1, 1) := by decide +kernel
theorem d13000_530 : decode (jm_b 13000) 530 = .ok (.iadd, 1) := by decide +kernel
theorem d13000_531 : decode (jm_b 13000) 531 = .ok (.iaload, 1) := by decide +kernel
theorem d13000_532 : decode (jm_b 13000) 532 = .ok (.invokevirtual 73, 3) := by decide +kernel
theorem d13000_535 : decode (jm_b 13000) 535 = .ok (.if_icmp .eq 513, 3) := by decide +kernel
theorem d13000_538 : decode (jm_b 13000) 538 = .ok (.iconst 0, 1) := by decide +kernel
theorem d13000_539 : decode (jm_b 13000) 539 = .ok (.ireturn, 1) := by decide +kernel
theorem d13000_540 : decode (jm_b 13000) 540 = .ok (.aload_n 1, 1) := by decide +kernel
theorem d13000_541 : decode (jm_b 13000) 541 = .ok (.invokevirtual 74, 3) := by decide +kernel
theorem d13000_544 : decode (jm_b 13000) 544 = .ok (.aload_n 2, 1) := by decide +kernel
theorem d13000_545 : decode (jm_b 13000) 545 = .ok (.invokevirtual 77, 3) := by decide +kernel
theorem d13000_548 : decode (jm_b 13000) 548 = .ok (.if_icmp .eq 500, 3) := by decide +kernel
theorem d13000_551 : decode (jm_b 13000) 551 = .ok (.iconst 0, 1) := by decide +kernel
theorem d13000_552 : decode (jm_b 13000) 552 = .ok (.ireturn, 1) := by decide +kernel
theorem d13000_553 : decode (jm_b 13000) 553 = .ok (.aload_n 1, 1) := by decide +kernel
theorem d13000_554 : decode (jm_b 13000) 554 = .ok (.aload_n 0, 1) := by decide +kernel
theorem d13000_555 : decode (jm_b 13000) 555 = .ok (.iload_n 3, 1) := by decide +kernel
theorem d13000_556 : decode (jm_b 13000) 556 = .ok (.iconst 1, 1) := by decide +kernel
theorem d13000_557 : decode (jm_b 13000) 557 = .ok (.iadd, 1) := by decide +kernel
theorem d13000_558 : decode (jm_b 13000) 558 = .ok (.iaload, 1) := by decide +kernel
theorem d13000_559 : decode (jm_b 13000) 559 = .ok (.aload_n 0, 1) := by decide +kernel
theorem d13000_560 : decode (jm_b 13000) 560 = .ok (.iload_n 3, 1) := by decide +kernel
theorem d13000_561 : decode (jm_b 13000) 561 = .ok (.iconst 2, 1) := by decide +kernel
theorem d13000_562 : decode (jm_b 13000) 562 = .ok (.iadd, 1) := by decide +kernel
theorem d13000_563 : decode (jm_b 13000) 563 = .ok (.iaload, 1) := by decide +kernel
theorem d13000_564 : decode (jm_b 13000) 564 = .ok (.aload_n 0, 1) := by decide +kernel
theorem d13000_565 : decode (jm_b 13000) 565 = .ok (.iload_n 3, 1) := by decide +kernel
theorem d13000_566 : decode (jm_b 13000) 566 = .ok (.iconst 3, 1) := by decide +kernel
theorem d13000_567 : decode (jm_b 13000) 567 = .ok (.iadd, 1) := by decide +kernel
theorem d13000_568 : decode (jm_b 13000) 568 = .ok (.iaload, 1) := by decide +kernel
theorem d13000_569 : decode (jm_b 13000) 569 = .ok (.invokevirtual 78, 3) := by decide +kernel
theorem d13000_572 : decode (jm_b 13000) 572 = .ok (.aload_n 2, 1) := by decide +kernel
theorem d13000_573 : decode (jm_b 13000) 573 = .ok (.aload_n 0, 1) := by decide +kernel
theorem d13000_574 : decode (jm_b 13000) 574 = .ok (.iload_n 3, 1) := by decide +kernel
theorem d13000_575 : decode (jm_b 13000) 575 = .ok (.iconst 1, 1) := by decide +kernel
theorem d13000_576 : decode (jm_b 13000) 576 = .ok (.iadd, 1) := by decide +kernel
theorem d13000_577 : decode (jm_b 13000) 577 = .ok (.iaload, 1) := by decide +kernel
theorem d13000_578 : decode (jm_b 13000) 578 = .ok (.aload_n 0, 1) := by decide +kernel
theorem d13000_579 : decode (jm_b 13000) 579 = .ok (.iload_n 3, 1) := by decide +kernel
theorem d13000_580 : decode (jm_b 13000) 580 = .ok (.iconst 2, 1) := by decide +kernel
theorem d13000_581 : decode (jm_b 13000) 581 = .ok (.iadd, 1) := by decide +kernel
theorem d13000_582 : decode (jm_b 13000) 582 = .ok (.iaload, 1) := by decide +kernel
theorem d13000_583 : decode (jm_b 13000) 583 = .ok (.aload_n 0, 1) := by decide +kernel
theorem d13000_584 : decode (jm_b 13000) 584 = .ok (.iload_n 3, 1) := by decide +kernel
theorem d13000_585 : decode (jm_b 13000) 585 = .ok (.iconst 3, 1) := by decide +kernel
theorem d13000_586 : decode (jm_b 13000) 586 = .ok (.iadd, 1) := by decide +kernel
theorem d13000_587 : decode (jm_b 13000) 587 = .ok (.iaload, 1) := by decide +kernel
theorem d13000_588 : decode (jm_b 13000) 588 = .ok (.invokevirtual 82, 3) := by decide +kernel
theorem d13000_591 : decode (jm_b 13000) 591 = .ok (.if_icmp .eq 457, 3) := by decide +kernel
theorem d13000_594 : decode (jm_b 13000) 594 = .ok (.iconst 0, 1) := by decide +kernel
theorem d13000_595 : decode (jm_b 13000) 595 = .ok (.ireturn, 1) := by decide +kernel
theorem d13000_596 : decode (jm_b 13000) 596 = .ok (.aload_n 1, 1) := by decide +kernel
theorem d13000_597 : decode (jm_b 13000) 597 = .ok (.aload_n 0, 1) := by decide +kernel
theorem d13000_598 : decode (jm_b 13000) 598 = .ok (.iload_n 3, 1) := by decide +kernel
theorem d13000_599 : decode (jm_b 13000) 599 = .ok (.iconst 1, 1) := by decide +kernel
theorem d13000_600 : decode (jm_b 13000) 600 = .ok (.iadd, 1) := by decide +kernel
theorem d13000_601 : decode (jm_b 13000) 601 = .ok (.iaload, 1) := by decide +kernel
theorem d13000_602 : decode (jm_b 13000) 602 = .ok (.invokevirtual 83, 3) := by decide +kernel
theorem d13000_605 : decode (jm_b 13000) 605 = .ok (.aload_n 2, 1) := by decide +kernel
theorem d13000_606 : decode (jm_b 13000) 606 = .ok (.aload_n 0, 1) := by decide +kernel
theorem d13000_607 : decode (jm_b 13000) 607 = .ok (.iload_n 3, 1) := by decide +kernel
theorem d13000_608 : decode (jm_b 13000) 608 = .ok (.iconst 1, 1) := by decide +kernel
theorem d13000_609 : decode (jm_b 13000) 609 = .ok (.iadd, 1) := by decide +kernel
theorem d13000_610 : decode (jm_b 13000) 610 = .ok (.iaload, 1) := by decide +kernel
theorem d13000_611 : decode (jm_b 13000) 611 = .ok (.invokevirtual 86, 3) := by decide +kernel
theorem d13000_614 : decode (jm_b 13000) 614 = .ok (.if_icmp .eq 434, 3) := by decide +kernel
theorem d13000_617 : decode (jm_b 13000) 617 = .ok (.iconst 0, 1) := by decide +kernel
theorem d13000_618 : decode (jm_b 13000) 618 = .ok (.ireturn, 1) := by decide +kernel
theorem d13000_619 : decode (jm_b 13000) 619 = .ok (.aload_n 1, 1) := by decide +kernel
theorem d13000_620 : decode (jm_b 13000) 620 = .ok (.aload_n 0, 1) := by decide +kernel
theorem d13000_621 : decode (jm_b 13000) 621 = .ok (.iload_n 3, 1) := by decide +kernel
theorem d13000_622 : decode (jm_b 13000) 622 = .ok (.iconst 1, 1) := by decide +kernel
theorem d13000_623 : decode (jm_b 13000) 623 = .ok (.iadd, 1) := by decide +kernel
theorem d13000_624 : decode (jm_b 13000) 624 = .ok (.iaload, 1) := by decide +kernel
theorem d13000_625 : decode (jm_b 13000) 625 = .ok (.aload_n 0, 1) := by decide +kernel
theorem d13000_626 : decode (jm_b 13000) 626 = .ok (.iload_n 3, 1) := by decide +kernel
theorem d13000_627 : decode (jm_b 13000) 627 = .ok (.iconst 2, 1) := by decide +kernel
theorem d13000_628 : decode (jm_b 13000) 628 = .ok (.iadd, 1) := by decide +kernel
theorem d13000_629 : decode (jm_b 13000) 629 = .ok (.iaload, 1) := by decide +kernel
theorem d13000_630 : decode (jm_b 13000) 630 = .ok (.invokevirtual 87, 3) := by decide +kernel
theorem d13000_633 : decode (jm_b 13000) 633 = .ok (.aload_n 2, 1) := by decide +kernel
theorem d13000_634 : decode (jm_b 13000) 634 = .ok (.aload_n 0, 1) := by decide +kernel
theorem d13000_635 : decode (jm_b 13000) 635 = .ok (.iload_n 3, 1) := by decide +kernel
theorem d13000_636 : decode (jm_b 13000) 636 = .ok (.iconst 1, 1) := by decide +kernel
theorem d13000_637 : decode (jm_b 13000) 637 = .ok (.iadd, 1) := by decide +kernel
theorem d13000_638 : decode (jm_b 13000) 638 = .ok (.iaload, 1) := by decide +kernel
theorem d13000_639 : decode (jm_b 13000) 639 = .ok (.aload_n 0, 1) := by decide +kernel
theorem d13000_640 : decode (jm_b 13000) 640 = .ok (.iload_n 3, 1) := by decide +kernel
theorem d13000_641 : decode (jm_b 13000) 641 = .ok (.iconst 2, 1) := by decide +kernel
theorem d13000_642 : decode (jm_b 13000) 642 = .ok (.iadd, 1) := by decide +kernel
theorem d13000_643 : decode (jm_b 13000) 643 = .ok (.iaload, 1) := by decide +kernel
theorem d13000_644 : decode (jm_b 13000) 644 = .ok (.invokevirtual 90, 3) := by decide +kernel
theorem d13000_647 : decode (jm_b 13000) 647 = .ok (.if_icmp .eq 401, 3) := by decide +kernel
theorem d13000_650 : decode (jm_b 13000) 650 = .ok (.iconst 0, 1) := by decide +kernel
theorem d13000_651 : decode (jm_b 13000) 651 = .ok (.ireturn, 1) := by decide +kernel
theorem d13000_652 : decode (jm_b 13000) 652 = .ok (.aload_n 1, 1) := by decide +kernel
theorem d13000_653 : decode (jm_b 13000) 653 = .ok (.aload_n 0, 1) := by decide +kernel
theorem d13000_654 : decode (jm_b 13000) 654 = .ok (.iload_n 3, 1) := by decide +kernel
theorem d13000_655 : decode (jm_b 13000) 655 = .ok (.iconst 1, 1) := by decide +kernel
theorem d13000_656 : decode (jm_b 13000) 656 = .ok (.iadd, 1) := by decide +kernel
theorem d13000_657 : decode (jm_b 13000) 657 = .ok (.iaload, 1) := by decide +kernel
theorem d13000_658 : decode (jm_b 13000) 658 = .ok (.aload_n 0, 1) := by decide +kernel
theorem d13000_659 : decode (jm_b 13000) 659 = .ok (.iload_n 3, 1) := by decide +kernel
theorem d13000_660 : decode (jm_b 13000) 660 = .ok (.iconst 2, 1) := by decide +kernel
theorem d13000_661 : decode (jm_b 13000) 661 = .ok (.iadd, 1) := by decide +kernel
theorem d13000_662 : decode (jm_b 13000) 662 = .ok (.iaload, 1) := by decide +kernel
theorem d13000_663 : decode (jm_b 13000) 663 = .ok (.invokevirtual 91, 3) := by decide +kernel
theorem d13000_666 : decode (jm_b 13000) 666 = .ok (.aload_n 2, 1) := by decide +kernel
theorem d13000_667 : decode (jm_b 13000) 667 = .ok (.aload_n 0, 1) := by decide +kernel
theorem d13000_668 : decode (jm_b 13000) 668 = .ok (.iload_n 3, 1) := by decide +kernel
theorem d13000_669 : decode (jm_b 13000) 669 = .ok (.iconst 1, 1) := by decide +kernel
theorem d13000_670 : decode (jm_b 13000) 670 = .ok (.iadd, 1) := by decide +kernel
theorem d13000_671 : decode (jm_b 13000) 671 = .ok (.iaload, 1) := by decide +kernel
theorem d13000_672 : decode (jm_b 13000) 672 = .ok (.aload_n 0, 1) := by decide +kernel
theorem d13000_673 : decode (jm_b 13000) 673 = .ok (.iload_n 3, 1) := by decide +kernel
theorem d13000_674 : decode (jm_b 13000) 674 = .ok (.iconst 2, 1) := by decide +kernel
theorem d13000_675 : decode (jm_b 13000) 675 = .ok (.iadd, 1) := by decide +kernel
theorem d13000_676 : decode (jm_b 13000) 676 = .ok (.iaload, 1) := by decide +kernel
theorem d13000_677 : decode (jm_b 13000) 677 = .ok (.invokevirtual 94, 3) := by decide +kernel
theorem d13000_680 : decode (jm_b 13000) 680 = .ok (.if_icmp .eq 368, 3) := by decide +kernel
theorem d13000_683 : decode (jm_b 13000) 683 = .ok (.iconst 0, 1) := by decide +kernel
theorem d13000_684 : decode (jm_b 13000) 684 = .ok (.ireturn, 1) := by decide +kernel
theorem d13000_685 : decode (jm_b 13000) 685 = .ok (.aload_n 1, 1) := by decide +kernel
theorem d13000_686 : decode (jm_b 13000) 686 = .ok (.aload_n 0, 1) := by decide +kernel
theorem d13000_687 : decode (jm_b 13000) 687 = .ok (.iload_n 3, 1) := by decide +kernel
theorem d13000_688 : decode (jm_b 13000) 688 = .ok (.iconst 1, 1) := by decide +kernel
theorem d13000_689 : decode (jm_b 13000) 689 = .ok (.iadd, 1) := by decide +kernel
theorem d13000_690 : decode (jm_b 13000) 690 = .ok (.iaload, 1) := by decide +kernel
theorem d13000_691 : decode (jm_b 13000) 691 = .ok (.aload_n 0, 1) := by decide +kernel
theorem d13000_692 : decode (jm_b 13000) 692 = .ok (.iload_n 3, 1) := by decide +kernel
theorem d13000_693 : decode (jm_b 13000) 693 = .ok (.iconst 2, 1) := by decide +kernel
theorem d13000_694 : decode (jm_b 13000) 694 = .ok (.iadd, 1) := by decide +kernel
theorem d13000_695 : decode (jm_b 13000) 695 = .ok (.iaload, 1) := by decide +kernel
theorem d13000_696 : decode (jm_b 13000) 696 = .ok (.aload_n 0, 1) := by decide +kernel
theorem d13000_697 : decode (jm_b 13000) 697 = .ok (.iload_n 3, 1) := by decide +kernel
theorem d13000_698 : decode (jm_b 13000) 698 = .ok (.iconst 3, 1) := by decide +kernel
theorem d13000_699 : decode (jm_b 13000) 699 = .ok (.iadd, 1) := by decide +kernel
theorem d13000_700 : decode (jm_b 13000) 700 = .ok (.iaload, 1) := by decide +kernel
theorem d13000_701 : decode (jm_b 13000) 701 = .ok (.invokevirtual 95, 3) := by decide +kernel
theorem d13000_704 : decode (jm_b 13000) 704 = .ok (.aload_n 2, 1) := by decide +kernel
theorem d13000_705 : decode (jm_b 13000) 705 = .ok (.aload_n 0, 1) := by decide +kernel
theorem d13000_706 : decode (jm_b 13000) 706 = .ok (.iload_n 3, 1) := by decide +kernel
theorem d13000_707 : decode (jm_b 13000) 707 = .ok (.iconst 1, 1) := by decide +kernel
theorem d13000_708 : decode (jm_b 13000) 708 = .ok (.iadd, 1) := by decide +kernel
theorem d13000_709 : decode (jm_b 13000) 709 = .ok (.iaload, 1) := by decide +kernel
theorem d13000_710 : decode (jm_b 13000) 710 = .ok (.aload_n 0, 1) := by decide +kernel
theorem d13000_711 : decode (jm_b 13000) 711 = .ok (.iload_n 3, 1) := by decide +kernel
theorem d13000_712 : decode (jm_b 13000) 712 = .ok (.iconst 2, 1) := by decide +kernel
theorem d13000_713 : decode (jm_b 13000) 713 = .ok (.iadd, 1) := by decide +kernel
theorem d13000_714 : decode (jm_b 13000) 714 = .ok (.iaload, 1) := by decide +kernel
theorem d13000_715 : decode (jm_b 13000) 715 = .ok (.aload_n 0, 1) := by decide +kernel
theorem d13000_716 : decode (jm_b 13000) 716 = .ok (.iload_n 3, 1) := by decide +kernel
theorem d13000_717 : decode (jm_b 13000) 717 = .ok (.iconst 3, 1) := by decide +kernel
theorem d13000_718 : decode (jm_b 13000) 718 = .ok (.iadd, 1) := by decide +kernel
theorem d13000_719 : decode (jm_b 13000) 719 = .ok (.iaload, 1) := by decide +kernel
theorem d13000_720 : decode (jm_b 13000) 720 = .ok (.invokevirtual 98, 3) := by decide +kernel
theorem d13000_723 : decode (jm_b 13000) 723 = .ok (.if_icmp .eq 325, 3) := by decide +kernel
theorem d13000_726 : decode (jm_b 13000) 726 = .ok (.iconst 0, 1) := by decide +kernel
theorem d13000_727 : decode (jm_b 13000) 727 = .ok (.ireturn, 1) := by decide +kernel
theorem d13000_728 : decode (jm_b 13000) 728 = .ok (.aload_n 1, 1) := by decide +kernel
theorem d13000_729 : decode (jm_b 13000) 729 = .ok (.aload_n 0, 1) := by decide +kernel
theorem d13000_730 : decode (jm_b 13000) 730 = .ok (.iload_n 3, 1) := by decide +kernel
theorem d13000_731 : decode (jm_b 13000) 731 = .ok (.iconst 1, 1) := by decide +kernel
theorem d13000_732 : decode (jm_b 13000) 732 = .ok (.iadd, 1) := by decide +kernel
theorem d13000_733 : decode (jm_b 13000) 733 = .ok (.iaload, 1) := by decide +kernel
theorem d13000_734 : decode (jm_b 13000) 734 = .ok (.aload_n 0, 1) := by decide +kernel
theorem d13000_735 : decode (jm_b 13000) 735 = .ok (.iload_n 3, 1) := by decide +kernel
theorem d13000_736 : decode (jm_b 13000) 736 = .ok (.iconst 2, 1) := by decide +kernel
theorem d13000_737 : decode (jm_b 13000) 737 = .ok (.iadd, 1) := by decide +kernel
theorem d13000_738 : decode (jm_b 13000) 738 = .ok (.iaload, 1) := by decide +kernel
theorem d13000_739 : decode (jm_b 13000) 739 = .ok (.invokevirtual 99, 3) := by decide +kernel
theorem d13000_742 : decode (jm_b 13000) 742 = .ok (.aload_n 2, 1) := by decide +kernel
theorem d13000_743 : decode (jm_b 13000) 743 = .ok (.aload_n 0, 1) := by decide +kernel
theorem d13000_744 : decode (jm_b 13000) 744 = .ok (.iload_n 3, 1) := by decide +kernel
theorem d13000_745 : decode (jm_b 13000) 745 = .ok (.iconst 1, 1) := by decide +kernel
theorem d13000_746 : decode (jm_b 13000) 746 = .ok (.iadd, 1) := by decide +kernel
theorem d13000_747 : decode (jm_b 13000) 747 = .ok (.iaload, 1) := by decide +kernel
theorem d13000_748 : decode (jm_b 13000) 748 = .ok (.aload_n 0, 1) := by decide +kernel
theorem d13000_749 : decode (jm_b 13000) 749 = .ok (.iload_n 3, 1) := by decide +kernel
theorem d13000_750 : decode (jm_b 13000) 750 = .ok (.iconst 2, 1) := by decide +kernel
theorem d13000_751 : decode (jm_b 13000) 751 = .ok (.iadd, 1) := by decide +kernel
theorem d13000_752 : decode (jm_b 13000) 752 = .ok (.iaload, 1) := by decide +kernel
theorem d13000_753 : decode (jm_b 13000) 753 = .ok (.invokevirtual 102, 3) := by decide +kernel
theorem d13000_756 : decode (jm_b 13000) 756 = .ok (.if_icmp .eq 292, 3) := by decide +kernel
theorem d13000_759 : decode (jm_b 13000) 759 = .ok (.iconst 0, 1) := by decide +kernel
theorem d13000_760 : decode (jm_b 13000) 760 = .ok (.ireturn, 1) := by decide +kernel
theorem d13000_761 : decode (jm_b 13000) 761 = .ok (.aload_n 1, 1) := by decide +kernel
theorem d13000_762 : decode (jm_b 13000) 762 = .ok (.aload_n 0, 1) := by decide +kernel
theorem d13000_763 : decode (jm_b 13000) 763 = .ok (.iload_n 3, 1) := by decide +kernel
theorem d13000_764 : decode (jm_b 13000) 764 = .ok (.iconst 1, 1) := by decide +kernel
theorem d13000_765 : decode (jm_b 13000) 765 = .ok (.iadd, 1) := by decide +kernel
theorem d13000_766 : decode (jm_b 13000) 766 = .ok (.iaload, 1) := by decide +kernel
theorem d13000_767 : decode (jm_b 13000) 767 = .ok (.aload_n 0, 1) := by decide +kernel
theorem d13000_768 : decode (jm_b 13000) 768 = .ok (.iload_n 3, 1) := by decide +kernel
theorem d13000_769 : decode (jm_b 13000) 769 = .ok (.iconst 2, 1) := by decide +kernel
theorem d13000_770 : decode (jm_b 13000) 770 = .ok (.iadd, 1) := by decide +kernel
theorem d13000_771 : decode (jm_b 13000) 771 = .ok (.iaload, 1) := by decide +kernel
theorem d13000_772 : decode (jm_b 13000) 772 = .ok (.aload_n 0, 1) := by decide +kernel
theorem d13000_773 : decode (jm_b 13000) 773 = .ok (.iload_n 3, 1) := by decide +kernel
theorem d13000_774 : decode (jm_b 13000) 774 = .ok (.iconst 3, 1) := by decide +kernel
theorem d13000_775 : decode (jm_b 13000) 775 = .ok (.iadd, 1) := by decide +kernel
theorem d13000_776 : decode (jm_b 13000) 776 = .ok (.iaload, 1) := by decide +kernel
theorem d13000_777 : decode (jm_b 13000) 777 = .ok (.invokevirtual 103, 3) := by decide +kernel
theorem d13000_780 : decode (jm_b 13000) 780 = .ok (.aload_n 2, 1) := by decide +kernel
theorem d13000_781 : decode (jm_b 13000) 781 = .ok (.aload_n 0, 1) := by decide +kernel
theorem d13000_782 : decode (jm_b 13000) 782 = .ok (.iload_n 3, 1) := by decide +kernel
theorem d13000_783 : decode (jm_b 13000) 783 = .ok (.iconst 1, 1) := by decide +kernel
theorem d13000_784 : decode (jm_b 13000) 784 = .ok (.iadd, 1) := by decide +kernel
theorem d13000_785 : decode (jm_b 13000) 785 = .ok (.iaload, 1) := by decide +kernel
theorem d13000_786 : decode (jm_b 13000) 786 = .ok (.aload_n 0, 1) := by decide +kernel
theorem d13000_787 : decode (jm_b 13000) 787 = .ok (.iload_n 3, 1) := by decide +kernel
theorem d13000_788 : decode (jm_b 13000) 788 = .ok (.iconst 2, 1) := by decide +kernel
theorem d13000_789 : decode (jm_b 13000) 789 = .ok (.iadd, 1) := by decide +kernel
theorem d13000_790 : decode (jm_b 13000) 790 = .ok (.iaload, 1) := by decide +kernel
theorem d13000_791 : decode (jm_b 13000) 791 = .ok (.aload_n 0, 1) := by decide +kernel
theorem d13000_792 : decode (jm_b 13000) 792 = .ok (.iload_n 3, 1) := by decide +kernel
theorem d13000_793 : decode (jm_b 13000) 793 = .ok (.iconst 3, 1) := by decide +kernel
theorem d13000_794 : decode (jm_b 13000) 794 = .ok (.iadd, 1) := by decide +kernel
theorem d13000_795 : decode (jm_b 13000) 795 = .ok (.iaload, 1) := by decide +kernel
theorem d13000_796 : decode (jm_b 13000) 796 = .ok (.invokevirtual 106, 3) := by decide +kernel
theorem d13000_799 : decode (jm_b 13000) 799 = .ok (.if_icmp .eq 249, 3) := by decide +kernel
theorem d13000_802 : decode (jm_b 13000) 802 = .ok (.iconst 0, 1) := by decide +kernel
theorem d13000_803 : decode (jm_b 13000) 803 = .ok (.ireturn, 1) := by decide +kernel
theorem d13000_804 : decode (jm_b 13000) 804 = .ok (.aload_n 1, 1) := by decide +kernel
theorem d13000_805 : decode (jm_b 13000) 805 = .ok (.aload_n 0, 1) := by decide +kernel
theorem d13000_806 : decode (jm_b 13000) 806 = .ok (.iload_n 3, 1) := by decide +kernel
theorem d13000_807 : decode (jm_b 13000) 807 = .ok (.iconst 1, 1) := by decide +kernel
theorem d13000_808 : decode (jm_b 13000) 808 = .ok (.iadd, 1) := by decide +kernel
theorem d13000_809 : decode (jm_b 13000) 809 = .ok (.iaload, 1) := by decide +kernel
theorem d13000_810 : decode (jm_b 13000) 810 = .ok (.aload_n 0, 1) := by decide +kernel
theorem d13000_811 : decode (jm_b 13000) 811 = .ok (.iload_n 3, 1) := by decide +kernel
theorem d13000_812 : decode (jm_b 13000) 812 = .ok (.iconst 2, 1) := by decide +kernel
theorem d13000_813 : decode (jm_b 13000) 813 = .ok (.iadd, 1) := by decide +kernel
theorem d13000_814 : decode (jm_b 13000) 814 = .ok (.iaload, 1) := by decide +kernel
theorem d13000_815 : decode (jm_b 13000) 815 = .ok (.aload_n 0, 1) := by decide +kernel
theorem d13000_816 : decode (jm_b 13000) 816 = .ok (.iload_n 3, 1) := by decide +kernel
theorem d13000_817 : decode (jm_b 13000) 817 = .ok (.iconst 3, 1) := by decide +kernel
theorem d13000_818 : decode (jm_b 13000) 818 = .ok (.iadd, 1) := by decide +kernel
theorem d13000_819 : decode (jm_b 13000) 819 = .ok (.iaload, 1) := by decide +kernel
theorem d13000_820 : decode (jm_b 13000) 820 = .ok (.aload_n 0, 1) := by decide +kernel
theorem d13000_821 : decode (jm_b 13000) 821 = .ok (.iload_n 3, 1) := by decide +kernel
theorem d13000_822 : decode (jm_b 13000) 822 = .ok (.iconst 4, 1) := by decide +kernel
theorem d13000_823 : decode (jm_b 13000) 823 = .ok (.iadd, 1) := by decide +kernel
theorem d13000_824 : decode (jm_b 13000) 824 = .ok (.iaload, 1) := by decide +kernel
theorem d13000_825 : decode (jm_b 13000) 825 = .ok (.invokevirtual 107, 3) := by decide +kernel
theorem d13000_828 : decode (jm_b 13000) 828 = .ok (.aload_n 2, 1) := by decide +kernel
theorem d13000_829 : decode (jm_b 13000) 829 = .ok (.aload_n 0, 1) := by decide +kernel
theorem d13000_830 : decode (jm_b 13000) 830 = .ok (.iload_n 3, 1) := by decide +kernel
theorem d13000_831 : decode (jm_b 13000) 831 = .ok (.iconst 1, 1) := by decide +kernel
theorem d13000_832 : decode (jm_b 13000) 832 = .ok (.iadd, 1) := by decide +kernel
theorem d13000_833 : decode (jm_b 13000) 833 = .ok (.iaload, 1) := by decide +kernel
theorem d13000_834 : decode (jm_b 13000) 834 = .ok (.aload_n 0, 1) := by decide +kernel
theorem d13000_835 : decode (jm_b 13000) 835 = .ok (.iload_n 3, 1) := by decide +kernel
theorem d13000_836 : decode (jm_b 13000) 836 = .ok (.iconst 2, 1) := by decide +kernel
theorem d13000_837 : decode (jm_b 13000) 837 = .ok (.iadd, 1) := by decide +kernel
theorem d13000_838 : decode (jm_b 13000) 838 = .ok (.iaload, 1) := by decide +kernel
theorem d13000_839 : decode (jm_b 13000) 839 = .ok (.aload_n 0, 1) := by decide +kernel
theorem d13000_840 : decode (jm_b 13000) 840 = .ok (.iload_n 3, 1) := by decide +kernel
theorem d13000_841 : decode (jm_b 13000) 841 = .ok (.iconst 3, 1) := by decide +kernel
theorem d13000_842 : decode (jm_b 13000) 842 = .ok (.iadd, 1) := by decide +kernel
theorem d13000_843 : decode (jm_b 13000) 843 = .ok (.iaload, 1) := by decide +kernel
theorem d13000_844 : decode (jm_b 13000) 844 = .ok (.aload_n 0, 1) := by decide +kernel
theorem d13000_845 : decode (jm_b 13000) 845 = .ok (.iload_n 3, 1) := by decide +kernel
theorem d13000_846 : decode (jm_b 13000) 846 = .ok (.iconst 4, 1) := by decide +kernel
theorem d13000_847 : decode (jm_b 13000) 847 = .ok (.iadd, 1) := by decide +kernel
theorem d13000_848 : decode (jm_b 13000) 848 = .ok (.iaload, 1) := by decide +kernel
theorem d13000_849 : decode (jm_b 13000) 849 = .ok (.invokevirtual 111, 3) := by decide +kernel
theorem d13000_852 : decode (jm_b 13000) 852 = .ok (.if_icmp .eq 196, 3) := by decide +kernel
theorem d13000_855 : decode (jm_b 13000) 855 = .ok (.iconst 0, 1) := by decide +kernel
theorem d13000_856 : decode (jm_b 13000) 856 = .ok (.ireturn, 1) := by decide +kernel
theorem d13000_857 : decode (jm_b 13000) 857 = .ok (.aload_n 1, 1) := by decide +kernel
theorem d13000_858 : decode (jm_b 13000) 858 = .ok (.aload_n 0, 1) := by decide +kernel
theorem d13000_859 : decode (jm_b 13000) 859 = .ok (.iload_n 3, 1) := by decide +kernel
theorem d13000_860 : decode (jm_b 13000) 860 = .ok (.iconst 1, 1) := by decide +kernel
theorem d13000_861 : decode (jm_b 13000) 861 = .ok (.iadd, 1) := by decide +kernel
theorem d13000_862 : decode (jm_b 13000) 862 = .ok (.iaload, 1) := by decide +kernel
theorem d13000_863 : decode (jm_b 13000) 863 = .ok (.aload_n 0, 1) := by decide +kernel
theorem d13000_864 : decode (jm_b 13000) 864 = .ok (.iload_n 3, 1) := by decide +kernel
theorem d13000_865 : decode (jm_b 13000) 865 = .ok (.iconst 2, 1) := by decide +kernel
theorem d13000_866 : decode (jm_b 13000) 866 = .ok (.iadd, 1) := by decide +kernel
theorem d13000_867 : decode (jm_b 13000) 867 = .ok (.iaload, 1) := by decide +kernel
theorem d13000_868 : decode (jm_b 13000) 868 = .ok (.invokevirtual 112, 3) := by decide +kernel
theorem d13000_871 : decode (jm_b 13000) 871 = .ok (.aload_n 2, 1) := by decide +kernel
theorem d13000_872 : decode (jm_b 13000) 872 = .ok (.aload_n 0, 1) := by decide +kernel
theorem d13000_873 : decode (jm_b 13000) 873 = .ok (.iload_n 3, 1) := by decide +kernel
theorem d13000_874 : decode (jm_b 13000) 874 = .ok (.iconst 1, 1) := by decide +kernel
theorem d13000_875 : decode (jm_b 13000) 875 = .ok (.iadd, 1) := by decide +kernel
theorem d13000_876 : decode (jm_b 13000) 876 = .ok (.iaload, 1) := by decide +kernel
theorem d13000_877 : decode (jm_b 13000) 877 = .ok (.aload_n 0, 1) := by decide +kernel
theorem d13000_878 : decode (jm_b 13000) 878 = .ok (.iload_n 3, 1) := by decide +kernel
theorem d13000_879 : decode (jm_b 13000) 879 = .ok (.iconst 2, 1) := by decide +kernel
theorem d13000_880 : decode (jm_b 13000) 880 = .ok (.iadd, 1) := by decide +kernel
theorem d13000_881 : decode (jm_b 13000) 881 = .ok (.iaload, 1) := by decide +kernel
theorem d13000_882 : decode (jm_b 13000) 882 = .ok (.invokevirtual 115, 3) := by decide +kernel
theorem d13000_885 : decode (jm_b 13000) 885 = .ok (.if_icmp .eq 163, 3) := by decide +kernel
theorem d13000_888 : decode (jm_b 13000) 888 = .ok (.iconst 0, 1) := by decide +kernel
theorem d13000_889 : decode (jm_b 13000) 889 = .ok (.ireturn, 1) := by decide +kernel
theorem d13000_890 : decode (jm_b 13000) 890 = .ok (.aload_n 1, 1) := by decide +kernel
theorem d13000_891 : decode (jm_b 13000) 891 = .ok (.aload_n 0, 1) := by decide +kernel
theorem d13000_892 : decode (jm_b 13000) 892 = .ok (.iload_n 3, 1) := by decide +kernel
theorem d13000_893 : decode (jm_b 13000) 893 = .ok (.iconst 1, 1) := by decide +kernel
theorem d13000_894 : decode (jm_b 13000) 894 = .ok (.iadd, 1) := by decide +kernel
theorem d13000_895 : decode (jm_b 13000) 895 = .ok (.iaload, 1) := by decide +kernel
theorem d13000_896 : decode (jm_b 13000) 896 = .ok (.invokevirtual 116, 3) := by decide +kernel
theorem d13000_899 : decode (jm_b 13000) 899 = .ok (.aload_n 2, 1) := by decide +kernel
theorem d13000_900 : decode (jm_b 13000) 900 = .ok (.aload_n 0, 1) := by decide +kernel
theorem d13000_901 : decode (jm_b 13000) 901 = .ok (.iload_n 3, 1) := by decide +kernel
theorem d13000_902 : decode (jm_b 13000) 902 = .ok (.iconst 1, 1) := by decide +kernel
theorem d13000_903 : decode (jm_b 13000) 903 = .ok (.iadd, 1) := by decide +kernel
theorem d13000_904 : decode (jm_b 13000) 904 = .ok (.iaload, 1) := by decide +kernel
theorem d13000_905 : decode (jm_b 13000) 905 = .ok (.invokevirtual 119, 3) := by decide +kernel
theorem d13000_908 : decode (jm_b 13000) 908 = .ok (.if_icmp .eq 140, 3) := by decide +kernel
theorem d13000_911 : decode (jm_b 13000) 911 = .ok (.iconst 0, 1) := by decide +kernel
theorem d13000_912 : decode (jm_b 13000) 912 = .ok (.ireturn, 1) := by decide +kernel
theorem d13000_913 : decode (jm_b 13000) 913 = .ok (.aload_n 1, 1) := by decide +kernel
theorem d13000_914 : decode (jm_b 13000) 914 = .ok (.aload_n 0, 1) := by decide +kernel
theorem d13000_915 : decode (jm_b 13000) 915 = .ok (.iload_n 3, 1) := by decide +kernel
theorem d13000_916 : decode (jm_b 13000) 916 = .ok (.iconst 1, 1) := by decide +kernel
theorem d13000_917 : decode (jm_b 13000) 917 = .ok (.iadd, 1) := by decide +kernel
theorem d13000_918 : decode (jm_b 13000) 918 = .ok (.iaload, 1) := by decide +kernel
theorem d13000_919 : decode (jm_b 13000) 919 = .ok (.invokevirtual 120, 3) := by decide +kernel
theorem d13000_922 : decode (jm_b 13000) 922 = .ok (.aload_n 2, 1) := by decide +kernel
theorem d13000_923 : decode (jm_b 13000) 923 = .ok (.aload_n 0, 1) := by decide +kernel
theorem d13000_924 : decode (jm_b 13000) 924 = .ok (.iload_n 3, 1) := by decide +kernel
theorem d13000_925 : decode (jm_b 13000) 925 = .ok (.iconst 1, 1) := by decide +kernel
theorem d13000_926 : decode (jm_b 13000) 926 = .ok (.iadd, 1) := by decide +kernel
theorem d13000_927 : decode (jm_b 13000) 927 = .ok (.iaload, 1) := by decide +kernel
theorem d13000_928 : decode (jm_b 13000) 928 = .ok (.invokevirtual 123, 3) := by decide +kernel
theorem d13000_931 : decode (jm_b 13000) 931 = .ok (.if_icmp .eq 117, 3) := by decide +kernel
theorem d13000_934 : decode (jm_b 13000) 934 = .ok (.iconst 0, 1) := by decide +kernel
theorem d13000_935 : decode (jm_b 13000) 935 = .ok (.ireturn, 1) := by decide +kernel
theorem d13000_936 : decode (jm_b 13000) 936 = .ok (.aload_n 1, 1) := by decide +kernel
theorem d13000_937 : decode (jm_b 13000) 937 = .ok (.aload_n 0, 1) := by decide +kernel
theorem d13000_938 : decode (jm_b 13000) 938 = .ok (.iload_n 3, 1) := by decide +kernel
theorem d13000_939 : decode (jm_b 13000) 939 = .ok (.iconst 1, 1) := by decide +kernel
theorem d13000_940 : decode (jm_b 13000) 940 = .ok (.iadd, 1) := by decide +kernel
theorem d13000_941 : decode (jm_b 13000) 941 = .ok (.iaload, 1) := by decide +kernel
theorem d13000_942 : decode (jm_b 13000) 942 = .ok (.aload_n 0, 1) := by decide +kernel
theorem d13000_943 : decode (jm_b 13000) 943 = .ok (.iload_n 3, 1) := by decide +kernel
theorem d13000_944 : decode (jm_b 13000) 944 = .ok (.iconst 2, 1) := by decide +kernel
theorem d13000_945 : decode (jm_b 13000) 945 = .ok (.iadd, 1) := by decide +kernel
theorem d13000_946 : decode (jm_b 13000) 946 = .ok (.iaload, 1) := by decide +kernel
theorem d13000_947 : decode (jm_b 13000) 947 = .ok (.aload_n 0, 1) := by decide +kernel
theorem d13000_948 : decode (jm_b 13000) 948 = .ok (.iload_n 3, 1) := by decide +kernel
theorem d13000_949 : decode (jm_b 13000) 949 = .ok (.iconst 3, 1) := by decide +kernel
theorem d13000_950 : decode (jm_b 13000) 950 = .ok (.iadd, 1) := by decide +kernel
theorem d13000_951 : decode (jm_b 13000) 951 = .ok (.iaload, 1) := by decide +kernel
theorem d13000_952 : decode (jm_b 13000) 952 = .ok (.invokevirtual 124, 3) := by decide +kernel
theorem d13000_955 : decode (jm_b 13000) 955 = .ok (.aload_n 2, 1) := by decide +kernel
theorem d13000_956 : decode (jm_b 13000) 956 = .ok (.aload_n 0, 1) := by decide +kernel
theorem d13000_957 : decode (jm_b 13000) 957 = .ok (.iload_n 3, 1) := by decide +kernel
theorem d13000_958 : decode (jm_b 13000) 958 = .ok (.iconst 1, 1) := by decide +kernel
theorem d13000_959 : decode (jm_b 13000) 959 = .ok (.iadd, 1) := by decide +kernel
theorem d13000_960 : decode (jm_b 13000) 960 = .ok (.iaload, 1) := by decide +kernel
theorem d13000_961 : decode (jm_b 13000) 961 = .ok (.aload_n 0, 1) := by decide +kernel
theorem d13000_962 : decode (jm_b 13000) 962 = .ok (.iload_n 3, 1) := by decide +kernel
theorem d13000_963 : decode (jm_b 13000) 963 = .ok (.iconst 2, 1) := by decide +kernel
theorem d13000_964 : decode (jm_b 13000) 964 = .ok (.iadd, 1) := by decide +kernel
theorem d13000_965 : decode (jm_b 13000) 965 = .ok (.iaload, 1) := by decide +kernel
theorem d13000_966 : decode (jm_b 13000) 966 = .ok (.aload_n 0, 1) := by decide +kernel
theorem d13000_967 : decode (jm_b 13000) 967 = .ok (.iload_n 3, 1) := by decide +kernel
theorem d13000_968 : decode (jm_b 13000) 968 = .ok (.iconst 3, 1) := by decide +kernel
theorem d13000_969 : decode (jm_b 13000) 969 = .ok (.iadd, 1) := by decide +kernel
theorem d13000_970 : decode (jm_b 13000) 970 = .ok (.iaload, 1) := by decide +kernel
theorem d13000_971 : decode (jm_b 13000) 971 = .ok (.invokevirtual 127, 3) := by decide +kernel
theorem d13000_974 : decode (jm_b 13000) 974 = .ok (.if_icmp .eq 74, 3) := by decide +kernel
theorem d13000_977 : decode (jm_b 13000) 977 = .ok (.iconst 0, 1) := by decide +kernel
theorem d13000_978 : decode (jm_b 13000) 978 = .ok (.ireturn, 1) := by decide +kernel
theorem d13000_979 : decode (jm_b 13000) 979 = .ok (.aload_n 1, 1) := by decide +kernel
theorem d13000_980 : decode (jm_b 13000) 980 = .ok (.aload_n 0, 1) := by decide +kernel
theorem d13000_981 : decode (jm_b 13000) 981 = .ok (.iload_n 3, 1) := by decide +kernel
theorem d13000_982 : decode (jm_b 13000) 982 = .ok (.iconst 1, 1) := by decide +kernel
theorem d13000_983 : decode (jm_b 13000) 983 = .ok (.iadd, 1) := by decide +kernel
theorem d13000_984 : decode (jm_b 13000) 984 = .ok (.iaload, 1) := by decide +kernel
theorem d13000_985 : decode (jm_b 13000) 985 = .ok (.invokevirtual 128, 3) := by decide +kernel
theorem d13000_988 : decode (jm_b 13000) 988 = .ok (.aload_n 2, 1) := by decide +kernel
theorem d13000_989 : decode (jm_b 13000) 989 = .ok (.aload_n 0, 1) := by decide +kernel
theorem d13000_990 : decode (jm_b 13000) 990 = .ok (.iload_n 3, 1) := by decide +kernel
theorem d13000_991 : decode (jm_b 13000) 991 = .ok (.iconst 1, 1) := by decide +kernel
theorem d13000_992 : decode (jm_b 13000) 992 = .ok (.iadd, 1) := by decide +kernel
theorem d13000_993 : decode (jm_b 13000) 993 = .ok (.iaload, 1) := by decide +kernel
theorem d13000_994 : decode (jm_b 13000) 994 = .ok (.invokevirtual 131, 3) := by decide +kernel
theorem d13000_997 : decode (jm_b 13000) 997 = .ok (.if_icmp .eq 51, 3) := by decide +kernel
theorem d13000_1000 : decode (jm_b 13000) 1000 = .ok (.iconst 0, 1) := by decide +kernel
theorem d13000_1001 : decode (jm_b 13000) 1001 = .ok (.ireturn, 1) := by decide +kernel
theorem d13000_1002 : decode (jm_b 13000) 1002 = .ok (.aload_n 1, 1) := by decide +kernel
theorem d13000_1003 : decode (jm_b 13000) 1003 = .ok (.aload_n 0, 1) := by decide +kernel
theorem d13000_1004 : decode (jm_b 13000) 1004 = .ok (.iload_n 3, 1) := by decide +kernel
theorem d13000_1005 : decode (jm_b 13000) 1005 = .ok (.iconst 1, 1) := by decide +kernel
theorem d13000_1006 : decode (jm_b 13000) 1006 = .ok (.iadd, 1) := by decide +kernel
theorem d13000_1007 : decode (jm_b 13000) 1007 = .ok (.iaload, 1) := by decide +kernel
theorem d13000_1008 : decode (jm_b 13000) 1008 = .ok (.invokevirtual 132, 3) := by decide +kernel
theorem d13000_1011 : decode (jm_b 13000) 1011 = .ok (.aload_n 2, 1) := by decide +kernel
theorem d13000_1012 : decode (jm_b 13000) 1012 = .ok (.aload_n 0, 1) := by decide +kernel
theorem d13000_1013 : decode (jm_b 13000) 1013 = .ok (.iload_n 3, 1) := by decide +kernel
theorem d13000_1014 : decode (jm_b 13000) 1014 = .ok (.iconst 1, 1) := by decide +kernel
theorem d13000_1015 : decode (jm_b 13000) 1015 = .ok (.iadd, 1) := by decide +kernel
theorem d13000_1016 : decode (jm_b 13000) 1016 = .ok (.iaload, 1) := by decide +kernel
theorem d13000_1017 : decode (jm_b 13000) 1017 = .ok (.invokevirtual 135, 3) := by decide +kernel
theorem d13000_1020 : decode (jm_b 13000) 1020 = .ok (.if_icmp .eq 28, 3) := by decide +kernel
theorem d13000_1023 : decode (jm_b 13000) 1023 = .ok (.iconst 0, 1) := by decide +kernel
theorem d13000_1024 : decode (jm_b 13000) 1024 = .ok (.ireturn, 1) := by decide +kernel
theorem d13000_1025 : decode (jm_b 13000) 1025 = .ok (.aload_n 1, 1) := by decide +kernel
theorem d13000_1026 : decode (jm_b 13000) 1026 = .ok (.aload_n 0, 1) := by decide +kernel
theorem d13000_1027 : decode (jm_b 13000) 1027 = .ok (.iload_n 3, 1) := by decide +kernel
theorem d13000_1028 : decode (jm_b 13000) 1028 = .ok (.iconst 1, 1) := by decide +kernel
theorem d13000_1029 : decode (jm_b 13000) 1029 = .ok (.iadd, 1) := by decide +kernel
theorem d13000_1030 : decode (jm_b 13000) 1030 = .ok (.iaload, 1) := by decide +kernel
theorem d13000_1031 : decode (jm_b 13000) 1031 = .ok (.invokevirtual 136, 3) := by decide +kernel
theorem d13000_1034 : decode (jm_b 13000) 1034 = .ok (.aload_n 2, 1) := by decide +kernel
theorem d13000_1035 : decode (jm_b 13000) 1035 = .ok (.aload_n 0, 1) := by decide +kernel
theorem d13000_1036 : decode (jm_b 13000) 1036 = .ok (.iload_n 3, 1) := by decide +kernel
theorem d13000_1037 : decode (jm_b 13000) 1037 = .ok (.iconst 1, 1) := by decide +kernel
theorem d13000_1038 : decode (jm_b 13000) 1038 = .ok (.iadd, 1) := by decide +kernel
theorem d13000_1039 : decode (jm_b 13000) 1039 = .ok (.iaload, 1) := by decide +kernel
theorem d13000_1040 : decode (jm_b 13000) 1040 = .ok (.invokevirtual 139, 3) := by decide +kernel
theorem d13000_1043 : decode (jm_b 13000) 1043 = .ok (.if_icmp .eq 5, 3) := by decide +kernel
theorem d13000_1046 : decode (jm_b 13000) 1046 = .ok (.iconst 0, 1) := by decide +kernel
theorem d13000_1047 : decode (jm_b 13000) 1047 = .ok (.ireturn, 1) := by decide +kernel
theorem d13000_1048 : decode (jm_b 13000) 1048 = .ok (.iinc 3 6, 3) := by decide +kernel
theorem d13000_1051 : decode (jm_b 13000) 1051 = .ok (.goto (-1033), 3) := by decide +kernel
theorem d13000_1054 : decode (jm_b 13000) 1054 = .ok (.iconst 1, 1) := by decide +kernel
theorem d13000_1055 : decode (jm_b 13000) 1055 = .ok (.ireturn, 1) := by decide +kernel
