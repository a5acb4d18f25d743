/-! decode rows (by program) -/
theorem d6004_0 : decode (jm_b 6004) 0 = .ok (.iconst 0, 1) := by decide +kernel
theorem d6004_1 : decode (jm_b 6004) 1 = .ok (.istore_n 1, 1) := by decide +kernel
theorem d6004_2 : decode (jm_b 6004) 2 = .ok (.iload_n 1, 1) := by decide +kernel
theorem d6004_3 : decode (jm_b 6004) 3 = .ok (.bipush 12, 2) := by decide +kernel
theorem d6004_5 : decode (jm_b 6004) 5 = .ok (.if_icmp .ge 28, 3) := by decide +kernel
theorem d6004_8 : decode (jm_b 6004) 8 = .ok (.aload_n 0, 1) := by decide +kernel
theorem d6004_9 : decode (jm_b 6004) 9 = .ok (.getfield 16, 3) := by decide +kernel
theorem d6004_12 : decode (jm_b 6004) 12 = .ok (.iload_n 1, 1) := by decide +kernel
theorem d6004_13 : decode (jm_b 6004) 13 = .ok (.invokestatic 107, 3) := by decide +kernel
theorem d6004_16 : decode (jm_b 6004) 16 = .ok (.invokevirtual 34, 3) := by decide +kernel
theorem d6004_19 : decode (jm_b 6004) 19 = .ok (.ifCond .eq 8, 3) := by decide +kernel
theorem d6004_22 : decode (jm_b 6004) 22 = .ok (.ldc 111, 2) := by decide +kernel
theorem d6004_24 : decode (jm_b 6004) 24 = .ok (.iload_n 1, 1) := by decide +kernel
theorem d6004_25 : decode (jm_b 6004) 25 = .ok (.iadd, 1) := by decide +kernel
theorem d6004_26 : decode (jm_b 6004) 26 = .ok (.ireturn, 1) := by decide +kernel
theorem d6004_27 : decode (jm_b 6004) 27 = .ok (.iinc 1 1, 3) := by decide +kernel
theorem d6004_30 : decode (jm_b 6004) 30 = .ok (.goto (-28), 3) := by decide +kernel
theorem d6004_33 : decode (jm_b 6004) 33 = .ok (.aload_n 0, 1) := by decide +kernel
theorem d6004_34 : decode (jm_b 6004) 34 = .ok (.getfield 16, 3) := by decide +kernel
theorem d6004_37 : decode (jm_b 6004) 37 = .ok (.iconst 0, 1) := by decide +kernel
theorem d6004_38 : decode (jm_b 6004) 38 = .ok (.invokevirtual 38, 3) := by decide +kernel
theorem d6004_41 : decode (jm_b 6004) 41 = .ok (.ldc 111, 2) := by decide +kernel
theorem d6004_43 : decode (jm_b 6004) 43 = .ok (.ireturn, 1) := by decide +kernel
theorem d6005_0 : decode (jm_b 6005) 0 = .ok (.iload_n 0, 1) := by decide +kernel
theorem d6005_1 : decode (jm_b 6005) 1 = .ok (.tableswitch 92 0 10 #[59, 62, 65, 68, 71, 74, 77, 80, 83, 86, 89], 59) := by decide +kernel
theorem d6005_60 : decode (jm_b 6005) 60 = .ok (.ldc 112, 2) := by decide +kernel
theorem d6005_62 : decode (jm_b 6005) 62 = .ok (.areturn, 1) := by decide +kernel
theorem d6005_63 : decode (jm_b 6005) 63 = .ok (.ldc 114, 2) := by decide +kernel
theorem d6005_65 : decode (jm_b 6005) 65 = .ok (.areturn, 1) := by decide +kernel
theorem d6005_66 : decode (jm_b 6005) 66 = .ok (.ldc 116, 2) := by decide +kernel
theorem d6005_68 : decode (jm_b 6005) 68 = .ok (.areturn, 1) := by decide +kernel
theorem d6005_69 : decode (jm_b 6005) 69 = .ok (.ldc 118, 2) := by decide +kernel
theorem d6005_71 : decode (jm_b 6005) 71 = .ok (.areturn, 1) := by decide +kernel
theorem d6005_72 : decode (jm_b 6005) 72 = .ok (.ldc 120, 2) := by decide +kernel
theorem d6005_74 : decode (jm_b 6005) 74 = .ok (.areturn, 1) := by decide +kernel
theorem d6005_75 : decode (jm_b 6005) 75 = .ok (.ldc 122, 2) := by decide +kernel
theorem d6005_77 : decode (jm_b 6005) 77 = .ok (.areturn, 1) := by decide +kernel
theorem d6005_78 : decode (jm_b 6005) 78 = .ok (.ldc 124, 2) := by decide +kernel
theorem d6005_80 : decode (jm_b 6005) 80 = .ok (.areturn, 1) := by decide +kernel
theorem d6005_81 : decode (jm_b 6005) 81 = .ok (.ldc 126, 2) := by decide +kernel
theorem d6005_83 : decode (jm_b 6005) 83 = .ok (.areturn, 1) := by decide +kernel
theorem d6005_84 : decode (jm_b 6005) 84 = .ok (.ldc 128, 2) := by decide +kernel
theorem d6005_86 : decode (jm_b 6005) 86 = .ok (.areturn, 1) := by decide +kernel
theorem d6005_87 : decode (jm_b 6005) 87 = .ok (.ldc 130, 2) := by decide +kernel
theorem d6005_89 : decode (jm_b 6005) 89 = .ok (.areturn, 1) := by decide +kernel
theorem d6005_90 : decode (jm_b 6005) 90 = .ok (.ldc 132, 2) := by decide +kernel
theorem d6005_92 : decode (jm_b 6005) 92 = .ok (.areturn, 1) := by decide +kernel
theorem d6005_93 : decode (jm_b 6005) 93 = .ok (.ldc 134, 2) := by decide +kernel
theorem d6005_95 : decode (jm_b 6005) 95 = .ok (.areturn, 1) := by decide +kernel
theorem d6006_0 : decode (jm_b 6006) 0 = .ok (.aload_n 0, 1) := by decide +kernel
theorem d6006_1 : decode (jm_b 6006) 1 = .ok (.dup, 1) := by decide +kernel
theorem d6006_2 : decode (jm_b 6006) 2 = .ok (.getfield 23, 3) := by decide +kernel
theorem d6006_5 : decode (jm_b 6006) 5 = .ok (.iconst 1, 1) := by decide +kernel
theorem d6006_6 : decode (jm_b 6006) 6 = .ok (.iadd, 1) := by decide +kernel
theorem d6006_7 : decode (jm_b 6006) 7 = .ok (.putfield 23, 3) := by decide +kernel
theorem d6006_10 : decode (jm_b 6006) 10 = .ok (.aload_n 0, 1) := by decide +kernel
theorem d6006_11 : decode (jm_b 6006) 11 = .ok (.getfield 23, 3) := by decide +kernel
theorem d6006_14 : decode (jm_b 6006) 14 = .ok (.bipush 60, 2) := by decide +kernel
theorem d6006_16 : decode (jm_b 6006) 16 = .ok (.if_icmp .le 11, 3) := by decide +kernel
theorem d6006_19 : decode (jm_b 6006) 19 = .ok (.aload_n 0, 1) := by decide +kernel
theorem d6006_20 : decode (jm_b 6006) 20 = .ok (.getfield 16, 3) := by decide +kernel
theorem d6006_23 : decode (jm_b 6006) 23 = .ok (.iconst 3, 1) := by decide +kernel
theorem d6006_24 : decode (jm_b 6006) 24 = .ok (.invokevirtual 38, 3) := by decide +kernel
theorem d6006_27 : decode (jm_b 6006) 27 = .ok (.return_, 1) := by decide +kernel
theorem d5002_0 : decode (jm_b 5002) 0 = .ok (.aload_n 0, 1) := by decide +kernel
theorem d5002_1 : decode (jm_b 5002) 1 = .ok (.getfield 28, 3) := by decide +kernel
theorem d5002_4 : decode (jm_b 5002) 4 = .ok (.sipush 400, 3) := by decide +kernel
theorem d5002_7 : decode (jm_b 5002) 7 = .ok (.if_icmp .ge 23, 3) := by decide +kernel
theorem d5002_10 : decode (jm_b 5002) 10 = .ok (.aload_n 0, 1) := by decide +kernel
theorem d5002_11 : decode (jm_b 5002) 11 = .ok (.getfield 9, 3) := by decide +kernel
theorem d5002_14 : decode (jm_b 5002) 14 = .ok (.aload_n 0, 1) := by decide +kernel
theorem d5002_15 : decode (jm_b 5002) 15 = .ok (.getfield 28, 3) := by decide +kernel
theorem d5002_18 : decode (jm_b 5002) 18 = .ok (.iload_n 1, 1) := by decide +kernel
theorem d5002_19 : decode (jm_b 5002) 19 = .ok (.iastore, 1) := by decide +kernel
theorem d5002_20 : decode (jm_b 5002) 20 = .ok (.aload_n 0, 1) := by decide +kernel
theorem d5002_21 : decode (jm_b 5002) 21 = .ok (.dup, 1) := by decide +kernel
theorem d5002_22 : decode (jm_b 5002) 22 = .ok (.getfield 28, 3) := by decide +kernel
theorem d5002_25 : decode (jm_b 5002) 25 = .ok (.iconst 1, 1) := by decide +kernel
theorem d5002_26 : decode (jm_b 5002) 26 = .ok (.iadd, 1) := by decide +kernel
theorem d5002_27 : decode (jm_b 5002) 27 = .ok (.putfield 28, 3) := by decide +kernel
theorem d5002_30 : decode (jm_b 5002) 30 = .ok (.return_, 1) := by decide +kernel
theorem d6007_0 : decode (jm_b 6007) 0 = .ok (.iload_n 0, 1) := by decide +kernel
theorem d6007_1 : decode (jm_b 6007) 1 = .ok (.lookupswitch 44 #[(37, 41), (42, 35), (47, 38)], 35) := by decide +kernel
theorem d6007_36 : decode (jm_b 6007) 36 = .ok (.bipush (-3), 2) := by decide +kernel
theorem d6007_38 : decode (jm_b 6007) 38 = .ok (.ireturn, 1) := by decide +kernel
theorem d6007_39 : decode (jm_b 6007) 39 = .ok (.bipush (-4), 2) := by decide +kernel
theorem d6007_41 : decode (jm_b 6007) 41 = .ok (.ireturn, 1) := by decide +kernel
theorem d6007_42 : decode (jm_b 6007) 42 = .ok (.bipush (-5), 2) := by decide +kernel
theorem d6007_44 : decode (jm_b 6007) 44 = .ok (.ireturn, 1) := by decide +kernel
theorem d6007_45 : decode (jm_b 6007) 45 = .ok (.iconst 0, 1) := by decide +kernel
theorem d6007_46 : decode (jm_b 6007) 46 = .ok (.ireturn, 1) := by decide +kernel
theorem d6008_0 : decode (jm_b 6008) 0 = .ok (.iload_n 0, 1) := by decide +kernel
theorem d6008_1 : decode (jm_b 6008) 1 = .ok (.lookupswitch 32 #[(43, 27), (45, 29)], 27) := by decide +kernel
theorem d6008_28 : decode (jm_b 6008) 28 = .ok (.iconst (-1), 1) := by decide +kernel
theorem d6008_29 : decode (jm_b 6008) 29 = .ok (.ireturn, 1) := by decide +kernel
theorem d6008_30 : decode (jm_b 6008) 30 = .ok (.bipush (-2), 2) := by decide +kernel
theorem d6008_32 : decode (jm_b 6008) 32 = .ok (.ireturn, 1) := by decide +kernel
theorem d6008_33 : decode (jm_b 6008) 33 = .ok (.iconst 0, 1) := by decide +kernel
theorem d6008_34 : decode (jm_b 6008) 34 = .ok (.ireturn, 1) := by decide +kernel
theorem d6009_0 : decode (jm_b 6009) 0 = .ok (.iconst 0, 1) := by decide +kernel
theorem d6009_1 : decode (jm_b 6009) 1 = .ok (.istore_n 2, 1) := by decide +kernel
theorem d6009_2 : decode (jm_b 6009) 2 = .ok (.iconst 0, 1) := by decide +kernel
theorem d6009_3 : decode (jm_b 6009) 3 = .ok (.istore_n 3, 1) := by decide +kernel
theorem d6009_4 : decode (jm_b 6009) 4 = .ok (.iconst 1, 1) := by decide +kernel
theorem d6009_5 : decode (jm_b 6009) 5 = .ok (.istore 4, 2) := by decide +kernel
theorem d6009_7 : decode (jm_b 6009) 7 = .ok (.iconst 0, 1) := by decide +kernel
theorem d6009_8 : decode (jm_b 6009) 8 = .ok (.istore 5, 2) := by decide +kernel
theorem d6009_10 : decode (jm_b 6009) 10 = .ok (.iload 4, 2) := by decide +kernel
theorem d6009_12 : decode (jm_b 6009) 12 = .ok (.ifCond .eq 98, 3) := by decide +kernel
theorem d6009_15 : decode (jm_b 6009) 15 = .ok (.iload 5, 2) := by decide +kernel
theorem d6009_17 : decode (jm_b 6009) 17 = .ok (.bipush 60, 2) := by decide +kernel
theorem d6009_19 : decode (jm_b 6009) 19 = .ok (.if_icmp .gt 91, 3) := by decide +kernel
theorem d6009_22 : decode (jm_b 6009) 22 = .ok (.aload_n 0, 1) := by decide +kernel
theorem d6009_23 : decode (jm_b 6009) 23 = .ok (.iload_n 1, 1) := by decide +kernel
theorem d6009_24 : decode (jm_b 6009) 24 = .ok (.invokevirtual 64, 3) := by decide +kernel
theorem d6009_27 : decode (jm_b 6009) 27 = .ok (.iload_n 2, 1) := by decide +kernel
theorem d6009_28 : decode (jm_b 6009) 28 = .ok (.ifCond .eq 12, 3) := by decide +kernel
theorem d6009_31 : decode (jm_b 6009) 31 = .ok (.aload_n 0, 1) := by decide +kernel
theorem d6009_32 : decode (jm_b 6009) 32 = .ok (.getfield 10, 3) := by decide +kernel
theorem d6009_35 : decode (jm_b 6009) 35 = .ok (.bipush (-11), 2) := by decide +kernel
theorem d6009_37 : decode (jm_b 6009) 37 = .ok (.invokevirtual 67, 3) := by decide +kernel
theorem d6009_40 : decode (jm_b 6009) 40 = .ok (.aload_n 0, 1) := by decide +kernel
theorem d6009_41 : decode (jm_b 6009) 41 = .ok (.getfield 16, 3) := by decide +kernel
theorem d6009_44 : decode (jm_b 6009) 44 = .ok (.ldc 70, 2) := by decide +kernel
theorem d6009_46 : decode (jm_b 6009) 46 = .ok (.invokevirtual 34, 3) := by decide +kernel
theorem d6009_49 : decode (jm_b 6009) 49 = .ok (.istore_n 2, 1) := by decide +kernel
theorem d6009_50 : decode (jm_b 6009) 50 = .ok (.iload_n 2, 1) := by decide +kernel
theorem d6009_51 : decode (jm_b 6009) 51 = .ok (.ifCond .ne 26, 3) := by decide +kernel
theorem d6009_54 : decode (jm_b 6009) 54 = .ok (.iload_n 3, 1) := by decide +kernel
theorem d6009_55 : decode (jm_b 6009) 55 = .ok (.ifCond .eq 12, 3) := by decide +kernel
theorem d6009_58 : decode (jm_b 6009) 58 = .ok (.aload_n 0, 1) := by decide +kernel
theorem d6009_59 : decode (jm_b 6009) 59 = .ok (.getfield 10, 3) := by decide +kernel
theorem d6009_62 : decode (jm_b 6009) 62 = .ok (.bipush (-12), 2) := by decide +kernel
theorem d6009_64 : decode (jm_b 6009) 64 = .ok (.invokevirtual 67, 3) := by decide +kernel
theorem d6009_67 : decode (jm_b 6009) 67 = .ok (.aload_n 0, 1) := by decide +kernel
theorem d6009_68 : decode (jm_b 6009) 68 = .ok (.getfield 16, 3) := by decide +kernel
theorem d6009_71 : decode (jm_b 6009) 71 = .ok (.ldc 72, 2) := by decide +kernel
theorem d6009_73 : decode (jm_b 6009) 73 = .ok (.invokevirtual 34, 3) := by decide +kernel
theorem d6009_76 : decode (jm_b 6009) 76 = .ok (.istore_n 3, 1) := by decide +kernel
theorem d6009_77 : decode (jm_b 6009) 77 = .ok (.iload_n 2, 1) := by decide +kernel
theorem d6009_78 : decode (jm_b 6009) 78 = .ok (.ifCond .ne 7, 3) := by decide +kernel
theorem d6009_81 : decode (jm_b 6009) 81 = .ok (.iload_n 3, 1) := by decide +kernel
theorem d6009_82 : decode (jm_b 6009) 82 = .ok (.ifCond .eq 7, 3) := by decide +kernel
theorem d6009_85 : decode (jm_b 6009) 85 = .ok (.iconst 1, 1) := by decide +kernel
theorem d6009_86 : decode (jm_b 6009) 86 = .ok (.goto 4, 3) := by decide +kernel
theorem d6009_89 : decode (jm_b 6009) 89 = .ok (.iconst 0, 1) := by decide +kernel
theorem d6009_90 : decode (jm_b 6009) 90 = .ok (.istore 4, 2) := by decide +kernel
theorem d6009_92 : decode (jm_b 6009) 92 = .ok (.iload 4, 2) := by decide +kernel
theorem d6009_94 : decode (jm_b 6009) 94 = .ok (.ifCond .eq 10, 3) := by decide +kernel
theorem d6009_97 : decode (jm_b 6009) 97 = .ok (.aload_n 0, 1) := by decide +kernel
theorem d6009_98 : decode (jm_b 6009) 98 = .ok (.getfield 16, 3) := by decide +kernel
theorem d6009_101 : decode (jm_b 6009) 101 = .ok (.invokevirtual 42, 3) := by decide +kernel
theorem d6009_104 : decode (jm_b 6009) 104 = .ok (.iinc 5 1, 3) := by decide +kernel
theorem d6009_107 : decode (jm_b 6009) 107 = .ok (.goto (-97), 3) := by decide +kernel
theorem d6009_110 : decode (jm_b 6009) 110 = .ok (.return_, 1) := by decide +kernel
theorem d6010_0 : decode (jm_b 6010) 0 = .ok (.aload_n 0, 1) := by decide +kernel
theorem d6010_1 : decode (jm_b 6010) 1 = .ok (.getfield 16, 3) := by decide +kernel
theorem d6010_4 : decode (jm_b 6010) 4 = .ok (.getfield 74, 3) := by decide +kernel
theorem d6010_7 : decode (jm_b 6010) 7 = .ok (.bipush 91, 2) := by decide +kernel
theorem d6010_9 : decode (jm_b 6010) 9 = .ok (.if_icmp .ne 7, 3) := by decide +kernel
theorem d6010_12 : decode (jm_b 6010) 12 = .ok (.iconst 1, 1) := by decide +kernel
theorem d6010_13 : decode (jm_b 6010) 13 = .ok (.goto 4, 3) := by decide +kernel
theorem d6010_16 : decode (jm_b 6010) 16 = .ok (.iconst 0, 1) := by decide +kernel
theorem d6010_17 : decode (jm_b 6010) 17 = .ok (.istore_n 2, 1) := by decide +kernel
theorem d6010_18 : decode (jm_b 6010) 18 = .ok (.aload_n 0, 1) := by decide +kernel
theorem d6010_19 : decode (jm_b 6010) 19 = .ok (.getfield 16, 3) := by decide +kernel
theorem d6010_22 : decode (jm_b 6010) 22 = .ok (.ldc 77, 2) := by decide +kernel
theorem d6010_24 : decode (jm_b 6010) 24 = .ok (.invokevirtual 34, 3) := by decide +kernel
theorem d6010_27 : decode (jm_b 6010) 27 = .ok (.istore_n 3, 1) := by decide +kernel
theorem d6010_28 : decode (jm_b 6010) 28 = .ok (.iload_n 2, 1) := by decide +kernel
theorem d6010_29 : decode (jm_b 6010) 29 = .ok (.ifCond .ne 33, 3) := by decide +kernel
theorem d6010_32 : decode (jm_b 6010) 32 = .ok (.iload_n 3, 1) := by decide +kernel
theorem d6010_33 : decode (jm_b 6010) 33 = .ok (.ifCond .ne 29, 3) := by decide +kernel
theorem d6010_36 : decode (jm_b 6010) 36 = .ok (.aload_n 0, 1) := by decide +kernel
theorem d6010_37 : decode (jm_b 6010) 37 = .ok (.invokevirtual 48, 3) := by decide +kernel
theorem d6010_40 : decode (jm_b 6010) 40 = .ok (.aload_n 0, 1) := by decide +kernel
theorem d6010_41 : decode (jm_b 6010) 41 = .ok (.invokevirtual 79, 3) := by decide +kernel
theorem d6010_44 : decode (jm_b 6010) 44 = .ok (.istore 4, 2) := by decide +kernel
theorem d6010_46 : decode (jm_b 6010) 46 = .ok (.aload_n 0, 1) := by decide +kernel
theorem d6010_47 : decode (jm_b 6010) 47 = .ok (.invokevirtual 48, 3) := by decide +kernel
theorem d6010_50 : decode (jm_b 6010) 50 = .ok (.aload_n 0, 1) := by decide +kernel
theorem d6010_51 : decode (jm_b 6010) 51 = .ok (.getfield 10, 3) := by decide +kernel
theorem d6010_54 : decode (jm_b 6010) 54 = .ok (.iload 4, 2) := by decide +kernel
theorem d6010_56 : decode (jm_b 6010) 56 = .ok (.invokevirtual 67, 3) := by decide +kernel
theorem d6010_59 : decode (jm_b 6010) 59 = .ok (.goto 91, 3) := by decide +kernel
theorem d6010_62 : decode (jm_b 6010) 62 = .ok (.iload_n 1, 1) := by decide +kernel
theorem d6010_63 : decode (jm_b 6010) 63 = .ok (.bipush 10, 2) := by decide +kernel
theorem d6010_65 : decode (jm_b 6010) 65 = .ok (.if_icmp .lt 14, 3) := by decide +kernel
theorem d6010_68 : decode (jm_b 6010) 68 = .ok (.aload_n 0, 1) := by decide +kernel
theorem d6010_69 : decode (jm_b 6010) 69 = .ok (.getfield 16, 3) := by decide +kernel
theorem d6010_72 : decode (jm_b 6010) 72 = .ok (.iconst 2, 1) := by decide +kernel
theorem d6010_73 : decode (jm_b 6010) 73 = .ok (.invokevirtual 38, 3) := by decide +kernel
theorem d6010_76 : decode (jm_b 6010) 76 = .ok (.goto 74, 3) := by decide +kernel
theorem d6010_79 : decode (jm_b 6010) 79 = .ok (.iload_n 3, 1) := by decide +kernel
theorem d6010_80 : decode (jm_b 6010) 80 = .ok (.ifCond .eq 29, 3) := by decide +kernel
theorem d6010_83 : decode (jm_b 6010) 83 = .ok (.aload_n 0, 1) := by decide +kernel
theorem d6010_84 : decode (jm_b 6010) 84 = .ok (.getfield 16, 3) := by decide +kernel
theorem d6010_87 : decode (jm_b 6010) 87 = .ok (.invokevirtual 42, 3) := by decide +kernel
theorem d6010_90 : decode (jm_b 6010) 90 = .ok (.aload_n 0, 1) := by decide +kernel
theorem d6010_91 : decode (jm_b 6010) 91 = .ok (.iload_n 1, 1) := by decide +kernel
theorem d6010_92 : decode (jm_b 6010) 92 = .ok (.iconst 1, 1) := by decide +kernel
theorem d6010_93 : decode (jm_b 6010) 93 = .ok (.iadd, 1) := by decide +kernel
theorem d6010_94 : decode (jm_b 6010) 94 = .ok (.invokevirtual 64, 3) := by decide +kernel
theorem d6010_97 : decode (jm_b 6010) 97 = .ok (.aload_n 0, 1) := by decide +kernel
theorem d6010_98 : decode (jm_b 6010) 98 = .ok (.getfield 10, 3) := by decide +kernel
theorem d6010_101 : decode (jm_b 6010) 101 = .ok (.bipush (-13), 2) := by decide +kernel
theorem d6010_103 : decode (jm_b 6010) 103 = .ok (.invokevirtual 67, 3) := by decide +kernel
theorem d6010_106 : decode (jm_b 6010) 106 = .ok (.goto 44, 3) := by decide +kernel
theorem d6010_109 : decode (jm_b 6010) 109 = .ok (.aload_n 0, 1) := by decide +kernel
theorem d6010_110 : decode (jm_b 6010) 110 = .ok (.getfield 16, 3) := by decide +kernel
theorem d6010_113 : decode (jm_b 6010) 113 = .ok (.invokevirtual 42, 3) := by decide +kernel
theorem d6010_116 : decode (jm_b 6010) 116 = .ok (.aload_n 0, 1) := by decide +kernel
theorem d6010_117 : decode (jm_b 6010) 117 = .ok (.iload_n 1, 1) := by decide +kernel
theorem d6010_118 : decode (jm_b 6010) 118 = .ok (.iconst 1, 1) := by decide +kernel
theorem d6010_119 : decode (jm_b 6010) 119 = .ok (.iadd, 1) := by decide +kernel
theorem d6010_120 : decode (jm_b 6010) 120 = .ok (.invokevirtual 53, 3) := by decide +kernel
theorem d6010_123 : decode (jm_b 6010) 123 = .ok (.aload_n 0, 1) := by decide +kernel
theorem d6010_124 : decode (jm_b 6010) 124 = .ok (.getfield 16, 3) := by decide +kernel
theorem d6010_127 : decode (jm_b 6010) 127 = .ok (.getfield 74, 3) := by decide +kernel
theorem d6010_130 : decode (jm_b 6010) 130 = .ok (.bipush 93, 2) := by decide +kernel
theorem d6010_132 : decode (jm_b 6010) 132 = .ok (.if_icmp .eq 11, 3) := by decide +kernel
theorem d6010_135 : decode (jm_b 6010) 135 = .ok (.aload_n 0, 1) := by decide +kernel
theorem d6010_136 : decode (jm_b 6010) 136 = .ok (.getfield 16, 3) := by decide +kernel
theorem d6010_139 : decode (jm_b 6010) 139 = .ok (.iconst 0, 1) := by decide +kernel
theorem d6010_140 : decode (jm_b 6010) 140 = .ok (.invokevirtual 38, 3) := by decide +kernel
theorem d6010_143 : decode (jm_b 6010) 143 = .ok (.aload_n 0, 1) := by decide +kernel
theorem d6010_144 : decode (jm_b 6010) 144 = .ok (.getfield 16, 3) := by decide +kernel
theorem d6010_147 : decode (jm_b 6010) 147 = .ok (.invokevirtual 42, 3) := by decide +kernel
theorem d6010_150 : decode (jm_b 6010) 150 = .ok (.return_, 1) := by decide +kernel
theorem d6011_0 : decode (jm_b 6011) 0 = .ok (.aload_n 0, 1) := by decide +kernel
theorem d6011_1 : decode (jm_b 6011) 1 = .ok (.getfield 16, 3) := by decide +kernel
theorem d6011_4 : decode (jm_b 6011) 4 = .ok (.getfield 74, 3) := by decide +kernel
theorem d6011_7 : decode (jm_b 6011) 7 = .ok (.invokestatic 83, 3) := by decide +kernel
theorem d6011_10 : decode (jm_b 6011) 10 = .ok (.istore_n 1, 1) := by decide +kernel
theorem d6011_11 : decode (jm_b 6011) 11 = .ok (.iload_n 1, 1) := by decide +kernel
theorem d6011_12 : decode (jm_b 6011) 12 = .ok (.ifCond .ne 11, 3) := by decide +kernel
theorem d6011_15 : decode (jm_b 6011) 15 = .ok (.aload_n 0, 1) := by decide +kernel
theorem d6011_16 : decode (jm_b 6011) 16 = .ok (.getfield 16, 3) := by decide +kernel
theorem d6011_19 : decode (jm_b 6011) 19 = .ok (.iconst 0, 1) := by decide +kernel
theorem d6011_20 : decode (jm_b 6011) 20 = .ok (.invokevirtual 38, 3) := by decide +kernel
theorem d6011_23 : decode (jm_b 6011) 23 = .ok (.aload_n 0, 1) := by decide +kernel
theorem d6011_24 : decode (jm_b 6011) 24 = .ok (.invokevirtual 87, 3) := by decide +kernel
theorem d6011_27 : decode (jm_b 6011) 27 = .ok (.aload_n 0, 1) := by decide +kernel
theorem d6011_28 : decode (jm_b 6011) 28 = .ok (.getfield 16, 3) := by decide +kernel
theorem d6011_31 : decode (jm_b 6011) 31 = .ok (.invokevirtual 42, 3) := by decide +kernel
theorem d6011_34 : decode (jm_b 6011) 34 = .ok (.iload_n 1, 1) := by decide +kernel
theorem d6011_35 : decode (jm_b 6011) 35 = .ok (.ireturn, 1) := by decide +kernel
theorem d6012_0 : decode (jm_b 6012) 0 = .ok (.iload_n 0, 1) := by decide +kernel
theorem d6012_1 : decode (jm_b 6012) 1 = .ok (.lookupswitch 66 #[(60, 51), (61, 57), (62, 63), (258, 54), (259, 60)], 51) := by decide +kernel
theorem d6012_52 : decode (jm_b 6012) 52 = .ok (.bipush (-6), 2) := by decide +kernel
theorem d6012_54 : decode (jm_b 6012) 54 = .ok (.ireturn, 1) := by decide +kernel
theorem d6012_55 : decode (jm_b 6012) 55 = .ok (.bipush (-7), 2) := by decide +kernel
theorem d6012_57 : decode (jm_b 6012) 57 = .ok (.ireturn, 1) := by decide +kernel
theorem d6012_58 : decode (jm_b 6012) 58 = .ok (.bipush (-8), 2) := by decide +kernel
theorem d6012_60 : decode (jm_b 6012) 60 = .ok (.ireturn, 1) := by decide +kernel
theorem d6012_61 : decode (jm_b 6012) 61 = .ok (.bipush (-9), 2) := by decide +kernel
theorem d6012_63 : decode (jm_b 6012) 63 = .ok (.ireturn, 1) := by decide +kernel
theorem d6012_64 : decode (jm_b 6012) 64 = .ok (.bipush (-10), 2) := by decide +kernel
theorem d6012_66 : decode (jm_b 6012) 66 = .ok (.ireturn, 1) := by decide +kernel
theorem d6012_67 : decode (jm_b 6012) 67 = .ok (.iconst 0, 1) := by decide +kernel
theorem d6012_68 : decode (jm_b 6012) 68 = .ok (.ireturn, 1) := by decide +kernel
theorem d5003_0 : decode (jm_b 5003) 0 = .ok (.aload_n 0, 1) := by decide +kernel
theorem d5003_1 : decode (jm_b 5003) 1 = .ok (.getfield 32, 3) := by decide +kernel
theorem d5003_4 : decode (jm_b 5003) 4 = .ok (.bipush 12, 2) := by decide +kernel
theorem d5003_6 : decode (jm_b 5003) 6 = .ok (.if_icmp .ge 46, 3) := by decide +kernel
theorem d5003_9 : decode (jm_b 5003) 9 = .ok (.aload_n 0, 1) := by decide +kernel
theorem d5003_10 : decode (jm_b 5003) 10 = .ok (.getfield 15, 3) := by decide +kernel
theorem d5003_13 : decode (jm_b 5003) 13 = .ok (.aload_n 0, 1) := by decide +kernel
theorem d5003_14 : decode (jm_b 5003) 14 = .ok (.getfield 32, 3) := by decide +kernel
theorem d5003_17 : decode (jm_b 5003) 17 = .ok (.iload_n 1, 1) := by decide +kernel
theorem d5003_18 : decode (jm_b 5003) 18 = .ok (.iastore, 1) := by decide +kernel
theorem d5003_19 : decode (jm_b 5003) 19 = .ok (.aload_n 0, 1) := by decide +kernel
theorem d5003_20 : decode (jm_b 5003) 20 = .ok (.getfield 18, 3) := by decide +kernel
theorem d5003_23 : decode (jm_b 5003) 23 = .ok (.aload_n 0, 1) := by decide +kernel
theorem d5003_24 : decode (jm_b 5003) 24 = .ok (.getfield 32, 3) := by decide +kernel
theorem d5003_27 : decode (jm_b 5003) 27 = .ok (.iload_n 2, 1) := by decide +kernel
theorem d5003_28 : decode (jm_b 5003) 28 = .ok (.iastore, 1) := by decide +kernel
theorem d5003_29 : decode (jm_b 5003) 29 = .ok (.aload_n 0, 1) := by decide +kernel
theorem d5003_30 : decode (jm_b 5003) 30 = .ok (.getfield 21, 3) := by decide +kernel
theorem d5003_33 : decode (jm_b 5003) 33 = .ok (.aload_n 0, 1) := by decide +kernel
theorem d5003_34 : decode (jm_b 5003) 34 = .ok (.getfield 32, 3) := by decide +kernel
theorem d5003_37 : decode (jm_b 5003) 37 = .ok (.aload_n 0, 1) := by decide +kernel
theorem d5003_38 : decode (jm_b 5003) 38 = .ok (.getfield 28, 3) := by decide +kernel
theorem d5003_41 : decode (jm_b 5003) 41 = .ok (.iastore, 1) := by decide +kernel
theorem d5003_42 : decode (jm_b 5003) 42 = .ok (.aload_n 0, 1) := by decide +kernel
theorem d5003_43 : decode (jm_b 5003) 43 = .ok (.dup, 1) := by decide +kernel
theorem d5003_44 : decode (jm_b 5003) 44 = .ok (.getfield 32, 3) := by decide +kernel
theorem d5003_47 : decode (jm_b 5003) 47 = .ok (.iconst 1, 1) := by decide +kernel
theorem d5003_48 : decode (jm_b 5003) 48 = .ok (.iadd, 1) := by decide +kernel
theorem d5003_49 : decode (jm_b 5003) 49 = .ok (.putfield 32, 3) := by decide +kernel
theorem d5003_52 : decode (jm_b 5003) 52 = .ok (.return_, 1) := by decide +kernel
theorem d6_0 : decode (jm_b 6) 0 = .ok (.iload_n 1, 1) := by decide +kernel
theorem d6_1 : decode (jm_b 6) 1 = .ok (.iconst (-1), 1) := by decide +kernel
theorem d6_2 : decode (jm_b 6) 2 = .ok (.if_icmp .lt 11, 3) := by decide +kernel
theorem d6_5 : decode (jm_b 6) 5 = .ok (.iload_n 1, 1) := by decide +kernel
theorem d6_6 : decode (jm_b 6) 6 = .ok (.aload_n 0, 1) := by decide +kernel
theorem d6_7 : decode (jm_b 6) 7 = .ok (.getfield 111, 3) := by decide +kernel
theorem d6_10 : decode (jm_b 6) 10 = .ok (.if_icmp .lt 6, 3) := by decide +kernel
theorem d6_13 : decode (jm_b 6) 13 = .ok (.bipush (-2), 2) := by decide +kernel
theorem d6_15 : decode (jm_b 6) 15 = .ok (.ireturn, 1) := by decide +kernel
theorem d6_16 : decode (jm_b 6) 16 = .ok (.aload_n 0, 1) := by decide +kernel
theorem d6_17 : decode (jm_b 6) 17 = .ok (.getfield 41, 3) := by decide +kernel
theorem d6_20 : decode (jm_b 6) 20 = .ok (.getfield 117, 3) := by decide +kernel
theorem d6_23 : decode (jm_b 6) 23 = .ok (.istore_n 2, 1) := by decide +kernel
theorem d6_24 : decode (jm_b 6) 24 = .ok (.aload_n 0, 1) := by decide +kernel
theorem d6_25 : decode (jm_b 6) 25 = .ok (.getfield 41, 3) := by decide +kernel
theorem d6_28 : decode (jm_b 6) 28 = .ok (.iload_n 1, 1) := by decide +kernel
theorem d6_29 : decode (jm_b 6) 29 = .ok (.putfield 117, 3) := by decide +kernel
theorem d6_32 : decode (jm_b 6) 32 = .ok (.aload_n 0, 1) := by decide +kernel
theorem d6_33 : decode (jm_b 6) 33 = .ok (.invokevirtual 103, 3) := by decide +kernel
theorem d6_36 : decode (jm_b 6) 36 = .ok (.iload_n 2, 1) := by decide +kernel
theorem d6_37 : decode (jm_b 6) 37 = .ok (.ireturn, 1) := by decide +kernel
theorem d7_0 : decode (jm_b 7) 0 = .ok (.aload_n 0, 1) := by decide +kernel
theorem d7_1 : decode (jm_b 7) 1 = .ok (.iload_n 1, 1) := by decide +kernel
theorem d7_2 : decode (jm_b 7) 2 = .ok (.invokevirtual 120, 3) := by decide +kernel
theorem d7_5 : decode (jm_b 7) 5 = .ok (.ifCond .ne 6, 3) := by decide +kernel
theorem d7_8 : decode (jm_b 7) 8 = .ok (.bipush (-100), 2) := by decide +kernel
theorem d7_10 : decode (jm_b 7) 10 = .ok (.ireturn, 1) := by decide +kernel
theorem d7_11 : decode (jm_b 7) 11 = .ok (.iload_n 2, 1) := by decide +kernel
theorem d7_12 : decode (jm_b 7) 12 = .ok (.tableswitch 108 0 4 #[36, 49, 62, 75, 95], 36) := by decide +kernel
theorem d7_48 : decode (jm_b 7) 48 = .ok (.aload_n 0, 1) := by decide +kernel
theorem d7_49 : decode (jm_b 7) 49 = .ok (.getfield 41, 3) := by decide +kernel
theorem d7_52 : decode (jm_b 7) 52 = .ok (.getfield 124, 3) := by decide +kernel
theorem d7_55 : decode (jm_b 7) 55 = .ok (.getfield 128, 3) := by decide +kernel
theorem d7_58 : decode (jm_b 7) 58 = .ok (.iload_n 1, 1) := by decide +kernel
theorem d7_59 : decode (jm_b 7) 59 = .ok (.iaload, 1) := by decide +kernel
theorem d7_60 : decode (jm_b 7) 60 = .ok (.ireturn, 1) := by decide +kernel
theorem d7_61 : decode (jm_b 7) 61 = .ok (.aload_n 0, 1) := by decide +kernel
theorem d7_62 : decode (jm_b 7) 62 = .ok (.getfield 41, 3) := by decide +kernel
theorem d7_65 : decode (jm_b 7) 65 = .ok (.getfield 124, 3) := by decide +kernel
theorem d7_68 : decode (jm_b 7) 68 = .ok (.getfield 134, 3) := by decide +kernel
theorem d7_71 : decode (jm_b 7) 71 = .ok (.iload_n 1, 1) := by decide +kernel
theorem d7_72 : decode (jm_b 7) 72 = .ok (.iaload, 1) := by decide +kernel
theorem d7_73 : decode (jm_b 7) 73 = .ok (.ireturn, 1) := by decide +kernel
theorem d7_74 : decode (jm_b 7) 74 = .ok (.aload_n 0, 1) := by decide +kernel
theorem d7_75 : decode (jm_b 7) 75 = .ok (.getfield 41, 3) := by decide +kernel
theorem d7_78 : decode (jm_b 7) 78 = .ok (.getfield 124, 3) := by decide +kernel
theorem d7_81 : decode (jm_b 7) 81 = .ok (.getfield 137, 3) := by decide +kernel
theorem d7_84 : decode (jm_b 7) 84 = .ok (.iload_n 1, 1) := by decide +kernel
theorem d7_85 : decode (jm_b 7) 85 = .ok (.iaload, 1) := by decide +kernel
theorem d7_86 : decode (jm_b 7) 86 = .ok (.ireturn, 1) := by decide +kernel
theorem d7_87 : decode (jm_b 7) 87 = .ok (.aload_n 0, 1) := by decide +kernel
theorem d7_88 : decode (jm_b 7) 88 = .ok (.getfield 41, 3) := by decide +kernel
theorem d7_91 : decode (jm_b 7) 91 = .ok (.getfield 124, 3) := by decide +kernel
theorem d7_94 : decode (jm_b 7) 94 = .ok (.iload_n 1, 1) := by decide +kernel
theorem d7_95 : decode (jm_b 7) 95 = .ok (.invokevirtual 140, 3) := by decide +kernel
theorem d7_98 : decode (jm_b 7) 98 = .ok (.ifCond .eq 7, 3) := by decide +kernel
theorem d7_101 : decode (jm_b 7) 101 = .ok (.iconst 1, 1) := by decide +kernel
theorem d7_102 : decode (jm_b 7) 102 = .ok (.goto 4, 3) := by decide +kernel
theorem d7_105 : decode (jm_b 7) 105 = .ok (.iconst 0, 1) := by decide +kernel
theorem d7_106 : decode (jm_b 7) 106 = .ok (.ireturn, 1) := by decide +kernel
theorem d7_107 : decode (jm_b 7) 107 = .ok (.aload_n 0, 1) := by decide +kernel
theorem d7_108 : decode (jm_b 7) 108 = .ok (.getfield 41, 3) := by decide +kernel
theorem d7_111 : decode (jm_b 7) 111 = .ok (.getfield 143, 3) := by decide +kernel
theorem d7_114 : decode (jm_b 7) 114 = .ok (.getfield 147, 3) := by decide +kernel
theorem d7_117 : decode (jm_b 7) 117 = .ok (.iload_n 1, 1) := by decide +kernel
theorem d7_118 : decode (jm_b 7) 118 = .ok (.iaload, 1) := by decide +kernel
theorem d7_119 : decode (jm_b 7) 119 = .ok (.ireturn, 1) := by decide +kernel
theorem d7_120 : decode (jm_b 7) 120 = .ok (.bipush (-100), 2) := by decide +kernel
theorem d7_122 : decode (jm_b 7) 122 = .ok (.ireturn, 1) := by decide +kernel
theorem d8_0 : decode (jm_b 8) 0 = .ok (.iload_n 1, 1) := by decide +kernel
theorem d8_1 : decode (jm_b 8) 1 = .ok (.ifCond .lt 21, 3) := by decide +kernel
theorem d8_4 : decode (jm_b 8) 4 = .ok (.iload_n 1, 1) := by decide +kernel
theorem d8_5 : decode (jm_b 8) 5 = .ok (.aload_n 0, 1) := by decide +kernel
theorem d8_6 : decode (jm_b 8) 6 = .ok (.getfield 41, 3) := by decide +kernel
theorem d8_9 : decode (jm_b 8) 9 = .ok (.getfield 143, 3) := by decide +kernel
theorem d8_12 : decode (jm_b 8) 12 = .ok (.getfield 293, 3) := by decide +kernel
theorem d8_15 : decode (jm_b 8) 15 = .ok (.if_icmp .ge 7, 3) := by decide +kernel
theorem d8_18 : decode (jm_b 8) 18 = .ok (.iconst 1, 1) := by decide +kernel
theorem d8_19 : decode (jm_b 8) 19 = .ok (.goto 4, 3) := by decide +kernel
theorem d8_22 : decode (jm_b 8) 22 = .ok (.iconst 0, 1) := by decide +kernel
theorem d8_23 : decode (jm_b 8) 23 = .ok (.ireturn, 1) := by decide +kernel
theorem d4002_0 : decode (jm_b 4002) 0 = .ok (.aload_n 0, 1) := by decide +kernel
theorem d4002_1 : decode (jm_b 4002) 1 = .ok (.getfield 30, 3) := by decide +kernel
theorem d4002_4 : decode (jm_b 4002) 4 = .ok (.iload_n 1, 1) := by decide +kernel
theorem d4002_5 : decode (jm_b 4002) 5 = .ok (.ishr, 1) := by decide +kernel
theorem d4002_6 : decode (jm_b 4002) 6 = .ok (.iconst 1, 1) := by decide +kernel
theorem d4002_7 : decode (jm_b 4002) 7 = .ok (.iand, 1) := by decide +kernel
theorem d4002_8 : decode (jm_b 4002) 8 = .ok (.ifCond .eq 7, 3) := by decide +kernel
theorem d4002_11 : decode (jm_b 4002) 11 = .ok (.iconst 1, 1) := by decide +kernel
theorem d4002_12 : decode (jm_b 4002) 12 = .ok (.goto 4, 3) := by decide +kernel
theorem d4002_15 : decode (jm_b 4002) 15 = .ok (.iconst 0, 1) := by decide +kernel
theorem d4002_16 : decode (jm_b 4002) 16 = .ok (.ireturn, 1) := by decide +kernel
theorem d9_0 : decode (jm_b 9) 0 = .ok (.aload_n 0, 1) := by decide +kernel
theorem d9_1 : decode (jm_b 9) 1 = .ok (.iload_n 1, 1) := by decide +kernel
theorem d9_2 : decode (jm_b 9) 2 = .ok (.invokevirtual 150, 3) := by decide +kernel
theorem d9_5 : decode (jm_b 9) 5 = .ok (.ifCond .ne 6, 3) := by decide +kernel
theorem d9_8 : decode (jm_b 9) 8 = .ok (.bipush (-100), 2) := by decide +kernel
theorem d9_10 : decode (jm_b 9) 10 = .ok (.ireturn, 1) := by decide +kernel
theorem d9_11 : decode (jm_b 9) 11 = .ok (.iload_n 2, 1) := by decide +kernel
theorem d9_12 : decode (jm_b 9) 12 = .ok (.tableswitch 107 0 4 #[36, 49, 62, 75, 94], 36) := by decide +kernel
theorem d9_48 : decode (jm_b 9) 48 = .ok (.aload_n 0, 1) := by decide +kernel
theorem d9_49 : decode (jm_b 9) 49 = .ok (.getfield 41, 3) := by decide +kernel
theorem d9_52 : decode (jm_b 9) 52 = .ok (.getfield 143, 3) := by decide +kernel
theorem d9_55 : decode (jm_b 9) 55 = .ok (.getfield 153, 3) := by decide +kernel
theorem d9_58 : decode (jm_b 9) 58 = .ok (.iload_n 1, 1) := by decide +kernel
theorem d9_59 : decode (jm_b 9) 59 = .ok (.iaload, 1) := by decide +kernel
theorem d9_60 : decode (jm_b 9) 60 = .ok (.ireturn, 1) := by decide +kernel
theorem d9_61 : decode (jm_b 9) 61 = .ok (.aload_n 0, 1) := by decide +kernel
theorem d9_62 : decode (jm_b 9) 62 = .ok (.getfield 41, 3) := by decide +kernel
theorem d9_65 : decode (jm_b 9) 65 = .ok (.getfield 143, 3) := by decide +kernel
theorem d9_68 : decode (jm_b 9) 68 = .ok (.getfield 156, 3) := by decide +kernel
theorem d9_71 : decode (jm_b 9) 71 = .ok (.iload_n 1, 1) := by decide +kernel
theorem d9_72 : decode (jm_b 9) 72 = .ok (.iaload, 1) := by decide +kernel
theorem d9_73 : decode (jm_b 9) 73 = .ok (.ireturn, 1) := by decide +kernel
theorem d9_74 : decode (jm_b 9) 74 = .ok (.aload_n 0, 1) := by decide +kernel
theorem d9_75 : decode (jm_b 9) 75 = .ok (.getfield 41, 3) := by decide +kernel
theorem d9_78 : decode (jm_b 9) 78 = .ok (.getfield 143, 3) := by decide +kernel
theorem d9_81 : decode (jm_b 9) 81 = .ok (.getfield 159, 3) := by decide +kernel
theorem d9_84 : decode (jm_b 9) 84 = .ok (.iload_n 1, 1) := by decide +kernel
theorem d9_85 : decode (jm_b 9) 85 = .ok (.iaload, 1) := by decide +kernel
theorem d9_86 : decode (jm_b 9) 86 = .ok (.ireturn, 1) := by decide +kernel
theorem d9_87 : decode (jm_b 9) 87 = .ok (.aload_n 0, 1) := by decide +kernel
theorem d9_88 : decode (jm_b 9) 88 = .ok (.getfield 41, 3) := by decide +kernel
theorem d9_91 : decode (jm_b 9) 91 = .ok (.getfield 143, 3) := by decide +kernel
theorem d9_94 : decode (jm_b 9) 94 = .ok (.aload_n 0, 1) := by decide +kernel
theorem d9_95 : decode (jm_b 9) 95 = .ok (.getfield 41, 3) := by decide +kernel
theorem d9_98 : decode (jm_b 9) 98 = .ok (.getfield 124, 3) := by decide +kernel
theorem d9_101 : decode (jm_b 9) 101 = .ok (.iload_n 1, 1) := by decide +kernel
theorem d9_102 : decode (jm_b 9) 102 = .ok (.invokevirtual 162, 3) := by decide +kernel
theorem d9_105 : decode (jm_b 9) 105 = .ok (.ireturn, 1) := by decide +kernel
theorem d9_106 : decode (jm_b 9) 106 = .ok (.aload_n 0, 1) := by decide +kernel
theorem d9_107 : decode (jm_b 9) 107 = .ok (.getfield 41, 3) := by decide +kernel
theorem d9_110 : decode (jm_b 9) 110 = .ok (.getfield 124, 3) := by decide +kernel
theorem d9_113 : decode (jm_b 9) 113 = .ok (.getfield 166, 3) := by decide +kernel
theorem d9_116 : decode (jm_b 9) 116 = .ok (.iload_n 1, 1) := by decide +kernel
theorem d9_117 : decode (jm_b 9) 117 = .ok (.iaload, 1) := by decide +kernel
theorem d9_118 : decode (jm_b 9) 118 = .ok (.ireturn, 1) := by decide +kernel
theorem d9_119 : decode (jm_b 9) 119 = .ok (.bipush (-100), 2) := by decide +kernel
theorem d9_121 : decode (jm_b 9) 121 = .ok (.ireturn, 1) := by decide +kernel
theorem d10_0 : decode (jm_b 10) 0 = .ok (.iload_n 1, 1) := by decide +kernel
theorem d10_1 : decode (jm_b 10) 1 = .ok (.ifCond .lt 21, 3) := by decide +kernel
theorem d10_4 : decode (jm_b 10) 4 = .ok (.iload_n 1, 1) := by decide +kernel
theorem d10_5 : decode (jm_b 10) 5 = .ok (.aload_n 0, 1) := by decide +kernel
theorem d10_6 : decode (jm_b 10) 6 = .ok (.getfield 41, 3) := by decide +kernel
theorem d10_9 : decode (jm_b 10) 9 = .ok (.getfield 143, 3) := by decide +kernel
theorem d10_12 : decode (jm_b 10) 12 = .ok (.getfield 106, 3) := by decide +kernel
theorem d10_15 : decode (jm_b 10) 15 = .ok (.if_icmp .ge 7, 3) := by decide +kernel
theorem d10_18 : decode (jm_b 10) 18 = .ok (.iconst 1, 1) := by decide +kernel
theorem d10_19 : decode (jm_b 10) 19 = .ok (.goto 4, 3) := by decide +kernel
theorem d10_22 : decode (jm_b 10) 22 = .ok (.iconst 0, 1) := by decide +kernel
theorem d10_23 : decode (jm_b 10) 23 = .ok (.ireturn, 1) := by decide +kernel
theorem d3001_0 : decode (jm_b 3001) 0 = .ok (.aload_n 1, 1) := by decide +kernel
theorem d3001_1 : decode (jm_b 3001) 1 = .ok (.getfield 40, 3) := by decide +kernel
theorem d3001_4 : decode (jm_b 3001) 4 = .ok (.aload_n 0, 1) := by decide +kernel
theorem d3001_5 : decode (jm_b 3001) 5 = .ok (.getfield 15, 3) := by decide +kernel
theorem d3001_8 : decode (jm_b 3001) 8 = .ok (.iload_n 2, 1) := by decide +kernel
theorem d3001_9 : decode (jm_b 3001) 9 = .ok (.iaload, 1) := by decide +kernel
theorem d3001_10 : decode (jm_b 3001) 10 = .ok (.iaload, 1) := by decide +kernel
theorem d3001_11 : decode (jm_b 3001) 11 = .ok (.istore_n 3, 1) := by decide +kernel
theorem d3001_12 : decode (jm_b 3001) 12 = .ok (.aload_n 0, 1) := by decide +kernel
theorem d3001_13 : decode (jm_b 3001) 13 = .ok (.getfield 18, 3) := by decide +kernel
theorem d3001_16 : decode (jm_b 3001) 16 = .ok (.iload_n 2, 1) := by decide +kernel
theorem d3001_17 : decode (jm_b 3001) 17 = .ok (.iaload, 1) := by decide +kernel
theorem d3001_18 : decode (jm_b 3001) 18 = .ok (.istore 4, 2) := by decide +kernel
theorem d3001_20 : decode (jm_b 3001) 20 = .ok (.iload 4, 2) := by decide +kernel
theorem d3001_22 : decode (jm_b 3001) 22 = .ok (.iload_n 3, 1) := by decide +kernel
theorem d3001_23 : decode (jm_b 3001) 23 = .ok (.if_icmp .ge 7, 3) := by decide +kernel
theorem d3001_26 : decode (jm_b 3001) 26 = .ok (.iconst 0, 1) := by decide +kernel
theorem d3001_27 : decode (jm_b 3001) 27 = .ok (.goto 14, 3) := by decide +kernel
theorem d3001_30 : decode (jm_b 3001) 30 = .ok (.iload 4, 2) := by decide +kernel
theorem d3001_32 : decode (jm_b 3001) 32 = .ok (.iload_n 3, 1) := by decide +kernel
theorem d3001_33 : decode (jm_b 3001) 33 = .ok (.if_icmp .le 7, 3) := by decide +kernel
theorem d3001_36 : decode (jm_b 3001) 36 = .ok (.iconst 1, 1) := by decide +kernel
theorem d3001_37 : decode (jm_b 3001) 37 = .ok (.goto 4, 3) := by decide +kernel
theorem d3001_40 : decode (jm_b 3001) 40 = .ok (.iconst 2, 1) := by decide +kernel
theorem d3001_41 : decode (jm_b 3001) 41 = .ok (.ireturn, 1) := by decide +kernel
theorem d11_0 : decode (jm_b 11) 0 = .ok (.iload_n 1, 1) := by decide +kernel
theorem d11_1 : decode (jm_b 11) 1 = .ok (.ifCond .lt 10, 3) := by decide +kernel
theorem d11_4 : decode (jm_b 11) 4 = .ok (.aload_n 0, 1) := by decide +kernel
theorem d11_5 : decode (jm_b 11) 5 = .ok (.invokevirtual 169, 3) := by decide +kernel
theorem d11_8 : decode (jm_b 11) 8 = .ok (.ifCond .ne 7, 3) := by decide +kernel
theorem d11_11 : decode (jm_b 11) 11 = .ok (.iconst (-1), 1) := by decide +kernel
theorem d11_12 : decode (jm_b 11) 12 = .ok (.goto 14, 3) := by decide +kernel
theorem d11_15 : decode (jm_b 11) 15 = .ok (.aload_n 0, 1) := by decide +kernel
theorem d11_16 : decode (jm_b 11) 16 = .ok (.getfield 41, 3) := by decide +kernel
theorem d11_19 : decode (jm_b 11) 19 = .ok (.getfield 143, 3) := by decide +kernel
theorem d11_22 : decode (jm_b 11) 22 = .ok (.iload_n 1, 1) := by decide +kernel
theorem d11_23 : decode (jm_b 11) 23 = .ok (.invokevirtual 173, 3) := by decide +kernel
theorem d11_26 : decode (jm_b 11) 26 = .ok (.ireturn, 1) := by decide +kernel
theorem d12_0 : decode (jm_b 12) 0 = .ok (.aload_n 0, 1) := by decide +kernel
theorem d12_1 : decode (jm_b 12) 1 = .ok (.getfield 41, 3) := by decide +kernel
theorem d12_4 : decode (jm_b 12) 4 = .ok (.getfield 143, 3) := by decide +kernel
theorem d12_7 : decode (jm_b 12) 7 = .ok (.getfield 293, 3) := by decide +kernel
theorem d12_10 : decode (jm_b 12) 10 = .ok (.ifCond .le 7, 3) := by decide +kernel
theorem d12_13 : decode (jm_b 12) 13 = .ok (.iconst 1, 1) := by decide +kernel
theorem d12_14 : decode (jm_b 12) 14 = .ok (.goto 4, 3) := by decide +kernel
theorem d12_17 : decode (jm_b 12) 17 = .ok (.iconst 0, 1) := by decide +kernel
theorem d12_18 : decode (jm_b 12) 18 = .ok (.ireturn, 1) := by decide +kernel
theorem d3002_0 : decode (jm_b 3002) 0 = .ok (.iload_n 1, 1) := by decide +kernel
theorem d3002_1 : decode (jm_b 3002) 1 = .ok (.ifCond .lt 9, 3) := by decide +kernel
theorem d3002_4 : decode (jm_b 3002) 4 = .ok (.iload_n 1, 1) := by decide +kernel
theorem d3002_5 : decode (jm_b 3002) 5 = .ok (.bipush 100, 2) := by decide +kernel
theorem d3002_7 : decode (jm_b 3002) 7 = .ok (.if_icmp .lt 7, 3) := by decide +kernel
theorem d3002_10 : decode (jm_b 3002) 10 = .ok (.iconst 0, 1) := by decide +kernel
theorem d3002_11 : decode (jm_b 3002) 11 = .ok (.goto 9, 3) := by decide +kernel
theorem d3002_14 : decode (jm_b 3002) 14 = .ok (.aload_n 0, 1) := by decide +kernel
theorem d3002_15 : decode (jm_b 3002) 15 = .ok (.getfield 9, 3) := by decide +kernel
theorem d3002_18 : decode (jm_b 3002) 18 = .ok (.iload_n 1, 1) := by decide +kernel
theorem d3002_19 : decode (jm_b 3002) 19 = .ok (.iaload, 1) := by decide +kernel
theorem d3002_20 : decode (jm_b 3002) 20 = .ok (.ireturn, 1) := by decide +kernel
theorem d13_0 : decode (jm_b 13) 0 = .ok (.aload_n 0, 1) := by decide +kernel
theorem d13_1 : decode (jm_b 13) 1 = .ok (.invokevirtual 169, 3) := by decide +kernel
theorem d13_4 : decode (jm_b 13) 4 = .ok (.ifCond .eq 19, 3) := by decide +kernel
theorem d13_7 : decode (jm_b 13) 7 = .ok (.aload_n 0, 1) := by decide +kernel
theorem d13_8 : decode (jm_b 13) 8 = .ok (.getfield 41, 3) := by decide +kernel
theorem d13_11 : decode (jm_b 13) 11 = .ok (.getfield 124, 3) := by decide +kernel
theorem d13_14 : decode (jm_b 13) 14 = .ok (.getfield 177, 3) := by decide +kernel
theorem d13_17 : decode (jm_b 13) 17 = .ok (.sipush 999, 3) := by decide +kernel
theorem d13_20 : decode (jm_b 13) 20 = .ok (.if_icmp .lt 5, 3) := by decide +kernel
theorem d13_23 : decode (jm_b 13) 23 = .ok (.iconst (-1), 1) := by decide +kernel
theorem d13_24 : decode (jm_b 13) 24 = .ok (.ireturn, 1) := by decide +kernel
theorem d13_25 : decode (jm_b 13) 25 = .ok (.aload_n 0, 1) := by decide +kernel
theorem d13_26 : decode (jm_b 13) 26 = .ok (.getfield 41, 3) := by decide +kernel
theorem d13_29 : decode (jm_b 13) 29 = .ok (.invokevirtual 180, 3) := by decide +kernel
theorem d13_32 : decode (jm_b 13) 32 = .ok (.aload_n 0, 1) := by decide +kernel
theorem d13_33 : decode (jm_b 13) 33 = .ok (.getfield 56, 3) := by decide +kernel
theorem d13_36 : decode (jm_b 13) 36 = .ok (.aload_n 0, 1) := by decide +kernel
theorem d13_37 : decode (jm_b 13) 37 = .ok (.getfield 41, 3) := by decide +kernel
theorem d13_40 : decode (jm_b 13) 40 = .ok (.getfield 124, 3) := by decide +kernel
theorem d13_43 : decode (jm_b 13) 43 = .ok (.iconst (-1), 1) := by decide +kernel
theorem d13_44 : decode (jm_b 13) 44 = .ok (.invokevirtual 183, 3) := by decide +kernel
theorem d13_47 : decode (jm_b 13) 47 = .ok (.invokestatic 186, 3) := by decide +kernel
theorem d13_50 : decode (jm_b 13) 50 = .ok (.ireturn, 1) := by decide +kernel
theorem d7002_0 : decode (jm_b 7002) 0 = .ok (.aload_n 0, 1) := by decide +kernel
theorem d7002_1 : decode (jm_b 7002) 1 = .ok (.getfield 61, 3) := by decide +kernel
theorem d7002_4 : decode (jm_b 7002) 4 = .ok (.bipush 20, 2) := by decide +kernel
theorem d7002_6 : decode (jm_b 7002) 6 = .ok (.if_icmp .ne 26, 3) := by decide +kernel
theorem d7002_9 : decode (jm_b 7002) 9 = .ok (.aload_n 0, 1) := by decide +kernel
theorem d7002_10 : decode (jm_b 7002) 10 = .ok (.aload_n 0, 1) := by decide +kernel
theorem d7002_11 : decode (jm_b 7002) 11 = .ok (.getfield 58, 3) := by decide +kernel
theorem d7002_14 : decode (jm_b 7002) 14 = .ok (.iconst 1, 1) := by decide +kernel
theorem d7002_15 : decode (jm_b 7002) 15 = .ok (.iadd, 1) := by decide +kernel
theorem d7002_16 : decode (jm_b 7002) 16 = .ok (.bipush 20, 2) := by decide +kernel
theorem d7002_18 : decode (jm_b 7002) 18 = .ok (.irem, 1) := by decide +kernel
theorem d7002_19 : decode (jm_b 7002) 19 = .ok (.putfield 58, 3) := by decide +kernel
theorem d7002_22 : decode (jm_b 7002) 22 = .ok (.aload_n 0, 1) := by decide +kernel
theorem d7002_23 : decode (jm_b 7002) 23 = .ok (.dup, 1) := by decide +kernel
theorem d7002_24 : decode (jm_b 7002) 24 = .ok (.getfield 61, 3) := by decide +kernel
theorem d7002_27 : decode (jm_b 7002) 27 = .ok (.iconst 1, 1) := by decide +kernel
theorem d7002_28 : decode (jm_b 7002) 28 = .ok (.isub, 1) := by decide +kernel
theorem d7002_29 : decode (jm_b 7002) 29 = .ok (.putfield 61, 3) := by decide +kernel
theorem d7002_32 : decode (jm_b 7002) 32 = .ok (.aload_n 0, 1) := by decide +kernel
theorem d7002_33 : decode (jm_b 7002) 33 = .ok (.getfield 21, 3) := by decide +kernel
theorem d7002_36 : decode (jm_b 7002) 36 = .ok (.aload_n 0, 1) := by decide +kernel
theorem d7002_37 : decode (jm_b 7002) 37 = .ok (.getfield 39, 3) := by decide +kernel
theorem d7002_40 : decode (jm_b 7002) 40 = .ok (.aload_n 0, 1) := by decide +kernel
theorem d7002_41 : decode (jm_b 7002) 41 = .ok (.aload_n 0, 1) := by decide +kernel
theorem d7002_42 : decode (jm_b 7002) 42 = .ok (.getfield 61, 3) := by decide +kernel
theorem d7002_45 : decode (jm_b 7002) 45 = .ok (.invokevirtual 67, 3) := by decide +kernel
theorem d7002_48 : decode (jm_b 7002) 48 = .ok (.invokevirtual 71, 3) := by decide +kernel
theorem d7002_51 : decode (jm_b 7002) 51 = .ok (.aload_n 0, 1) := by decide +kernel
theorem d7002_52 : decode (jm_b 7002) 52 = .ok (.dup, 1) := by decide +kernel
theorem d7002_53 : decode (jm_b 7002) 53 = .ok (.getfield 61, 3) := by decide +kernel
theorem d7002_56 : decode (jm_b 7002) 56 = .ok (.iconst 1, 1) := by decide +kernel
theorem d7002_57 : decode (jm_b 7002) 57 = .ok (.iadd, 1) := by decide +kernel
theorem d7002_58 : decode (jm_b 7002) 58 = .ok (.putfield 61, 3) := by decide +kernel
theorem d7002_61 : decode (jm_b 7002) 61 = .ok (.return_, 1) := by decide +kernel
theorem d7003_0 : decode (jm_b 7003) 0 = .ok (.aload_n 0, 1) := by decide +kernel
theorem d7003_1 : decode (jm_b 7003) 1 = .ok (.getfield 58, 3) := by decide +kernel
theorem d7003_4 : decode (jm_b 7003) 4 = .ok (.iload_n 1, 1) := by decide +kernel
theorem d7003_5 : decode (jm_b 7003) 5 = .ok (.iadd, 1) := by decide +kernel
theorem d7003_6 : decode (jm_b 7003) 6 = .ok (.bipush 20, 2) := by decide +kernel
theorem d7003_8 : decode (jm_b 7003) 8 = .ok (.irem, 1) := by decide +kernel
theorem d7003_9 : decode (jm_b 7003) 9 = .ok (.bipush 40, 2) := by decide +kernel
theorem d7003_11 : decode (jm_b 7003) 11 = .ok (.imul, 1) := by decide +kernel
theorem d7003_12 : decode (jm_b 7003) 12 = .ok (.ireturn, 1) := by decide +kernel
theorem d4003_0 : decode (jm_b 4003) 0 = .ok (.aload_n 0, 1) := by decide +kernel
theorem d4003_1 : decode (jm_b 4003) 1 = .ok (.getfield 9, 3) := by decide +kernel
theorem d4003_4 : decode (jm_b 4003) 4 = .ok (.iconst 0, 1) := by decide +kernel
theorem d4003_5 : decode (jm_b 4003) 5 = .ok (.aload_n 1, 1) := by decide +kernel
theorem d4003_6 : decode (jm_b 4003) 6 = .ok (.iload_n 2, 1) := by decide +kernel
theorem d4003_7 : decode (jm_b 4003) 7 = .ok (.bipush 10, 2) := by decide +kernel
theorem d4003_9 : decode (jm_b 4003) 9 = .ok (.invokestatic 24, 3) := by decide +kernel
theorem d4003_12 : decode (jm_b 4003) 12 = .ok (.aload_n 0, 1) := by decide +kernel
theorem d4003_13 : decode (jm_b 4003) 13 = .ok (.getfield 15, 3) := by decide +kernel
theorem d4003_16 : decode (jm_b 4003) 16 = .ok (.iconst 0, 1) := by decide +kernel
theorem d4003_17 : decode (jm_b 4003) 17 = .ok (.aload_n 1, 1) := by decide +kernel
theorem d4003_18 : decode (jm_b 4003) 18 = .ok (.iload_n 2, 1) := by decide +kernel
theorem d4003_19 : decode (jm_b 4003) 19 = .ok (.bipush 10, 2) := by decide +kernel
theorem d4003_21 : decode (jm_b 4003) 21 = .ok (.iadd, 1) := by decide +kernel
theorem d4003_22 : decode (jm_b 4003) 22 = .ok (.bipush 10, 2) := by decide +kernel
theorem d4003_24 : decode (jm_b 4003) 24 = .ok (.invokestatic 24, 3) := by decide +kernel
theorem d4003_27 : decode (jm_b 4003) 27 = .ok (.aload_n 0, 1) := by decide +kernel
theorem d4003_28 : decode (jm_b 4003) 28 = .ok (.getfield 18, 3) := by decide +kernel
theorem d4003_31 : decode (jm_b 4003) 31 = .ok (.iconst 0, 1) := by decide +kernel
theorem d4003_32 : decode (jm_b 4003) 32 = .ok (.aload_n 1, 1) := by decide +kernel
theorem d4003_33 : decode (jm_b 4003) 33 = .ok (.iload_n 2, 1) := by decide +kernel
theorem d4003_34 : decode (jm_b 4003) 34 = .ok (.bipush 20, 2) := by decide +kernel
theorem d4003_36 : decode (jm_b 4003) 36 = .ok (.iadd, 1) := by decide +kernel
theorem d4003_37 : decode (jm_b 4003) 37 = .ok (.bipush 10, 2) := by decide +kernel
theorem d4003_39 : decode (jm_b 4003) 39 = .ok (.invokestatic 24, 3) := by decide +kernel
theorem d4003_42 : decode (jm_b 4003) 42 = .ok (.aload_n 0, 1) := by decide +kernel
theorem d4003_43 : decode (jm_b 4003) 43 = .ok (.getfield 21, 3) := by decide +kernel
theorem d4003_46 : decode (jm_b 4003) 46 = .ok (.iconst 0, 1) := by decide +kernel
theorem d4003_47 : decode (jm_b 4003) 47 = .ok (.aload_n 1, 1) := by decide +kernel
theorem d4003_48 : decode (jm_b 4003) 48 = .ok (.iload_n 2, 1) := by decide +kernel
theorem d4003_49 : decode (jm_b 4003) 49 = .ok (.bipush 30, 2) := by decide +kernel
theorem d4003_51 : decode (jm_b 4003) 51 = .ok (.iadd, 1) := by decide +kernel
theorem d4003_52 : decode (jm_b 4003) 52 = .ok (.bipush 8, 2) := by decide +kernel
theorem d4003_54 : decode (jm_b 4003) 54 = .ok (.invokestatic 24, 3) := by decide +kernel
theorem d4003_57 : decode (jm_b 4003) 57 = .ok (.aload_n 1, 1) := by decide +kernel
theorem d4003_58 : decode (jm_b 4003) 58 = .ok (.iload_n 2, 1) := by decide +kernel
theorem d4003_59 : decode (jm_b 4003) 59 = .ok (.bipush 40, 2) := by decide +kernel
theorem d4003_61 : decode (jm_b 4003) 61 = .ok (.iadd, 1) := by decide +kernel
theorem d4003_62 : decode (jm_b 4003) 62 = .ok (.iconst 2, 1) := by decide +kernel
theorem d4003_63 : decode (jm_b 4003) 63 = .ok (.isub, 1) := by decide +kernel
theorem d4003_64 : decode (jm_b 4003) 64 = .ok (.aload_n 0, 1) := by decide +kernel
theorem d4003_65 : decode (jm_b 4003) 65 = .ok (.getfield 30, 3) := by decide +kernel
theorem d4003_68 : decode (jm_b 4003) 68 = .ok (.iastore, 1) := by decide +kernel
theorem d4003_69 : decode (jm_b 4003) 69 = .ok (.aload_n 1, 1) := by decide +kernel
theorem d4003_70 : decode (jm_b 4003) 70 = .ok (.iload_n 2, 1) := by decide +kernel
theorem d4003_71 : decode (jm_b 4003) 71 = .ok (.bipush 40, 2) := by decide +kernel
theorem d4003_73 : decode (jm_b 4003) 73 = .ok (.iadd, 1) := by decide +kernel
theorem d4003_74 : decode (jm_b 4003) 74 = .ok (.iconst 1, 1) := by decide +kernel
theorem d4003_75 : decode (jm_b 4003) 75 = .ok (.isub, 1) := by decide +kernel
theorem d4003_76 : decode (jm_b 4003) 76 = .ok (.aload_n 0, 1) := by decide +kernel
theorem d4003_77 : decode (jm_b 4003) 77 = .ok (.getfield 34, 3) := by decide +kernel
theorem d4003_80 : decode (jm_b 4003) 80 = .ok (.iastore, 1) := by decide +kernel
theorem d4003_81 : decode (jm_b 4003) 81 = .ok (.return_, 1) := by decide +kernel
theorem d8002_0 : decode (jm_b 8002) 0 = .ok (.iload_n 2, 1) := by decide +kernel
theorem d8002_1 : decode (jm_b 8002) 1 = .ok (.iconst (-1), 1) := by decide +kernel
theorem d8002_2 : decode (jm_b 8002) 2 = .ok (.if_icmp .ne 17, 3) := by decide +kernel
theorem d8002_5 : decode (jm_b 8002) 5 = .ok (.aload_n 0, 1) := by decide +kernel
theorem d8002_6 : decode (jm_b 8002) 6 = .ok (.getfield 12, 3) := by decide +kernel
theorem d8002_9 : decode (jm_b 8002) 9 = .ok (.aload_n 1, 1) := by decide +kernel
theorem d8002_10 : decode (jm_b 8002) 10 = .ok (.getfield 32, 3) := by decide +kernel
theorem d8002_13 : decode (jm_b 8002) 13 = .ok (.invokevirtual 38, 3) := by decide +kernel
theorem d8002_16 : decode (jm_b 8002) 16 = .ok (.goto 4, 3) := by decide +kernel
theorem d8002_19 : decode (jm_b 8002) 19 = .ok (.iload_n 2, 1) := by decide +kernel
theorem d8002_20 : decode (jm_b 8002) 20 = .ok (.istore_n 3, 1) := by decide +kernel
theorem d8002_21 : decode (jm_b 8002) 21 = .ok (.aload_n 0, 1) := by decide +kernel
theorem d8002_22 : decode (jm_b 8002) 22 = .ok (.getfield 12, 3) := by decide +kernel
theorem d8002_25 : decode (jm_b 8002) 25 = .ok (.aload_n 1, 1) := by decide +kernel
theorem d8002_26 : decode (jm_b 8002) 26 = .ok (.invokevirtual 42, 3) := by decide +kernel
theorem d8002_29 : decode (jm_b 8002) 29 = .ok (.istore 4, 2) := by decide +kernel
theorem d8002_31 : decode (jm_b 8002) 31 = .ok (.aload_n 0, 1) := by decide +kernel
theorem d8002_32 : decode (jm_b 8002) 32 = .ok (.aload_n 1, 1) := by decide +kernel
theorem d8002_33 : decode (jm_b 8002) 33 = .ok (.iload_n 3, 1) := by decide +kernel
theorem d8002_34 : decode (jm_b 8002) 34 = .ok (.invokevirtual 46, 3) := by decide +kernel
theorem d8002_37 : decode (jm_b 8002) 37 = .ok (.iconst 0, 1) := by decide +kernel
theorem d8002_38 : decode (jm_b 8002) 38 = .ok (.istore 5, 2) := by decide +kernel
theorem d8002_40 : decode (jm_b 8002) 40 = .ok (.iload 5, 2) := by decide +kernel
theorem d8002_42 : decode (jm_b 8002) 42 = .ok (.aload_n 0, 1) := by decide +kernel
theorem d8002_43 : decode (jm_b 8002) 43 = .ok (.getfield 12, 3) := by decide +kernel
theorem d8002_46 : decode (jm_b 8002) 46 = .ok (.getfield 50, 3) := by decide +kernel
theorem d8002_49 : decode (jm_b 8002) 49 = .ok (.if_icmp .ge 88, 3) := by decide +kernel
theorem d8002_52 : decode (jm_b 8002) 52 = .ok (.aload_n 1, 1) := by decide +kernel
theorem d8002_53 : decode (jm_b 8002) 53 = .ok (.iload 5, 2) := by decide +kernel
theorem d8002_55 : decode (jm_b 8002) 55 = .ok (.invokevirtual 53, 3) := by decide +kernel
theorem d8002_58 : decode (jm_b 8002) 58 = .ok (.ifCond .eq 14, 3) := by decide +kernel
theorem d8002_61 : decode (jm_b 8002) 61 = .ok (.aload_n 0, 1) := by decide +kernel
theorem d8002_62 : decode (jm_b 8002) 62 = .ok (.getfield 18, 3) := by decide +kernel
theorem d8002_65 : decode (jm_b 8002) 65 = .ok (.iload 5, 2) := by decide +kernel
theorem d8002_67 : decode (jm_b 8002) 67 = .ok (.iconst 0, 1) := by decide +kernel
theorem d8002_68 : decode (jm_b 8002) 68 = .ok (.iastore, 1) := by decide +kernel
theorem d8002_69 : decode (jm_b 8002) 69 = .ok (.goto 62, 3) := by decide +kernel
theorem d8002_72 : decode (jm_b 8002) 72 = .ok (.aload_n 0, 1) := by decide +kernel
theorem d8002_73 : decode (jm_b 8002) 73 = .ok (.getfield 28, 3) := by decide +kernel
theorem d8002_76 : decode (jm_b 8002) 76 = .ok (.ifnonnull 20, 3) := by decide +kernel
theorem d8002_79 : decode (jm_b 8002) 79 = .ok (.aload_n 0, 1) := by decide +kernel
theorem d8002_80 : decode (jm_b 8002) 80 = .ok (.getfield 18, 3) := by decide +kernel
theorem d8002_83 : decode (jm_b 8002) 83 = .ok (.iload 5, 2) := by decide +kernel
theorem d8002_85 : decode (jm_b 8002) 85 = .ok (.aload_n 0, 1) := by decide +kernel
theorem d8002_86 : decode (jm_b 8002) 86 = .ok (.aload_n 1, 1) := by decide +kernel
theorem d8002_87 : decode (jm_b 8002) 87 = .ok (.iload 5, 2) := by decide +kernel
theorem d8002_89 : decode (jm_b 8002) 89 = .ok (.invokevirtual 57, 3) := by decide +kernel
theorem d8002_92 : decode (jm_b 8002) 92 = .ok (.iastore, 1) := by decide +kernel
theorem d8002_93 : decode (jm_b 8002) 93 = .ok (.goto 38, 3) := by decide +kernel
theorem d8002_96 : decode (jm_b 8002) 96 = .ok (.aload_n 0, 1) := by decide +kernel
theorem d8002_97 : decode (jm_b 8002) 97 = .ok (.getfield 24, 3) := by decide +kernel
theorem d8002_100 : decode (jm_b 8002) 100 = .ok (.iconst 5, 1) := by decide +kernel
theorem d8002_101 : decode (jm_b 8002) 101 = .ok (.iload_n 3, 1) := by decide +kernel
theorem d8002_102 : decode (jm_b 8002) 102 = .ok (.i2l, 1) := by decide +kernel
theorem d8002_103 : decode (jm_b 8002) 103 = .ok (.lastore, 1) := by decide +kernel
theorem d8002_104 : decode (jm_b 8002) 104 = .ok (.aload_n 0, 1) := by decide +kernel
theorem d8002_105 : decode (jm_b 8002) 105 = .ok (.aload_n 1, 1) := by decide +kernel
theorem d8002_106 : decode (jm_b 8002) 106 = .ok (.iload 5, 2) := by decide +kernel
theorem d8002_108 : decode (jm_b 8002) 108 = .ok (.iload 4, 2) := by decide +kernel
theorem d8002_110 : decode (jm_b 8002) 110 = .ok (.invokevirtual 61, 3) := by decide +kernel
theorem d8002_113 : decode (jm_b 8002) 113 = .ok (.aload_n 0, 1) := by decide +kernel
theorem d8002_114 : decode (jm_b 8002) 114 = .ok (.getfield 18, 3) := by decide +kernel
theorem d8002_117 : decode (jm_b 8002) 117 = .ok (.iload 5, 2) := by decide +kernel
theorem d8002_119 : decode (jm_b 8002) 119 = .ok (.aload_n 0, 1) := by decide +kernel
theorem d8002_120 : decode (jm_b 8002) 120 = .ok (.getfield 28, 3) := by decide +kernel
theorem d8002_123 : decode (jm_b 8002) 123 = .ok (.aload_n 0, 1) := by decide +kernel
theorem d8002_124 : decode (jm_b 8002) 124 = .ok (.getfield 24, 3) := by decide +kernel
theorem d8002_127 : decode (jm_b 8002) 127 = .ok (.invokevirtual 65, 3) := by decide +kernel
theorem d8002_130 : decode (jm_b 8002) 130 = .ok (.iastore, 1) := by decide +kernel
theorem d8002_131 : decode (jm_b 8002) 131 = .ok (.iinc 5 1, 3) := by decide +kernel
theorem d8002_134 : decode (jm_b 8002) 134 = .ok (.goto (-94), 3) := by decide +kernel
theorem d8002_137 : decode (jm_b 8002) 137 = .ok (.iconst 0, 1) := by decide +kernel
theorem d8002_138 : decode (jm_b 8002) 138 = .ok (.istore 5, 2) := by decide +kernel
theorem d8002_140 : decode (jm_b 8002) 140 = .ok (.iload 5, 2) := by decide +kernel
theorem d8002_142 : decode (jm_b 8002) 142 = .ok (.aload_n 0, 1) := by decide +kernel
theorem d8002_143 : decode (jm_b 8002) 143 = .ok (.getfield 12, 3) := by decide +kernel
theorem d8002_146 : decode (jm_b 8002) 146 = .ok (.getfield 50, 3) := by decide +kernel
theorem d8002_149 : decode (jm_b 8002) 149 = .ok (.if_icmp .ge 22, 3) := by decide +kernel
theorem d8002_152 : decode (jm_b 8002) 152 = .ok (.aload_n 1, 1) := by decide +kernel
theorem d8002_153 : decode (jm_b 8002) 153 = .ok (.iload 5, 2) := by decide +kernel
theorem d8002_155 : decode (jm_b 8002) 155 = .ok (.aload_n 0, 1) := by decide +kernel
theorem d8002_156 : decode (jm_b 8002) 156 = .ok (.getfield 18, 3) := by decide +kernel
theorem d8002_159 : decode (jm_b 8002) 159 = .ok (.iload 5, 2) := by decide +kernel
theorem d8002_161 : decode (jm_b 8002) 161 = .ok (.iaload, 1) := by decide +kernel
theorem d8002_162 : decode (jm_b 8002) 162 = .ok (.invokevirtual 68, 3) := by decide +kernel
theorem d8002_165 : decode (jm_b 8002) 165 = .ok (.iinc 5 1, 3) := by decide +kernel
theorem d8002_168 : decode (jm_b 8002) 168 = .ok (.goto (-28), 3) := by decide +kernel
theorem d8002_171 : decode (jm_b 8002) 171 = .ok (.aload_n 0, 1) := by decide +kernel
theorem d8002_172 : decode (jm_b 8002) 172 = .ok (.aload_n 1, 1) := by decide +kernel
theorem d8002_173 : decode (jm_b 8002) 173 = .ok (.invokevirtual 72, 3) := by decide +kernel
theorem d8002_176 : decode (jm_b 8002) 176 = .ok (.aload_n 1, 1) := by decide +kernel
theorem d8002_177 : decode (jm_b 8002) 177 = .ok (.aload_n 1, 1) := by decide +kernel
theorem d8002_178 : decode (jm_b 8002) 178 = .ok (.getfield 32, 3) := by decide +kernel
theorem d8002_181 : decode (jm_b 8002) 181 = .ok (.iconst 1, 1) := by decide +kernel
theorem d8002_182 : decode (jm_b 8002) 182 = .ok (.iadd, 1) := by decide +kernel
theorem d8002_183 : decode (jm_b 8002) 183 = .ok (.sipush 999, 3) := by decide +kernel
theorem d8002_186 : decode (jm_b 8002) 186 = .ok (.invokestatic 76, 3) := by decide +kernel
theorem d8002_189 : decode (jm_b 8002) 189 = .ok (.putfield 32, 3) := by decide +kernel
theorem d8002_192 : decode (jm_b 8002) 192 = .ok (.iload 4, 2) := by decide +kernel
theorem d8002_194 : decode (jm_b 8002) 194 = .ok (.aload_n 0, 1) := by decide +kernel
theorem d8002_195 : decode (jm_b 8002) 195 = .ok (.getfield 12, 3) := by decide +kernel
theorem d8002_198 : decode (jm_b 8002) 198 = .ok (.aload_n 1, 1) := by decide +kernel
theorem d8002_199 : decode (jm_b 8002) 199 = .ok (.invokevirtual 42, 3) := by decide +kernel
theorem d8002_202 : decode (jm_b 8002) 202 = .ok (.invokestatic 82, 3) := by decide +kernel
theorem d8002_205 : decode (jm_b 8002) 205 = .ok (.istore 5, 2) := by decide +kernel
theorem d8002_207 : decode (jm_b 8002) 207 = .ok (.aload_n 1, 1) := by decide +kernel
theorem d8002_208 : decode (jm_b 8002) 208 = .ok (.iload 5, 2) := by decide +kernel
theorem d8002_210 : decode (jm_b 8002) 210 = .ok (.invokevirtual 85, 3) := by decide +kernel
theorem d8002_213 : decode (jm_b 8002) 213 = .ok (.iload 5, 2) := by decide +kernel
theorem d8002_215 : decode (jm_b 8002) 215 = .ok (.ireturn, 1) := by decide +kernel
theorem d3003_0 : decode (jm_b 3003) 0 = .ok (.iconst 0, 1) := by decide +kernel
theorem d3003_1 : decode (jm_b 3003) 1 = .ok (.istore_n 2, 1) := by decide +kernel
theorem d3003_2 : decode (jm_b 3003) 2 = .ok (.iconst 0, 1) := by decide +kernel
theorem d3003_3 : decode (jm_b 3003) 3 = .ok (.istore_n 3, 1) := by decide +kernel
theorem d3003_4 : decode (jm_b 3003) 4 = .ok (.iload_n 3, 1) := by decide +kernel
theorem d3003_5 : decode (jm_b 3003) 5 = .ok (.aload_n 0, 1) := by decide +kernel
theorem d3003_6 : decode (jm_b 3003) 6 = .ok (.getfield 43, 3) := by decide +kernel
theorem d3003_9 : decode (jm_b 3003) 9 = .ok (.if_icmp .ge 61, 3) := by decide +kernel
theorem d3003_12 : decode (jm_b 3003) 12 = .ok (.aload_n 1, 1) := by decide +kernel
theorem d3003_13 : decode (jm_b 3003) 13 = .ok (.getfield 40, 3) := by decide +kernel
theorem d3003_16 : decode (jm_b 3003) 16 = .ok (.aload_n 0, 1) := by decide +kernel
theorem d3003_17 : decode (jm_b 3003) 17 = .ok (.getfield 15, 3) := by decide +kernel
theorem d3003_20 : decode (jm_b 3003) 20 = .ok (.iload_n 3, 1) := by decide +kernel
theorem d3003_21 : decode (jm_b 3003) 21 = .ok (.iaload, 1) := by decide +kernel
theorem d3003_22 : decode (jm_b 3003) 22 = .ok (.iaload, 1) := by decide +kernel
theorem d3003_23 : decode (jm_b 3003) 23 = .ok (.istore 4, 2) := by decide +kernel
theorem d3003_25 : decode (jm_b 3003) 25 = .ok (.aload_n 0, 1) := by decide +kernel
theorem d3003_26 : decode (jm_b 3003) 26 = .ok (.getfield 18, 3) := by decide +kernel
theorem d3003_29 : decode (jm_b 3003) 29 = .ok (.iload_n 3, 1) := by decide +kernel
theorem d3003_30 : decode (jm_b 3003) 30 = .ok (.iaload, 1) := by decide +kernel
theorem d3003_31 : decode (jm_b 3003) 31 = .ok (.istore 5, 2) := by decide +kernel
theorem d3003_33 : decode (jm_b 3003) 33 = .ok (.iload 5, 2) := by decide +kernel
theorem d3003_35 : decode (jm_b 3003) 35 = .ok (.iload 4, 2) := by decide +kernel
theorem d3003_37 : decode (jm_b 3003) 37 = .ok (.if_icmp .ge 12, 3) := by decide +kernel
theorem d3003_40 : decode (jm_b 3003) 40 = .ok (.iload_n 2, 1) := by decide +kernel
theorem d3003_41 : decode (jm_b 3003) 41 = .ok (.iconst 1, 1) := by decide +kernel
theorem d3003_42 : decode (jm_b 3003) 42 = .ok (.iload_n 3, 1) := by decide +kernel
theorem d3003_43 : decode (jm_b 3003) 43 = .ok (.ishl, 1) := by decide +kernel
theorem d3003_44 : decode (jm_b 3003) 44 = .ok (.ior, 1) := by decide +kernel
theorem d3003_45 : decode (jm_b 3003) 45 = .ok (.istore_n 2, 1) := by decide +kernel
theorem d3003_46 : decode (jm_b 3003) 46 = .ok (.goto 18, 3) := by decide +kernel
theorem d3003_49 : decode (jm_b 3003) 49 = .ok (.iload 5, 2) := by decide +kernel
theorem d3003_51 : decode (jm_b 3003) 51 = .ok (.iload 4, 2) := by decide +kernel
theorem d3003_53 : decode (jm_b 3003) 53 = .ok (.if_icmp .le 11, 3) := by decide +kernel
theorem d3003_56 : decode (jm_b 3003) 56 = .ok (.iload_n 2, 1) := by decide +kernel
theorem d3003_57 : decode (jm_b 3003) 57 = .ok (.sipush 256, 3) := by decide +kernel
theorem d3003_60 : decode (jm_b 3003) 60 = .ok (.iload_n 3, 1) := by decide +kernel
theorem d3003_61 : decode (jm_b 3003) 61 = .ok (.ishl, 1) := by decide +kernel
theorem d3003_62 : decode (jm_b 3003) 62 = .ok (.ior, 1) := by decide +kernel
theorem d3003_63 : decode (jm_b 3003) 63 = .ok (.istore_n 2, 1) := by decide +kernel
theorem d3003_64 : decode (jm_b 3003) 64 = .ok (.iinc 3 1, 3) := by decide +kernel
theorem d3003_67 : decode (jm_b 3003) 67 = .ok (.goto (-63), 3) := by decide +kernel
theorem d3003_70 : decode (jm_b 3003) 70 = .ok (.iload_n 2, 1) := by decide +kernel
theorem d3003_71 : decode (jm_b 3003) 71 = .ok (.ireturn, 1) := by decide +kernel
theorem d8003_0 : decode (jm_b 8003) 0 = .ok (.iconst 0, 1) := by decide +kernel
theorem d8003_1 : decode (jm_b 8003) 1 = .ok (.istore_n 3, 1) := by decide +kernel
theorem d8003_2 : decode (jm_b 8003) 2 = .ok (.iload_n 3, 1) := by decide +kernel
theorem d8003_3 : decode (jm_b 8003) 3 = .ok (.aload_n 0, 1) := by decide +kernel
theorem d8003_4 : decode (jm_b 8003) 4 = .ok (.getfield 12, 3) := by decide +kernel
theorem d8003_7 : decode (jm_b 8003) 7 = .ok (.getfield 50, 3) := by decide +kernel
theorem d8003_10 : decode (jm_b 8003) 10 = .ok (.if_icmp .ge 36, 3) := by decide +kernel
theorem d8003_13 : decode (jm_b 8003) 13 = .ok (.aload_n 1, 1) := by decide +kernel
theorem d8003_14 : decode (jm_b 8003) 14 = .ok (.iload_n 3, 1) := by decide +kernel
theorem d8003_15 : decode (jm_b 8003) 15 = .ok (.invokevirtual 53, 3) := by decide +kernel
theorem d8003_18 : decode (jm_b 8003) 18 = .ok (.ifCond .ne 22, 3) := by decide +kernel
theorem d8003_21 : decode (jm_b 8003) 21 = .ok (.aload_n 1, 1) := by decide +kernel
theorem d8003_22 : decode (jm_b 8003) 22 = .ok (.getfield 89, 3) := by decide +kernel
theorem d8003_25 : decode (jm_b 8003) 25 = .ok (.iload_n 3, 1) := by decide +kernel
theorem d8003_26 : decode (jm_b 8003) 26 = .ok (.aload_n 1, 1) := by decide +kernel
theorem d8003_27 : decode (jm_b 8003) 27 = .ok (.getfield 89, 3) := by decide +kernel
theorem d8003_30 : decode (jm_b 8003) 30 = .ok (.iload_n 3, 1) := by decide +kernel
theorem d8003_31 : decode (jm_b 8003) 31 = .ok (.iaload, 1) := by decide +kernel
theorem d8003_32 : decode (jm_b 8003) 32 = .ok (.iload_n 2, 1) := by decide +kernel
theorem d8003_33 : decode (jm_b 8003) 33 = .ok (.iadd, 1) := by decide +kernel
theorem d8003_34 : decode (jm_b 8003) 34 = .ok (.bipush 99, 2) := by decide +kernel
theorem d8003_36 : decode (jm_b 8003) 36 = .ok (.invokestatic 76, 3) := by decide +kernel
theorem d8003_39 : decode (jm_b 8003) 39 = .ok (.iastore, 1) := by decide +kernel
theorem d8003_40 : decode (jm_b 8003) 40 = .ok (.iinc 3 1, 3) := by decide +kernel
theorem d8003_43 : decode (jm_b 8003) 43 = .ok (.goto (-41), 3) := by decide +kernel
theorem d8003_46 : decode (jm_b 8003) 46 = .ok (.return_, 1) := by decide +kernel
theorem d8004_0 : decode (jm_b 8004) 0 = .ok (.aload_n 1, 1) := by decide +kernel
theorem d8004_1 : decode (jm_b 8004) 1 = .ok (.getfield 89, 3) := by decide +kernel
theorem d8004_4 : decode (jm_b 8004) 4 = .ok (.iload_n 2, 1) := by decide +kernel
theorem d8004_5 : decode (jm_b 8004) 5 = .ok (.iaload, 1) := by decide +kernel
theorem d8004_6 : decode (jm_b 8004) 6 = .ok (.bipush 20, 2) := by decide +kernel
theorem d8004_8 : decode (jm_b 8004) 8 = .ok (.idiv, 1) := by decide +kernel
theorem d8004_9 : decode (jm_b 8004) 9 = .ok (.aload_n 0, 1) := by decide +kernel
theorem d8004_10 : decode (jm_b 8004) 10 = .ok (.getfield 12, 3) := by decide +kernel
theorem d8004_13 : decode (jm_b 8004) 13 = .ok (.getfield 92, 3) := by decide +kernel
theorem d8004_16 : decode (jm_b 8004) 16 = .ok (.iadd, 1) := by decide +kernel
theorem d8004_17 : decode (jm_b 8004) 17 = .ok (.aload_n 1, 1) := by decide +kernel
theorem d8004_18 : decode (jm_b 8004) 18 = .ok (.getfield 95, 3) := by decide +kernel
theorem d8004_21 : decode (jm_b 8004) 21 = .ok (.iload_n 2, 1) := by decide +kernel
theorem d8004_22 : decode (jm_b 8004) 22 = .ok (.iaload, 1) := by decide +kernel
theorem d8004_23 : decode (jm_b 8004) 23 = .ok (.isub, 1) := by decide +kernel
theorem d8004_24 : decode (jm_b 8004) 24 = .ok (.istore_n 3, 1) := by decide +kernel
theorem d8004_25 : decode (jm_b 8004) 25 = .ok (.iload_n 3, 1) := by decide +kernel
theorem d8004_26 : decode (jm_b 8004) 26 = .ok (.bipush (-3), 2) := by decide +kernel
theorem d8004_28 : decode (jm_b 8004) 28 = .ok (.iconst 3, 1) := by decide +kernel
theorem d8004_29 : decode (jm_b 8004) 29 = .ok (.invokestatic 98, 3) := by decide +kernel
theorem d8004_32 : decode (jm_b 8004) 32 = .ok (.ireturn, 1) := by decide +kernel
theorem d14_0 : decode (jm_b 14) 0 = .ok (.iload_n 0, 1) := by decide +kernel
theorem d14_1 : decode (jm_b 14) 1 = .ok (.iload_n 1, 1) := by decide +kernel
theorem d14_2 : decode (jm_b 14) 2 = .ok (.if_icmp .ge 7, 3) := by decide +kernel
theorem d14_5 : decode (jm_b 14) 5 = .ok (.iload_n 1, 1) := by decide +kernel
theorem d14_6 : decode (jm_b 14) 6 = .ok (.goto 13, 3) := by decide +kernel
theorem d14_9 : decode (jm_b 14) 9 = .ok (.iload_n 0, 1) := by decide +kernel
theorem d14_10 : decode (jm_b 14) 10 = .ok (.iload_n 2, 1) := by decide +kernel
theorem d14_11 : decode (jm_b 14) 11 = .ok (.if_icmp .le 7, 3) := by decide +kernel
theorem d14_14 : decode (jm_b 14) 14 = .ok (.iload_n 2, 1) := by decide +kernel
theorem d14_15 : decode (jm_b 14) 15 = .ok (.goto 4, 3) := by decide +kernel
theorem d14_18 : decode (jm_b 14) 18 = .ok (.iload_n 0, 1) := by decide +kernel
theorem d14_19 : decode (jm_b 14) 19 = .ok (.ireturn, 1) := by decide +kernel
theorem d8005_0 : decode (jm_b 8005) 0 = .ok (.iload_n 2, 1) := by decide +kernel
theorem d8005_1 : decode (jm_b 8005) 1 = .ok (.ifCond .le 9, 3) := by decide +kernel
theorem d8005_4 : decode (jm_b 8005) 4 = .ok (.iload_n 2, 1) := by decide +kernel
theorem d8005_5 : decode (jm_b 8005) 5 = .ok (.iconst 1, 1) := by decide +kernel
theorem d8005_6 : decode (jm_b 8005) 6 = .ok (.isub, 1) := by decide +kernel
theorem d8005_7 : decode (jm_b 8005) 7 = .ok (.goto 4, 3) := by decide +kernel
theorem d8005_10 : decode (jm_b 8005) 10 = .ok (.iload_n 2, 1) := by decide +kernel
theorem d8005_11 : decode (jm_b 8005) 11 = .ok (.istore 4, 2) := by decide +kernel
theorem d8005_13 : decode (jm_b 8005) 13 = .ok (.iload_n 2, 1) := by decide +kernel
theorem d8005_14 : decode (jm_b 8005) 14 = .ok (.aload_n 0, 1) := by decide +kernel
theorem d8005_15 : decode (jm_b 8005) 15 = .ok (.getfield 12, 3) := by decide +kernel
theorem d8005_18 : decode (jm_b 8005) 18 = .ok (.getfield 50, 3) := by decide +kernel
theorem d8005_21 : decode (jm_b 8005) 21 = .ok (.iconst 1, 1) := by decide +kernel
theorem d8005_22 : decode (jm_b 8005) 22 = .ok (.isub, 1) := by decide +kernel
theorem d8005_23 : decode (jm_b 8005) 23 = .ok (.if_icmp .ge 9, 3) := by decide +kernel
theorem d8005_26 : decode (jm_b 8005) 26 = .ok (.iload_n 2, 1) := by decide +kernel
theorem d8005_27 : decode (jm_b 8005) 27 = .ok (.iconst 1, 1) := by decide +kernel
theorem d8005_28 : decode (jm_b 8005) 28 = .ok (.iadd, 1) := by decide +kernel
theorem d8005_29 : decode (jm_b 8005) 29 = .ok (.goto 4, 3) := by decide +kernel
theorem d8005_32 : decode (jm_b 8005) 32 = .ok (.iload_n 2, 1) := by decide +kernel
theorem d8005_33 : decode (jm_b 8005) 33 = .ok (.istore 5, 2) := by decide +kernel
theorem d8005_35 : decode (jm_b 8005) 35 = .ok (.aload_n 0, 1) := by decide +kernel
theorem d8005_36 : decode (jm_b 8005) 36 = .ok (.getfield 24, 3) := by decide +kernel
theorem d8005_39 : decode (jm_b 8005) 39 = .ok (.iconst 0, 1) := by decide +kernel
theorem d8005_40 : decode (jm_b 8005) 40 = .ok (.iload_n 2, 1) := by decide +kernel
theorem d8005_41 : decode (jm_b 8005) 41 = .ok (.i2l, 1) := by decide +kernel
theorem d8005_42 : decode (jm_b 8005) 42 = .ok (.lastore, 1) := by decide +kernel
theorem d8005_43 : decode (jm_b 8005) 43 = .ok (.aload_n 0, 1) := by decide +kernel
theorem d8005_44 : decode (jm_b 8005) 44 = .ok (.getfield 24, 3) := by decide +kernel
theorem d8005_47 : decode (jm_b 8005) 47 = .ok (.iconst 1, 1) := by decide +kernel
theorem d8005_48 : decode (jm_b 8005) 48 = .ok (.aload_n 1, 1) := by decide +kernel
theorem d8005_49 : decode (jm_b 8005) 49 = .ok (.getfield 102, 3) := by decide +kernel
theorem d8005_52 : decode (jm_b 8005) 52 = .ok (.iload_n 2, 1) := by decide +kernel
theorem d8005_53 : decode (jm_b 8005) 53 = .ok (.iaload, 1) := by decide +kernel
theorem d8005_54 : decode (jm_b 8005) 54 = .ok (.i2l, 1) := by decide +kernel
theorem d8005_55 : decode (jm_b 8005) 55 = .ok (.lastore, 1) := by decide +kernel
theorem d8005_56 : decode (jm_b 8005) 56 = .ok (.aload_n 0, 1) := by decide +kernel
theorem d8005_57 : decode (jm_b 8005) 57 = .ok (.getfield 24, 3) := by decide +kernel
theorem d8005_60 : decode (jm_b 8005) 60 = .ok (.iconst 2, 1) := by decide +kernel
theorem d8005_61 : decode (jm_b 8005) 61 = .ok (.aload_n 1, 1) := by decide +kernel
theorem d8005_62 : decode (jm_b 8005) 62 = .ok (.getfield 89, 3) := by decide +kernel
theorem d8005_65 : decode (jm_b 8005) 65 = .ok (.iload_n 2, 1) := by decide +kernel
theorem d8005_66 : decode (jm_b 8005) 66 = .ok (.iaload, 1) := by decide +kernel
theorem d8005_67 : decode (jm_b 8005) 67 = .ok (.i2l, 1) := by decide +kernel
theorem d8005_68 : decode (jm_b 8005) 68 = .ok (.lastore, 1) := by decide +kernel
theorem d8005_69 : decode (jm_b 8005) 69 = .ok (.aload_n 0, 1) := by decide +kernel
theorem d8005_70 : decode (jm_b 8005) 70 = .ok (.getfield 24, 3) := by decide +kernel
theorem d8005_73 : decode (jm_b 8005) 73 = .ok (.iconst 3, 1) := by decide +kernel
theorem d8005_74 : decode (jm_b 8005) 74 = .ok (.aload_n 1, 1) := by decide +kernel
theorem d8005_75 : decode (jm_b 8005) 75 = .ok (.getfield 95, 3) := by decide +kernel
theorem d8005_78 : decode (jm_b 8005) 78 = .ok (.iload_n 2, 1) := by decide +kernel
theorem d8005_79 : decode (jm_b 8005) 79 = .ok (.iaload, 1) := by decide +kernel
theorem d8005_80 : decode (jm_b 8005) 80 = .ok (.i2l, 1) := by decide +kernel
theorem d8005_81 : decode (jm_b 8005) 81 = .ok (.lastore, 1) := by decide +kernel
theorem d8005_82 : decode (jm_b 8005) 82 = .ok (.aload_n 0, 1) := by decide +kernel
theorem d8005_83 : decode (jm_b 8005) 83 = .ok (.getfield 24, 3) := by decide +kernel
theorem d8005_86 : decode (jm_b 8005) 86 = .ok (.iconst 4, 1) := by decide +kernel
theorem d8005_87 : decode (jm_b 8005) 87 = .ok (.aload_n 0, 1) := by decide +kernel
theorem d8005_88 : decode (jm_b 8005) 88 = .ok (.getfield 12, 3) := by decide +kernel
theorem d8005_91 : decode (jm_b 8005) 91 = .ok (.getfield 92, 3) := by decide +kernel
theorem d8005_94 : decode (jm_b 8005) 94 = .ok (.i2l, 1) := by decide +kernel
theorem d8005_95 : decode (jm_b 8005) 95 = .ok (.lastore, 1) := by decide +kernel
theorem d8005_96 : decode (jm_b 8005) 96 = .ok (.aload_n 0, 1) := by decide +kernel
theorem d8005_97 : decode (jm_b 8005) 97 = .ok (.getfield 24, 3) := by decide +kernel
theorem d8005_100 : decode (jm_b 8005) 100 = .ok (.bipush 6, 2) := by decide +kernel
theorem d8005_102 : decode (jm_b 8005) 102 = .ok (.aload_n 1, 1) := by decide +kernel
theorem d8005_103 : decode (jm_b 8005) 103 = .ok (.getfield 32, 3) := by decide +kernel
theorem d8005_106 : decode (jm_b 8005) 106 = .ok (.i2l, 1) := by decide +kernel
theorem d8005_107 : decode (jm_b 8005) 107 = .ok (.lastore, 1) := by decide +kernel
theorem d8005_108 : decode (jm_b 8005) 108 = .ok (.aload_n 0, 1) := by decide +kernel
theorem d8005_109 : decode (jm_b 8005) 109 = .ok (.getfield 24, 3) := by decide +kernel
theorem d8005_112 : decode (jm_b 8005) 112 = .ok (.bipush 7, 2) := by decide +kernel
theorem d8005_114 : decode (jm_b 8005) 114 = .ok (.aload_n 1, 1) := by decide +kernel
theorem d8005_115 : decode (jm_b 8005) 115 = .ok (.getfield 102, 3) := by decide +kernel
theorem d8005_118 : decode (jm_b 8005) 118 = .ok (.iload 4, 2) := by decide +kernel
theorem d8005_120 : decode (jm_b 8005) 120 = .ok (.iaload, 1) := by decide +kernel
theorem d8005_121 : decode (jm_b 8005) 121 = .ok (.i2l, 1) := by decide +kernel
theorem d8005_122 : decode (jm_b 8005) 122 = .ok (.lastore, 1) := by decide +kernel
theorem d8005_123 : decode (jm_b 8005) 123 = .ok (.aload_n 0, 1) := by decide +kernel
theorem d8005_124 : decode (jm_b 8005) 124 = .ok (.getfield 24, 3) := by decide +kernel
theorem d8005_127 : decode (jm_b 8005) 127 = .ok (.bipush 8, 2) := by decide +kernel
theorem d8005_129 : decode (jm_b 8005) 129 = .ok (.aload_n 1, 1) := by decide +kernel
theorem d8005_130 : decode (jm_b 8005) 130 = .ok (.getfield 102, 3) := by decide +kernel
theorem d8005_133 : decode (jm_b 8005) 133 = .ok (.iload 5, 2) := by decide +kernel
theorem d8005_135 : decode (jm_b 8005) 135 = .ok (.iaload, 1) := by decide +kernel
theorem d8005_136 : decode (jm_b 8005) 136 = .ok (.i2l, 1) := by decide +kernel
theorem d8005_137 : decode (jm_b 8005) 137 = .ok (.lastore, 1) := by decide +kernel
theorem d8005_138 : decode (jm_b 8005) 138 = .ok (.aload_n 0, 1) := by decide +kernel
theorem d8005_139 : decode (jm_b 8005) 139 = .ok (.getfield 24, 3) := by decide +kernel
theorem d8005_142 : decode (jm_b 8005) 142 = .ok (.bipush 9, 2) := by decide +kernel
theorem d8005_144 : decode (jm_b 8005) 144 = .ok (.iload_n 3, 1) := by decide +kernel
theorem d8005_145 : decode (jm_b 8005) 145 = .ok (.invokestatic 105, 3) := by decide +kernel
theorem d8005_148 : decode (jm_b 8005) 148 = .ok (.aload_n 0, 1) := by decide +kernel
theorem d8005_149 : decode (jm_b 8005) 149 = .ok (.getfield 12, 3) := by decide +kernel
theorem d8005_152 : decode (jm_b 8005) 152 = .ok (.getfield 108, 3) := by decide +kernel
theorem d8005_155 : decode (jm_b 8005) 155 = .ok (.iload_n 2, 1) := by decide +kernel
theorem d8005_156 : decode (jm_b 8005) 156 = .ok (.iaload, 1) := by decide +kernel
theorem d8005_157 : decode (jm_b 8005) 157 = .ok (.iand, 1) := by decide +kernel
theorem d8005_158 : decode (jm_b 8005) 158 = .ok (.invokestatic 111, 3) := by decide +kernel
theorem d8005_161 : decode (jm_b 8005) 161 = .ok (.i2l, 1) := by decide +kernel
theorem d8005_162 : decode (jm_b 8005) 162 = .ok (.lastore, 1) := by decide +kernel
theorem d8005_163 : decode (jm_b 8005) 163 = .ok (.aload_n 0, 1) := by decide +kernel
theorem d8005_164 : decode (jm_b 8005) 164 = .ok (.getfield 24, 3) := by decide +kernel
theorem d8005_167 : decode (jm_b 8005) 167 = .ok (.bipush 10, 2) := by decide +kernel
theorem d8005_169 : decode (jm_b 8005) 169 = .ok (.iload_n 3, 1) := by decide +kernel
theorem d8005_170 : decode (jm_b 8005) 170 = .ok (.invokestatic 116, 3) := by decide +kernel
theorem d8005_173 : decode (jm_b 8005) 173 = .ok (.aload_n 0, 1) := by decide +kernel
theorem d8005_174 : decode (jm_b 8005) 174 = .ok (.getfield 12, 3) := by decide +kernel
theorem d8005_177 : decode (jm_b 8005) 177 = .ok (.getfield 108, 3) := by decide +kernel
theorem d8005_180 : decode (jm_b 8005) 180 = .ok (.iload_n 2, 1) := by decide +kernel
theorem d8005_181 : decode (jm_b 8005) 181 = .ok (.iaload, 1) := by decide +kernel
theorem d8005_182 : decode (jm_b 8005) 182 = .ok (.iand, 1) := by decide +kernel
theorem d8005_183 : decode (jm_b 8005) 183 = .ok (.invokestatic 111, 3) := by decide +kernel
theorem d8005_186 : decode (jm_b 8005) 186 = .ok (.i2l, 1) := by decide +kernel
theorem d8005_187 : decode (jm_b 8005) 187 = .ok (.lastore, 1) := by decide +kernel
theorem d8005_188 : decode (jm_b 8005) 188 = .ok (.aload_n 0, 1) := by decide +kernel
theorem d8005_189 : decode (jm_b 8005) 189 = .ok (.getfield 24, 3) := by decide +kernel
theorem d8005_192 : decode (jm_b 8005) 192 = .ok (.bipush 11, 2) := by decide +kernel
theorem d8005_194 : decode (jm_b 8005) 194 = .ok (.aload_n 1, 1) := by decide +kernel
theorem d8005_195 : decode (jm_b 8005) 195 = .ok (.getfield 119, 3) := by decide +kernel
theorem d8005_198 : decode (jm_b 8005) 198 = .ok (.iload 4, 2) := by decide +kernel
theorem d8005_200 : decode (jm_b 8005) 200 = .ok (.ishr, 1) := by decide +kernel
theorem d8005_201 : decode (jm_b 8005) 201 = .ok (.iconst 1, 1) := by decide +kernel
theorem d8005_202 : decode (jm_b 8005) 202 = .ok (.iand, 1) := by decide +kernel
theorem d8005_203 : decode (jm_b 8005) 203 = .ok (.aload_n 1, 1) := by decide +kernel
theorem d8005_204 : decode (jm_b 8005) 204 = .ok (.getfield 119, 3) := by decide +kernel
theorem d8005_207 : decode (jm_b 8005) 207 = .ok (.iload 5, 2) := by decide +kernel
theorem d8005_209 : decode (jm_b 8005) 209 = .ok (.ishr, 1) := by decide +kernel
theorem d8005_210 : decode (jm_b 8005) 210 = .ok (.iconst 1, 1) := by decide +kernel
theorem d8005_211 : decode (jm_b 8005) 211 = .ok (.iand, 1) := by decide +kernel
theorem d8005_212 : decode (jm_b 8005) 212 = .ok (.iadd, 1) := by decide +kernel
theorem d8005_213 : decode (jm_b 8005) 213 = .ok (.i2l, 1) := by decide +kernel
theorem d8005_214 : decode (jm_b 8005) 214 = .ok (.lastore, 1) := by decide +kernel
theorem d8005_215 : decode (jm_b 8005) 215 = .ok (.return_, 1) := by decide +kernel
theorem d15_0 : decode (jm_b 15) 0 = .ok (.iload_n 0, 1) := by decide +kernel
theorem d15_1 : decode (jm_b 15) 1 = .ok (.sipush 255, 3) := by decide +kernel
theorem d15_4 : decode (jm_b 15) 4 = .ok (.iand, 1) := by decide +kernel
theorem d15_5 : decode (jm_b 15) 5 = .ok (.ireturn, 1) := by decide +kernel
theorem d14000_0 : decode (jm_b 14000) 0 = .ok (.iload_n 0, 1) := by decide +kernel
theorem d14000_1 : decode (jm_b 14000) 1 = .ok (.iload_n 0, 1) := by decide +kernel
theorem d14000_2 : decode (jm_b 14000) 2 = .ok (.iconst 1, 1) := by decide +kernel
theorem d14000_3 : decode (jm_b 14000) 3 = .ok (.iushr, 1) := by decide +kernel
theorem d14000_4 : decode (jm_b 14000) 4 = .ok (.ldc_w 265, 3) := by decide +kernel
theorem d14000_7 : decode (jm_b 14000) 7 = .ok (.iand, 1) := by decide +kernel
theorem d14000_8 : decode (jm_b 14000) 8 = .ok (.isub, 1) := by decide +kernel
theorem d14000_9 : decode (jm_b 14000) 9 = .ok (.istore_n 0, 1) := by decide +kernel
theorem d14000_10 : decode (jm_b 14000) 10 = .ok (.iload_n 0, 1) := by decide +kernel
theorem d14000_11 : decode (jm_b 14000) 11 = .ok (.ldc_w 266, 3) := by decide +kernel
theorem d14000_14 : decode (jm_b 14000) 14 = .ok (.iand, 1) := by decide +kernel
theorem d14000_15 : decode (jm_b 14000) 15 = .ok (.iload_n 0, 1) := by decide +kernel
theorem d14000_16 : decode (jm_b 14000) 16 = .ok (.iconst 2, 1) := by decide +kernel
theorem d14000_17 : decode (jm_b 14000) 17 = .ok (.iushr, 1) := by decide +kernel
theorem d14000_18 : decode (jm_b 14000) 18 = .ok (.ldc_w 266, 3) := by decide +kernel
theorem d14000_21 : decode (jm_b 14000) 21 = .ok (.iand, 1) := by decide +kernel
theorem d14000_22 : decode (jm_b 14000) 22 = .ok (.iadd, 1) := by decide +kernel
theorem d14000_23 : decode (jm_b 14000) 23 = .ok (.istore_n 0, 1) := by decide +kernel
theorem d14000_24 : decode (jm_b 14000) 24 = .ok (.iload_n 0, 1) := by decide +kernel
theorem d14000_25 : decode (jm_b 14000) 25 = .ok (.iload_n 0, 1) := by decide +kernel
theorem d14000_26 : decode (jm_b 14000) 26 = .ok (.iconst 4, 1) := by decide +kernel
theorem d14000_27 : decode (jm_b 14000) 27 = .ok (.iushr, 1) := by decide +kernel
theorem d14000_28 : decode (jm_b 14000) 28 = .ok (.iadd, 1) := by decide +kernel
theorem d14000_29 : decode (jm_b 14000) 29 = .ok (.ldc_w 267, 3) := by decide +kernel
theorem d14000_32 : decode (jm_b 14000) 32 = .ok (.iand, 1) := by decide +kernel
theorem d14000_33 : decode (jm_b 14000) 33 = .ok (.istore_n 0, 1) := by decide +kernel
theorem d14000_34 : decode (jm_b 14000) 34 = .ok (.iload_n 0, 1) := by decide +kernel
theorem d14000_35 : decode (jm_b 14000) 35 = .ok (.iload_n 0, 1) := by decide +kernel
theorem d14000_36 : decode (jm_b 14000) 36 = .ok (.bipush 8, 2) := by decide +kernel
theorem d14000_38 : decode (jm_b 14000) 38 = .ok (.iushr, 1) := by decide +kernel
theorem d14000_39 : decode (jm_b 14000) 39 = .ok (.iadd, 1) := by decide +kernel
theorem d14000_40 : decode (jm_b 14000) 40 = .ok (.istore_n 0, 1) := by decide +kernel
theorem d14000_41 : decode (jm_b 14000) 41 = .ok (.iload_n 0, 1) := by decide +kernel
theorem d14000_42 : decode (jm_b 14000) 42 = .ok (.iload_n 0, 1) := by decide +kernel
theorem d14000_43 : decode (jm_b 14000) 43 = .ok (.bipush 16, 2) := by decide +kernel
theorem d14000_45 : decode (jm_b 14000) 45 = .ok (.iushr, 1) := by decide +kernel
theorem d14000_46 : decode (jm_b 14000) 46 = .ok (.iadd, 1) := by decide +kernel
theorem d14000_47 : decode (jm_b 14000) 47 = .ok (.istore_n 0, 1) := by decide +kernel
theorem d14000_48 : decode (jm_b 14000) 48 = .ok (.iload_n 0, 1) := by decide +kernel
theorem d14000_49 : decode (jm_b 14000) 49 = .ok (.bipush 63, 2) := by decide +kernel
theorem d14000_51 : decode (jm_b 14000) 51 = .ok (.iand, 1) := by decide +kernel
theorem d14000_52 : decode (jm_b 14000) 52 = .ok (.ireturn, 1) := by decide +kernel
theorem d16_0 : decode (jm_b 16) 0 = .ok (.iload_n 0, 1) := by decide +kernel
theorem d16_1 : decode (jm_b 16) 1 = .ok (.bipush 8, 2) := by decide +kernel
theorem d16_3 : decode (jm_b 16) 3 = .ok (.ishr, 1) := by decide +kernel
theorem d16_4 : decode (jm_b 16) 4 = .ok (.sipush 255, 3) := by decide +kernel
theorem d16_7 : decode (jm_b 16) 7 = .ok (.iand, 1) := by decide +kernel
theorem d16_8 : decode (jm_b 16) 8 = .ok (.ireturn, 1) := by decide +kernel
theorem d5004_0 : decode (jm_b 5004) 0 = .ok (.iconst 0, 1) := by decide +kernel
theorem d5004_1 : decode (jm_b 5004) 1 = .ok (.istore_n 2, 1) := by decide +kernel
theorem d5004_2 : decode (jm_b 5004) 2 = .ok (.iload_n 2, 1) := by decide +kernel
theorem d5004_3 : decode (jm_b 5004) 3 = .ok (.aload_n 0, 1) := by decide +kernel
theorem d5004_4 : decode (jm_b 5004) 4 = .ok (.getfield 32, 3) := by decide +kernel
theorem d5004_7 : decode (jm_b 5004) 7 = .ok (.if_icmp .ge 91, 3) := by decide +kernel
theorem d5004_10 : decode (jm_b 5004) 10 = .ok (.aload_n 0, 1) := by decide +kernel
theorem d5004_11 : decode (jm_b 5004) 11 = .ok (.getfield 18, 3) := by decide +kernel
theorem d5004_14 : decode (jm_b 5004) 14 = .ok (.iload_n 2, 1) := by decide +kernel
theorem d5004_15 : decode (jm_b 5004) 15 = .ok (.iaload, 1) := by decide +kernel
theorem d5004_16 : decode (jm_b 5004) 16 = .ok (.aload_n 0, 1) := by decide +kernel
theorem d5004_17 : decode (jm_b 5004) 17 = .ok (.getfield 21, 3) := by decide +kernel
theorem d5004_20 : decode (jm_b 5004) 20 = .ok (.iload_n 2, 1) := by decide +kernel
theorem d5004_21 : decode (jm_b 5004) 21 = .ok (.iaload, 1) := by decide +kernel
theorem d5004_22 : decode (jm_b 5004) 22 = .ok (.if_icmp .ne 7, 3) := by decide +kernel
theorem d5004_25 : decode (jm_b 5004) 25 = .ok (.iconst 1, 1) := by decide +kernel
theorem d5004_26 : decode (jm_b 5004) 26 = .ok (.goto 4, 3) := by decide +kernel
theorem d5004_29 : decode (jm_b 5004) 29 = .ok (.iconst 0, 1) := by decide +kernel
theorem d5004_30 : decode (jm_b 5004) 30 = .ok (.istore_n 3, 1) := by decide +kernel
theorem d5004_31 : decode (jm_b 5004) 31 = .ok (.iload_n 3, 1) := by decide +kernel
theorem d5004_32 : decode (jm_b 5004) 32 = .ok (.ifCond .ne 25, 3) := by decide +kernel
theorem d5004_35 : decode (jm_b 5004) 35 = .ok (.aload_n 0, 1) := by decide +kernel
theorem d5004_36 : decode (jm_b 5004) 36 = .ok (.aload_n 0, 1) := by decide +kernel
theorem d5004_37 : decode (jm_b 5004) 37 = .ok (.getfield 18, 3) := by decide +kernel
theorem d5004_40 : decode (jm_b 5004) 40 = .ok (.iload_n 2, 1) := by decide +kernel
theorem d5004_41 : decode (jm_b 5004) 41 = .ok (.iaload, 1) := by decide +kernel
theorem d5004_42 : decode (jm_b 5004) 42 = .ok (.aload_n 0, 1) := by decide +kernel
theorem d5004_43 : decode (jm_b 5004) 43 = .ok (.getfield 21, 3) := by decide +kernel
theorem d5004_46 : decode (jm_b 5004) 46 = .ok (.iload_n 2, 1) := by decide +kernel
theorem d5004_47 : decode (jm_b 5004) 47 = .ok (.iaload, 1) := by decide +kernel
theorem d5004_48 : decode (jm_b 5004) 48 = .ok (.aload_n 1, 1) := by decide +kernel
theorem d5004_49 : decode (jm_b 5004) 49 = .ok (.invokevirtual 35, 3) := by decide +kernel
theorem d5004_52 : decode (jm_b 5004) 52 = .ok (.lconst 0, 1) := by decide +kernel
theorem d5004_53 : decode (jm_b 5004) 53 = .ok (.lcmp, 1) := by decide +kernel
theorem d5004_54 : decode (jm_b 5004) 54 = .ok (.ifCond .eq 38, 3) := by decide +kernel
theorem d5004_57 : decode (jm_b 5004) 57 = .ok (.aload_n 0, 1) := by decide +kernel
theorem d5004_58 : decode (jm_b 5004) 58 = .ok (.aload_n 0, 1) := by decide +kernel
theorem d5004_59 : decode (jm_b 5004) 59 = .ok (.getfield 15, 3) := by decide +kernel
theorem d5004_62 : decode (jm_b 5004) 62 = .ok (.iload_n 2, 1) := by decide +kernel
theorem d5004_63 : decode (jm_b 5004) 63 = .ok (.iaload, 1) := by decide +kernel
theorem d5004_64 : decode (jm_b 5004) 64 = .ok (.aload_n 0, 1) := by decide +kernel
theorem d5004_65 : decode (jm_b 5004) 65 = .ok (.getfield 18, 3) := by decide +kernel
theorem d5004_68 : decode (jm_b 5004) 68 = .ok (.iload_n 2, 1) := by decide +kernel
theorem d5004_69 : decode (jm_b 5004) 69 = .ok (.iaload, 1) := by decide +kernel
theorem d5004_70 : decode (jm_b 5004) 70 = .ok (.aload_n 1, 1) := by decide +kernel
theorem d5004_71 : decode (jm_b 5004) 71 = .ok (.invokevirtual 35, 3) := by decide +kernel
theorem d5004_74 : decode (jm_b 5004) 74 = .ok (.lstore 4, 2) := by decide +kernel
theorem d5004_76 : decode (jm_b 5004) 76 = .ok (.ldc2_w 39, 3) := by decide +kernel
theorem d5004_79 : decode (jm_b 5004) 79 = .ok (.ldc2_w 41, 3) := by decide +kernel
theorem d5004_82 : decode (jm_b 5004) 82 = .ok (.lload 4, 2) := by decide +kernel
theorem d5004_84 : decode (jm_b 5004) 84 = .ok (.invokestatic 43, 3) := by decide +kernel
theorem d5004_87 : decode (jm_b 5004) 87 = .ok (.invokestatic 49, 3) := by decide +kernel
theorem d5004_90 : decode (jm_b 5004) 90 = .ok (.l2i, 1) := by decide +kernel
theorem d5004_91 : decode (jm_b 5004) 91 = .ok (.ireturn, 1) := by decide +kernel
theorem d5004_92 : decode (jm_b 5004) 92 = .ok (.iinc 2 1, 3) := by decide +kernel
theorem d5004_95 : decode (jm_b 5004) 95 = .ok (.goto (-93), 3) := by decide +kernel
theorem d5004_98 : decode (jm_b 5004) 98 = .ok (.iconst 0, 1) := by decide +kernel
theorem d5004_99 : decode (jm_b 5004) 99 = .ok (.ireturn, 1) := by decide +kernel
theorem d5005_0 : decode (jm_b 5005) 0 = .ok (.iconst (-1), 1) := by decide +kernel
theorem d5005_1 : decode (jm_b 5005) 1 = .ok (.istore 4, 2) := by decide +kernel
theorem d5005_3 : decode (jm_b 5005) 3 = .ok (.iload_n 1, 1) := by decide +kernel
theorem d5005_4 : decode (jm_b 5005) 4 = .ok (.istore 5, 2) := by decide +kernel
theorem d5005_6 : decode (jm_b 5005) 6 = .ok (.iload 5, 2) := by decide +kernel
theorem d5005_8 : decode (jm_b 5005) 8 = .ok (.iload_n 2, 1) := by decide +kernel
theorem d5005_9 : decode (jm_b 5005) 9 = .ok (.if_icmp .ge 136, 3) := by decide +kernel
theorem d5005_12 : decode (jm_b 5005) 12 = .ok (.aload_n 0, 1) := by decide +kernel
theorem d5005_13 : decode (jm_b 5005) 13 = .ok (.getfield 9, 3) := by decide +kernel
theorem d5005_16 : decode (jm_b 5005) 16 = .ok (.iload 5, 2) := by decide +kernel
theorem d5005_18 : decode (jm_b 5005) 18 = .ok (.iaload, 1) := by decide +kernel
theorem d5005_19 : decode (jm_b 5005) 19 = .ok (.istore 6, 2) := by decide +kernel
theorem d5005_21 : decode (jm_b 5005) 21 = .ok (.iload 6, 2) := by decide +kernel
theorem d5005_23 : decode (jm_b 5005) 23 = .ok (.ifCond .lt 43, 3) := by decide +kernel
theorem d5005_26 : decode (jm_b 5005) 26 = .ok (.iload 4, 2) := by decide +kernel
theorem d5005_28 : decode (jm_b 5005) 28 = .ok (.bipush 59, 2) := by decide +kernel
theorem d5005_30 : decode (jm_b 5005) 30 = .ok (.if_icmp .ge 36, 3) := by decide +kernel
theorem d5005_33 : decode (jm_b 5005) 33 = .ok (.iinc 4 1, 3) := by decide +kernel
theorem d5005_36 : decode (jm_b 5005) 36 = .ok (.aload_n 0, 1) := by decide +kernel
theorem d5005_37 : decode (jm_b 5005) 37 = .ok (.getfield 24, 3) := by decide +kernel
theorem d5005_40 : decode (jm_b 5005) 40 = .ok (.iload 4, 2) := by decide +kernel
theorem d5005_42 : decode (jm_b 5005) 42 = .ok (.iload 6, 2) := by decide +kernel
theorem d5005_44 : decode (jm_b 5005) 44 = .ok (.ldc 52, 2) := by decide +kernel
theorem d5005_46 : decode (jm_b 5005) 46 = .ok (.if_icmp .ge 9, 3) := by decide +kernel
theorem d5005_49 : decode (jm_b 5005) 49 = .ok (.iload 6, 2) := by decide +kernel
theorem d5005_51 : decode (jm_b 5005) 51 = .ok (.i2l, 1) := by decide +kernel
theorem d5005_52 : decode (jm_b 5005) 52 = .ok (.goto 10, 3) := by decide +kernel
theorem d5005_55 : decode (jm_b 5005) 55 = .ok (.aload_n 3, 1) := by decide +kernel
theorem d5005_56 : decode (jm_b 5005) 56 = .ok (.iload 6, 2) := by decide +kernel
theorem d5005_58 : decode (jm_b 5005) 58 = .ok (.ldc 52, 2) := by decide +kernel
theorem d5005_60 : decode (jm_b 5005) 60 = .ok (.isub, 1) := by decide +kernel
theorem d5005_61 : decode (jm_b 5005) 61 = .ok (.laload, 1) := by decide +kernel
theorem d5005_62 : decode (jm_b 5005) 62 = .ok (.lastore, 1) := by decide +kernel
theorem d5005_63 : decode (jm_b 5005) 63 = .ok (.goto 76, 3) := by decide +kernel
theorem d5005_66 : decode (jm_b 5005) 66 = .ok (.iload 6, 2) := by decide +kernel
theorem d5005_68 : decode (jm_b 5005) 68 = .ok (.bipush (-13), 2) := by decide +kernel
theorem d5005_70 : decode (jm_b 5005) 70 = .ok (.if_icmp .ne 27, 3) := by decide +kernel
theorem d5005_73 : decode (jm_b 5005) 73 = .ok (.iload 4, 2) := by decide +kernel
theorem d5005_75 : decode (jm_b 5005) 75 = .ok (.ifCond .lt 22, 3) := by decide +kernel
theorem d5005_78 : decode (jm_b 5005) 78 = .ok (.aload_n 0, 1) := by decide +kernel
theorem d5005_79 : decode (jm_b 5005) 79 = .ok (.getfield 24, 3) := by decide +kernel
theorem d5005_82 : decode (jm_b 5005) 82 = .ok (.iload 4, 2) := by decide +kernel
theorem d5005_84 : decode (jm_b 5005) 84 = .ok (.lconst 1, 1) := by decide +kernel
theorem d5005_85 : decode (jm_b 5005) 85 = .ok (.aload_n 0, 1) := by decide +kernel
theorem d5005_86 : decode (jm_b 5005) 86 = .ok (.getfield 24, 3) := by decide +kernel
theorem d5005_89 : decode (jm_b 5005) 89 = .ok (.iload 4, 2) := by decide +kernel
theorem d5005_91 : decode (jm_b 5005) 91 = .ok (.laload, 1) := by decide +kernel
theorem d5005_92 : decode (jm_b 5005) 92 = .ok (.lsub, 1) := by decide +kernel
theorem d5005_93 : decode (jm_b 5005) 93 = .ok (.lastore, 1) := by decide +kernel
theorem d5005_94 : decode (jm_b 5005) 94 = .ok (.goto 45, 3) := by decide +kernel
theorem d5005_97 : decode (jm_b 5005) 97 = .ok (.iload 6, 2) := by decide +kernel
theorem d5005_99 : decode (jm_b 5005) 99 = .ok (.ifCond .ge 40, 3) := by decide +kernel
theorem d5005_102 : decode (jm_b 5005) 102 = .ok (.iload 4, 2) := by decide +kernel
theorem d5005_104 : decode (jm_b 5005) 104 = .ok (.iconst 1, 1) := by decide +kernel
theorem d5005_105 : decode (jm_b 5005) 105 = .ok (.if_icmp .lt 34, 3) := by decide +kernel
theorem d5005_108 : decode (jm_b 5005) 108 = .ok (.iinc 4 (-1), 3) := by decide +kernel
theorem d5005_111 : decode (jm_b 5005) 111 = .ok (.aload_n 0, 1) := by decide +kernel
theorem d5005_112 : decode (jm_b 5005) 112 = .ok (.getfield 24, 3) := by decide +kernel
theorem d5005_115 : decode (jm_b 5005) 115 = .ok (.iload 4, 2) := by decide +kernel
theorem d5005_117 : decode (jm_b 5005) 117 = .ok (.iload 6, 2) := by decide +kernel
theorem d5005_119 : decode (jm_b 5005) 119 = .ok (.aload_n 0, 1) := by decide +kernel
theorem d5005_120 : decode (jm_b 5005) 120 = .ok (.getfield 24, 3) := by decide +kernel
theorem d5005_123 : decode (jm_b 5005) 123 = .ok (.iload 4, 2) := by decide +kernel
theorem d5005_125 : decode (jm_b 5005) 125 = .ok (.laload, 1) := by decide +kernel
theorem d5005_126 : decode (jm_b 5005) 126 = .ok (.aload_n 0, 1) := by decide +kernel
theorem d5005_127 : decode (jm_b 5005) 127 = .ok (.getfield 24, 3) := by decide +kernel
theorem d5005_130 : decode (jm_b 5005) 130 = .ok (.iload 4, 2) := by decide +kernel
theorem d5005_132 : decode (jm_b 5005) 132 = .ok (.iconst 1, 1) := by decide +kernel
theorem d5005_133 : decode (jm_b 5005) 133 = .ok (.iadd, 1) := by decide +kernel
theorem d5005_134 : decode (jm_b 5005) 134 = .ok (.laload, 1) := by decide +kernel
theorem d5005_135 : decode (jm_b 5005) 135 = .ok (.invokestatic 53, 3) := by decide +kernel
theorem d5005_138 : decode (jm_b 5005) 138 = .ok (.lastore, 1) := by decide +kernel
theorem d5005_139 : decode (jm_b 5005) 139 = .ok (.iinc 5 1, 3) := by decide +kernel
theorem d5005_142 : decode (jm_b 5005) 142 = .ok (.goto (-136), 3) := by decide +kernel
theorem d5005_145 : decode (jm_b 5005) 145 = .ok (.aload_n 0, 1) := by decide +kernel
theorem d5005_146 : decode (jm_b 5005) 146 = .ok (.getfield 24, 3) := by decide +kernel
theorem d5005_149 : decode (jm_b 5005) 149 = .ok (.iconst 0, 1) := by decide +kernel
theorem d5005_150 : decode (jm_b 5005) 150 = .ok (.laload, 1) := by decide +kernel
theorem d5005_151 : decode (jm_b 5005) 151 = .ok (.lreturn, 1) := by decide +kernel
theorem d5006_0 : decode (jm_b 5006) 0 = .ok (.iload_n 0, 1) := by decide +kernel
theorem d5006_1 : decode (jm_b 5006) 1 = .ok (.tableswitch 171 (-12) (-1) #[167, 163, 151, 139, 127, 115, 103, 89, 75, 71, 67, 63], 63) := by decide +kernel
theorem d5006_64 : decode (jm_b 5006) 64 = .ok (.lload_n 1, 1) := by decide +kernel
theorem d5006_65 : decode (jm_b 5006) 65 = .ok (.lload_n 3, 1) := by decide +kernel
theorem d5006_66 : decode (jm_b 5006) 66 = .ok (.ladd, 1) := by decide +kernel
theorem d5006_67 : decode (jm_b 5006) 67 = .ok (.lreturn, 1) := by decide +kernel
theorem d5006_68 : decode (jm_b 5006) 68 = .ok (.lload_n 1, 1) := by decide +kernel
theorem d5006_69 : decode (jm_b 5006) 69 = .ok (.lload_n 3, 1) := by decide +kernel
theorem d5006_70 : decode (jm_b 5006) 70 = .ok (.lsub, 1) := by decide +kernel
theorem d5006_71 : decode (jm_b 5006) 71 = .ok (.lreturn, 1) := by decide +kernel
theorem d5006_72 : decode (jm_b 5006) 72 = .ok (.lload_n 1, 1) := by decide +kernel
theorem d5006_73 : decode (jm_b 5006) 73 = .ok (.lload_n 3, 1) := by decide +kernel
theorem d5006_74 : decode (jm_b 5006) 74 = .ok (.lmul, 1) := by decide +kernel
theorem d5006_75 : decode (jm_b 5006) 75 = .ok (.lreturn, 1) := by decide +kernel
theorem d5006_76 : decode (jm_b 5006) 76 = .ok (.lload_n 3, 1) := by decide +kernel
theorem d5006_77 : decode (jm_b 5006) 77 = .ok (.lconst 0, 1) := by decide +kernel
theorem d5006_78 : decode (jm_b 5006) 78 = .ok (.lcmp, 1) := by decide +kernel
theorem d5006_79 : decode (jm_b 5006) 79 = .ok (.ifCond .ne 7, 3) := by decide +kernel
theorem d5006_82 : decode (jm_b 5006) 82 = .ok (.lconst 0, 1) := by decide +kernel
theorem d5006_83 : decode (jm_b 5006) 83 = .ok (.goto 6, 3) := by decide +kernel
theorem d5006_86 : decode (jm_b 5006) 86 = .ok (.lload_n 1, 1) := by decide +kernel
theorem d5006_87 : decode (jm_b 5006) 87 = .ok (.lload_n 3, 1) := by decide +kernel
theorem d5006_88 : decode (jm_b 5006) 88 = .ok (.ldiv, 1) := by decide +kernel
theorem d5006_89 : decode (jm_b 5006) 89 = .ok (.lreturn, 1) := by decide +kernel
theorem d5006_90 : decode (jm_b 5006) 90 = .ok (.lload_n 3, 1) := by decide +kernel
theorem d5006_91 : decode (jm_b 5006) 91 = .ok (.lconst 0, 1) := by decide +kernel
theorem d5006_92 : decode (jm_b 5006) 92 = .ok (.lcmp, 1) := by decide +kernel
theorem d5006_93 : decode (jm_b 5006) 93 = .ok (.ifCond .ne 7, 3) := by decide +kernel
theorem d5006_96 : decode (jm_b 5006) 96 = .ok (.lconst 0, 1) := by decide +kernel
theorem d5006_97 : decode (jm_b 5006) 97 = .ok (.goto 6, 3) := by decide +kernel
theorem d5006_100 : decode (jm_b 5006) 100 = .ok (.lload_n 1, 1) := by decide +kernel
theorem d5006_101 : decode (jm_b 5006) 101 = .ok (.lload_n 3, 1) := by decide +kernel
theorem d5006_102 : decode (jm_b 5006) 102 = .ok (.lrem, 1) := by decide +kernel
theorem d5006_103 : decode (jm_b 5006) 103 = .ok (.lreturn, 1) := by decide +kernel
theorem d5006_104 : decode (jm_b 5006) 104 = .ok (.lload_n 1, 1) := by decide +kernel
theorem d5006_105 : decode (jm_b 5006) 105 = .ok (.lload_n 3, 1) := by decide +kernel
theorem d5006_106 : decode (jm_b 5006) 106 = .ok (.lcmp, 1) := by decide +kernel
theorem d5006_107 : decode (jm_b 5006) 107 = .ok (.ifCond .ge 7, 3) := by decide +kernel
theorem d5006_110 : decode (jm_b 5006) 110 = .ok (.lconst 1, 1) := by decide +kernel
theorem d5006_111 : decode (jm_b 5006) 111 = .ok (.goto 4, 3) := by decide +kernel
theorem d5006_114 : decode (jm_b 5006) 114 = .ok (.lconst 0, 1) := by decide +kernel
theorem d5006_115 : decode (jm_b 5006) 115 = .ok (.lreturn, 1) := by decide +kernel
theorem d5006_116 : decode (jm_b 5006) 116 = .ok (.lload_n 1, 1) := by decide +kernel
theorem d5006_117 : decode (jm_b 5006) 117 = .ok (.lload_n 3, 1) := by decide +kernel
theorem d5006_118 : decode (jm_b 5006) 118 = .ok (.lcmp, 1) := by decide +kernel
theorem d5006_119 : decode (jm_b 5006) 119 = .ok (.ifCond .gt 7, 3) := by decide +kernel
theorem d5006_122 : decode (jm_b 5006) 122 = .ok (.lconst 1, 1) := by decide +kernel
theorem d5006_123 : decode (jm_b 5006) 123 = .ok (.goto 4, 3) := by decide +kernel
theorem d5006_126 : decode (jm_b 5006) 126 = .ok (.lconst 0, 1) := by decide +kernel
theorem d5006_127 : decode (jm_b 5006) 127 = .ok (.lreturn, 1) := by decide +kernel
theorem d5006_128 : decode (jm_b 5006) 128 = .ok (.lload_n 1, 1) := by decide +kernel
theorem d5006_129 : decode (jm_b 5006) 129 = .ok (.lload_n 3, 1) := by decide +kernel
theorem d5006_130 : decode (jm_b 5006) 130 = .ok (.lcmp, 1) := by decide +kernel
theorem d5006_131 : decode (jm_b 5006) 131 = .ok (.ifCond .ne 7, 3) := by decide +kernel
theorem d5006_134 : decode (jm_b 5006) 134 = .ok (.lconst 1, 1) := by decide +kernel
theorem d5006_135 : decode (jm_b 5006) 135 = .ok (.goto 4, 3) := by decide +kernel
theorem d5006_138 : decode (jm_b 5006) 138 = .ok (.lconst 0, 1) := by decide +kernel
theorem d5006_139 : decode (jm_b 5006) 139 = .ok (.lreturn, 1) := by decide +kernel
theorem d5006_140 : decode (jm_b 5006) 140 = .ok (.lload_n 1, 1) := by decide +kernel
theorem d5006_141 : decode (jm_b 5006) 141 = .ok (.lload_n 3, 1) := by decide +kernel
theorem d5006_142 : decode (jm_b 5006) 142 = .ok (.lcmp, 1) := by decide +kernel
theorem d5006_143 : decode (jm_b 5006) 143 = .ok (.ifCond .lt 7, 3) := by decide +kernel
theorem d5006_146 : decode (jm_b 5006) 146 = .ok (.lconst 1, 1) := by decide +kernel
theorem d5006_147 : decode (jm_b 5006) 147 = .ok (.goto 4, 3) := by decide +kernel
theorem d5006_150 : decode (jm_b 5006) 150 = .ok (.lconst 0, 1) := by decide +kernel
theorem d5006_151 : decode (jm_b 5006) 151 = .ok (.lreturn, 1) := by decide +kernel
theorem d5006_152 : decode (jm_b 5006) 152 = .ok (.lload_n 1, 1) := by decide +kernel
theorem d5006_153 : decode (jm_b 5006) 153 = .ok (.lload_n 3, 1) := by decide +kernel
theorem d5006_154 : decode (jm_b 5006) 154 = .ok (.lcmp, 1) := by decide +kernel
theorem d5006_155 : decode (jm_b 5006) 155 = .ok (.ifCond .le 7, 3) := by decide +kernel
theorem d5006_158 : decode (jm_b 5006) 158 = .ok (.lconst 1, 1) := by decide +kernel
theorem d5006_159 : decode (jm_b 5006) 159 = .ok (.goto 4, 3) := by decide +kernel
theorem d5006_162 : decode (jm_b 5006) 162 = .ok (.lconst 0, 1) := by decide +kernel
theorem d5006_163 : decode (jm_b 5006) 163 = .ok (.lreturn, 1) := by decide +kernel
theorem d5006_164 : decode (jm_b 5006) 164 = .ok (.lload_n 1, 1) := by decide +kernel
theorem d5006_165 : decode (jm_b 5006) 165 = .ok (.lload_n 3, 1) := by decide +kernel
theorem d5006_166 : decode (jm_b 5006) 166 = .ok (.land, 1) := by decide +kernel
theorem d5006_167 : decode (jm_b 5006) 167 = .ok (.lreturn, 1) := by decide +kernel
theorem d5006_168 : decode (jm_b 5006) 168 = .ok (.lload_n 1, 1) := by decide +kernel
theorem d5006_169 : decode (jm_b 5006) 169 = .ok (.lload_n 3, 1) := by decide +kernel
theorem d5006_170 : decode (jm_b 5006) 170 = .ok (.lor, 1) := by decide +kernel
theorem d5006_171 : decode (jm_b 5006) 171 = .ok (.lreturn, 1) := by decide +kernel
theorem d5006_172 : decode (jm_b 5006) 172 = .ok (.lconst 0, 1) := by decide +kernel
theorem d5006_173 : decode (jm_b 5006) 173 = .ok (.lreturn, 1) := by decide +kernel
theorem d4004_0 : decode (jm_b 4004) 0 = .ok (.aload_n 0, 1) := by decide +kernel
theorem d4004_1 : decode (jm_b 4004) 1 = .ok (.getfield 9, 3) := by decide +kernel
theorem d4004_4 : decode (jm_b 4004) 4 = .ok (.iload_n 1, 1) := by decide +kernel
theorem d4004_5 : decode (jm_b 4004) 5 = .ok (.aload_n 0, 1) := by decide +kernel
theorem d4004_6 : decode (jm_b 4004) 6 = .ok (.getfield 9, 3) := by decide +kernel
theorem d4004_9 : decode (jm_b 4004) 9 = .ok (.iload_n 1, 1) := by decide +kernel
theorem d4004_10 : decode (jm_b 4004) 10 = .ok (.iaload, 1) := by decide +kernel
theorem d4004_11 : decode (jm_b 4004) 11 = .ok (.iload_n 2, 1) := by decide +kernel
theorem d4004_12 : decode (jm_b 4004) 12 = .ok (.iadd, 1) := by decide +kernel
theorem d4004_13 : decode (jm_b 4004) 13 = .ok (.bipush (-20), 2) := by decide +kernel
theorem d4004_15 : decode (jm_b 4004) 15 = .ok (.bipush 20, 2) := by decide +kernel
theorem d4004_17 : decode (jm_b 4004) 17 = .ok (.invokestatic 37, 3) := by decide +kernel
theorem d4004_20 : decode (jm_b 4004) 20 = .ok (.iastore, 1) := by decide +kernel
theorem d4004_21 : decode (jm_b 4004) 21 = .ok (.return_, 1) := by decide +kernel
theorem d8006_0 : decode (jm_b 8006) 0 = .ok (.iconst 0, 1) := by decide +kernel
theorem d8006_1 : decode (jm_b 8006) 1 = .ok (.istore_n 2, 1) := by decide +kernel
theorem d8006_2 : decode (jm_b 8006) 2 = .ok (.iload_n 2, 1) := by decide +kernel
theorem d8006_3 : decode (jm_b 8006) 3 = .ok (.iconst 1, 1) := by decide +kernel
theorem d8006_4 : decode (jm_b 8006) 4 = .ok (.iadd, 1) := by decide +kernel
theorem d8006_5 : decode (jm_b 8006) 5 = .ok (.aload_n 0, 1) := by decide +kernel
theorem d8006_6 : decode (jm_b 8006) 6 = .ok (.getfield 12, 3) := by decide +kernel
theorem d8006_9 : decode (jm_b 8006) 9 = .ok (.getfield 50, 3) := by decide +kernel
theorem d8006_12 : decode (jm_b 8006) 12 = .ok (.if_icmp .ge 97, 3) := by decide +kernel
theorem d8006_15 : decode (jm_b 8006) 15 = .ok (.aload_n 1, 1) := by decide +kernel
theorem d8006_16 : decode (jm_b 8006) 16 = .ok (.getfield 102, 3) := by decide +kernel
theorem d8006_19 : decode (jm_b 8006) 19 = .ok (.iload_n 2, 1) := by decide +kernel
theorem d8006_20 : decode (jm_b 8006) 20 = .ok (.iaload, 1) := by decide +kernel
theorem d8006_21 : decode (jm_b 8006) 21 = .ok (.aload_n 1, 1) := by decide +kernel
theorem d8006_22 : decode (jm_b 8006) 22 = .ok (.getfield 102, 3) := by decide +kernel
theorem d8006_25 : decode (jm_b 8006) 25 = .ok (.iload_n 2, 1) := by decide +kernel
theorem d8006_26 : decode (jm_b 8006) 26 = .ok (.iconst 1, 1) := by decide +kernel
theorem d8006_27 : decode (jm_b 8006) 27 = .ok (.iadd, 1) := by decide +kernel
theorem d8006_28 : decode (jm_b 8006) 28 = .ok (.iaload, 1) := by decide +kernel
theorem d8006_29 : decode (jm_b 8006) 29 = .ok (.isub, 1) := by decide +kernel
theorem d8006_30 : decode (jm_b 8006) 30 = .ok (.istore_n 3, 1) := by decide +kernel
theorem d8006_31 : decode (jm_b 8006) 31 = .ok (.iload_n 3, 1) := by decide +kernel
theorem d8006_32 : decode (jm_b 8006) 32 = .ok (.iconst 4, 1) := by decide +kernel
theorem d8006_33 : decode (jm_b 8006) 33 = .ok (.if_icmp .gt 9, 3) := by decide +kernel
theorem d8006_36 : decode (jm_b 8006) 36 = .ok (.iload_n 3, 1) := by decide +kernel
theorem d8006_37 : decode (jm_b 8006) 37 = .ok (.bipush (-4), 2) := by decide +kernel
theorem d8006_39 : decode (jm_b 8006) 39 = .ok (.if_icmp .ge 64, 3) := by decide +kernel
theorem d8006_42 : decode (jm_b 8006) 42 = .ok (.iload_n 3, 1) := by decide +kernel
theorem d8006_43 : decode (jm_b 8006) 43 = .ok (.ifCond .le 7, 3) := by decide +kernel
theorem d8006_46 : decode (jm_b 8006) 46 = .ok (.iconst (-1), 1) := by decide +kernel
theorem d8006_47 : decode (jm_b 8006) 47 = .ok (.goto 4, 3) := by decide +kernel
theorem d8006_50 : decode (jm_b 8006) 50 = .ok (.iconst 1, 1) := by decide +kernel
theorem d8006_51 : decode (jm_b 8006) 51 = .ok (.istore 4, 2) := by decide +kernel
theorem d8006_53 : decode (jm_b 8006) 53 = .ok (.aload_n 1, 1) := by decide +kernel
theorem d8006_54 : decode (jm_b 8006) 54 = .ok (.getfield 102, 3) := by decide +kernel
theorem d8006_57 : decode (jm_b 8006) 57 = .ok (.iload_n 2, 1) := by decide +kernel
theorem d8006_58 : decode (jm_b 8006) 58 = .ok (.dup2, 1) := by decide +kernel
theorem d8006_59 : decode (jm_b 8006) 59 = .ok (.iaload, 1) := by decide +kernel
theorem d8006_60 : decode (jm_b 8006) 60 = .ok (.aload_n 1, 1) := by decide +kernel
theorem d8006_61 : decode (jm_b 8006) 61 = .ok (.iload_n 2, 1) := by decide +kernel
theorem d8006_62 : decode (jm_b 8006) 62 = .ok (.invokevirtual 53, 3) := by decide +kernel
theorem d8006_65 : decode (jm_b 8006) 65 = .ok (.ifCond .eq 7, 3) := by decide +kernel
theorem d8006_68 : decode (jm_b 8006) 68 = .ok (.iconst 0, 1) := by decide +kernel
theorem d8006_69 : decode (jm_b 8006) 69 = .ok (.goto 5, 3) := by decide +kernel
theorem d8006_72 : decode (jm_b 8006) 72 = .ok (.iload 4, 2) := by decide +kernel
theorem d8006_74 : decode (jm_b 8006) 74 = .ok (.iadd, 1) := by decide +kernel
theorem d8006_75 : decode (jm_b 8006) 75 = .ok (.iastore, 1) := by decide +kernel
theorem d8006_76 : decode (jm_b 8006) 76 = .ok (.aload_n 1, 1) := by decide +kernel
theorem d8006_77 : decode (jm_b 8006) 77 = .ok (.getfield 102, 3) := by decide +kernel
theorem d8006_80 : decode (jm_b 8006) 80 = .ok (.iload_n 2, 1) := by decide +kernel
theorem d8006_81 : decode (jm_b 8006) 81 = .ok (.iconst 1, 1) := by decide +kernel
theorem d8006_82 : decode (jm_b 8006) 82 = .ok (.iadd, 1) := by decide +kernel
theorem d8006_83 : decode (jm_b 8006) 83 = .ok (.dup2, 1) := by decide +kernel
theorem d8006_84 : decode (jm_b 8006) 84 = .ok (.iaload, 1) := by decide +kernel
theorem d8006_85 : decode (jm_b 8006) 85 = .ok (.aload_n 1, 1) := by decide +kernel
theorem d8006_86 : decode (jm_b 8006) 86 = .ok (.iload_n 2, 1) := by decide +kernel
theorem d8006_87 : decode (jm_b 8006) 87 = .ok (.iconst 1, 1) := by decide +kernel
theorem d8006_88 : decode (jm_b 8006) 88 = .ok (.iadd, 1) := by decide +kernel
theorem d8006_89 : decode (jm_b 8006) 89 = .ok (.invokevirtual 53, 3) := by decide +kernel
theorem d8006_92 : decode (jm_b 8006) 92 = .ok (.ifCond .eq 7, 3) := by decide +kernel
theorem d8006_95 : decode (jm_b 8006) 95 = .ok (.iconst 0, 1) := by decide +kernel
theorem d8006_96 : decode (jm_b 8006) 96 = .ok (.goto 5, 3) := by decide +kernel
theorem d8006_99 : decode (jm_b 8006) 99 = .ok (.iload 4, 2) := by decide +kernel
theorem d8006_101 : decode (jm_b 8006) 101 = .ok (.isub, 1) := by decide +kernel
theorem d8006_102 : decode (jm_b 8006) 102 = .ok (.iastore, 1) := by decide +kernel
theorem d8006_103 : decode (jm_b 8006) 103 = .ok (.iinc 2 1, 3) := by decide +kernel
theorem d8006_106 : decode (jm_b 8006) 106 = .ok (.goto (-104), 3) := by decide +kernel
theorem d8006_109 : decode (jm_b 8006) 109 = .ok (.return_, 1) := by decide +kernel
theorem d17_0 : decode (jm_b 17) 0 = .ok (.iload_n 0, 1) := by decide +kernel
theorem d17_1 : decode (jm_b 17) 1 = .ok (.iload_n 1, 1) := by decide +kernel
theorem d17_2 : decode (jm_b 17) 2 = .ok (.ixor, 1) := by decide +kernel
theorem d17_3 : decode (jm_b 17) 3 = .ok (.istore_n 2, 1) := by decide +kernel
theorem d17_4 : decode (jm_b 17) 4 = .ok (.iload_n 2, 1) := by decide +kernel
theorem d17_5 : decode (jm_b 17) 5 = .ok (.invokestatic 329, 3) := by decide +kernel
theorem d17_8 : decode (jm_b 17) 8 = .ok (.iload_n 2, 1) := by decide +kernel
theorem d17_9 : decode (jm_b 17) 9 = .ok (.invokestatic 230, 3) := by decide +kernel
theorem d17_12 : decode (jm_b 17) 12 = .ok (.ior, 1) := by decide +kernel
theorem d17_13 : decode (jm_b 17) 13 = .ok (.ireturn, 1) := by decide +kernel
theorem d4005_0 : decode (jm_b 4005) 0 = .ok (.iconst 0, 1) := by decide +kernel
theorem d4005_1 : decode (jm_b 4005) 1 = .ok (.istore_n 2, 1) := by decide +kernel
theorem d4005_2 : decode (jm_b 4005) 2 = .ok (.iload_n 2, 1) := by decide +kernel
theorem d4005_3 : decode (jm_b 4005) 3 = .ok (.bipush 8, 2) := by decide +kernel
theorem d4005_5 : decode (jm_b 4005) 5 = .ok (.if_icmp .ge 29, 3) := by decide +kernel
theorem d4005_8 : decode (jm_b 4005) 8 = .ok (.iload_n 1, 1) := by decide +kernel
theorem d4005_9 : decode (jm_b 4005) 9 = .ok (.iload_n 2, 1) := by decide +kernel
theorem d4005_10 : decode (jm_b 4005) 10 = .ok (.ishr, 1) := by decide +kernel
theorem d4005_11 : decode (jm_b 4005) 11 = .ok (.ifCond .eq 23, 3) := by decide +kernel
theorem d4005_14 : decode (jm_b 4005) 14 = .ok (.aload_n 0, 1) := by decide +kernel
theorem d4005_15 : decode (jm_b 4005) 15 = .ok (.getfield 21, 3) := by decide +kernel
theorem d4005_18 : decode (jm_b 4005) 18 = .ok (.iload_n 2, 1) := by decide +kernel
theorem d4005_19 : decode (jm_b 4005) 19 = .ok (.dup2, 1) := by decide +kernel
theorem d4005_20 : decode (jm_b 4005) 20 = .ok (.iaload, 1) := by decide +kernel
theorem d4005_21 : decode (jm_b 4005) 21 = .ok (.iload_n 1, 1) := by decide +kernel
theorem d4005_22 : decode (jm_b 4005) 22 = .ok (.iload_n 2, 1) := by decide +kernel
theorem d4005_23 : decode (jm_b 4005) 23 = .ok (.ishr, 1) := by decide +kernel
theorem d4005_24 : decode (jm_b 4005) 24 = .ok (.iconst 1, 1) := by decide +kernel
theorem d4005_25 : decode (jm_b 4005) 25 = .ok (.iand, 1) := by decide +kernel
theorem d4005_26 : decode (jm_b 4005) 26 = .ok (.iadd, 1) := by decide +kernel
theorem d4005_27 : decode (jm_b 4005) 27 = .ok (.iastore, 1) := by decide +kernel
theorem d4005_28 : decode (jm_b 4005) 28 = .ok (.iinc 2 1, 3) := by decide +kernel
theorem d4005_31 : decode (jm_b 4005) 31 = .ok (.goto (-29), 3) := by decide +kernel
theorem d4005_34 : decode (jm_b 4005) 34 = .ok (.return_, 1) := by decide +kernel
theorem d18_0 : decode (jm_b 18) 0 = .ok (.aload_n 0, 1) := by decide +kernel
theorem d18_1 : decode (jm_b 18) 1 = .ok (.iload_n 1, 1) := by decide +kernel
theorem d18_2 : decode (jm_b 18) 2 = .ok (.invokevirtual 191, 3) := by decide +kernel
theorem d18_5 : decode (jm_b 18) 5 = .ok (.ifCond .eq 18, 3) := by decide +kernel
theorem d18_8 : decode (jm_b 18) 8 = .ok (.iload_n 2, 1) := by decide +kernel
theorem d18_9 : decode (jm_b 18) 9 = .ok (.ifCond .eq 14, 3) := by decide +kernel
theorem d18_12 : decode (jm_b 18) 12 = .ok (.iload_n 2, 1) := by decide +kernel
theorem d18_13 : decode (jm_b 18) 13 = .ok (.bipush (-3), 2) := by decide +kernel
theorem d18_15 : decode (jm_b 18) 15 = .ok (.if_icmp .lt 8, 3) := by decide +kernel
theorem d18_18 : decode (jm_b 18) 18 = .ok (.iload_n 2, 1) := by decide +kernel
theorem d18_19 : decode (jm_b 18) 19 = .ok (.iconst 3, 1) := by decide +kernel
theorem d18_20 : decode (jm_b 18) 20 = .ok (.if_icmp .le 6, 3) := by decide +kernel
theorem d18_23 : decode (jm_b 18) 23 = .ok (.bipush (-100), 2) := by decide +kernel
theorem d18_25 : decode (jm_b 18) 25 = .ok (.ireturn, 1) := by decide +kernel
theorem d18_26 : decode (jm_b 18) 26 = .ok (.aload_n 0, 1) := by decide +kernel
theorem d18_27 : decode (jm_b 18) 27 = .ok (.getfield 41, 3) := by decide +kernel
theorem d18_30 : decode (jm_b 18) 30 = .ok (.invokevirtual 180, 3) := by decide +kernel
theorem d18_33 : decode (jm_b 18) 33 = .ok (.aload_n 0, 1) := by decide +kernel
theorem d18_34 : decode (jm_b 18) 34 = .ok (.getfield 41, 3) := by decide +kernel
theorem d18_37 : decode (jm_b 18) 37 = .ok (.getfield 143, 3) := by decide +kernel
theorem d18_40 : decode (jm_b 18) 40 = .ok (.aload_n 0, 1) := by decide +kernel
theorem d18_41 : decode (jm_b 18) 41 = .ok (.getfield 41, 3) := by decide +kernel
theorem d18_44 : decode (jm_b 18) 44 = .ok (.getfield 124, 3) := by decide +kernel
theorem d18_47 : decode (jm_b 18) 47 = .ok (.invokevirtual 194, 3) := by decide +kernel
theorem d18_50 : decode (jm_b 18) 50 = .ok (.istore_n 3, 1) := by decide +kernel
theorem d18_51 : decode (jm_b 18) 51 = .ok (.aload_n 0, 1) := by decide +kernel
theorem d18_52 : decode (jm_b 18) 52 = .ok (.getfield 41, 3) := by decide +kernel
theorem d18_55 : decode (jm_b 18) 55 = .ok (.getfield 124, 3) := by decide +kernel
theorem d18_58 : decode (jm_b 18) 58 = .ok (.iload_n 1, 1) := by decide +kernel
theorem d18_59 : decode (jm_b 18) 59 = .ok (.iload_n 2, 1) := by decide +kernel
theorem d18_60 : decode (jm_b 18) 60 = .ok (.invokevirtual 198, 3) := by decide +kernel
theorem d18_63 : decode (jm_b 18) 63 = .ok (.aload_n 0, 1) := by decide +kernel
theorem d18_64 : decode (jm_b 18) 64 = .ok (.getfield 41, 3) := by decide +kernel
theorem d18_67 : decode (jm_b 18) 67 = .ok (.getfield 124, 3) := by decide +kernel
theorem d18_70 : decode (jm_b 18) 70 = .ok (.iload_n 3, 1) := by decide +kernel
theorem d18_71 : decode (jm_b 18) 71 = .ok (.aload_n 0, 1) := by decide +kernel
theorem d18_72 : decode (jm_b 18) 72 = .ok (.getfield 41, 3) := by decide +kernel
theorem d18_75 : decode (jm_b 18) 75 = .ok (.getfield 143, 3) := by decide +kernel
theorem d18_78 : decode (jm_b 18) 78 = .ok (.aload_n 0, 1) := by decide +kernel
theorem d18_79 : decode (jm_b 18) 79 = .ok (.getfield 41, 3) := by decide +kernel
theorem d18_82 : decode (jm_b 18) 82 = .ok (.getfield 124, 3) := by decide +kernel
theorem d18_85 : decode (jm_b 18) 85 = .ok (.invokevirtual 194, 3) := by decide +kernel
theorem d18_88 : decode (jm_b 18) 88 = .ok (.invokestatic 202, 3) := by decide +kernel
theorem d18_91 : decode (jm_b 18) 91 = .ok (.invokevirtual 206, 3) := by decide +kernel
theorem d18_94 : decode (jm_b 18) 94 = .ok (.aload_n 0, 1) := by decide +kernel
theorem d18_95 : decode (jm_b 18) 95 = .ok (.getfield 41, 3) := by decide +kernel
theorem d18_98 : decode (jm_b 18) 98 = .ok (.getfield 124, 3) := by decide +kernel
theorem d18_101 : decode (jm_b 18) 101 = .ok (.getfield 128, 3) := by decide +kernel
theorem d18_104 : decode (jm_b 18) 104 = .ok (.iload_n 1, 1) := by decide +kernel
theorem d18_105 : decode (jm_b 18) 105 = .ok (.iaload, 1) := by decide +kernel
theorem d18_106 : decode (jm_b 18) 106 = .ok (.ireturn, 1) := by decide +kernel
theorem d19_0 : decode (jm_b 19) 0 = .ok (.aload_n 0, 1) := by decide +kernel
theorem d19_1 : decode (jm_b 19) 1 = .ok (.iload_n 1, 1) := by decide +kernel
theorem d19_2 : decode (jm_b 19) 2 = .ok (.invokevirtual 120, 3) := by decide +kernel
theorem d19_5 : decode (jm_b 19) 5 = .ok (.ifCond .eq 21, 3) := by decide +kernel
theorem d19_8 : decode (jm_b 19) 8 = .ok (.aload_n 0, 1) := by decide +kernel
theorem d19_9 : decode (jm_b 19) 9 = .ok (.getfield 41, 3) := by decide +kernel
theorem d19_12 : decode (jm_b 19) 12 = .ok (.getfield 124, 3) := by decide +kernel
theorem d19_15 : decode (jm_b 19) 15 = .ok (.iload_n 1, 1) := by decide +kernel
theorem d19_16 : decode (jm_b 19) 16 = .ok (.invokevirtual 140, 3) := by decide +kernel
theorem d19_19 : decode (jm_b 19) 19 = .ok (.ifCond .ne 7, 3) := by decide +kernel
theorem d19_22 : decode (jm_b 19) 22 = .ok (.iconst 1, 1) := by decide +kernel
theorem d19_23 : decode (jm_b 19) 23 = .ok (.goto 4, 3) := by decide +kernel
theorem d19_26 : decode (jm_b 19) 26 = .ok (.iconst 0, 1) := by decide +kernel
theorem d19_27 : decode (jm_b 19) 27 = .ok (.ireturn, 1) := by decide +kernel
theorem d20_0 : decode (jm_b 20) 0 = .ok (.aload_n 0, 1) := by decide +kernel
theorem d20_1 : decode (jm_b 20) 1 = .ok (.iload_n 1, 1) := by decide +kernel
theorem d20_2 : decode (jm_b 20) 2 = .ok (.invokevirtual 120, 3) := by decide +kernel
theorem d20_5 : decode (jm_b 20) 5 = .ok (.ifCond .eq 20, 3) := by decide +kernel
theorem d20_8 : decode (jm_b 20) 8 = .ok (.aload_n 0, 1) := by decide +kernel
theorem d20_9 : decode (jm_b 20) 9 = .ok (.getfield 41, 3) := by decide +kernel
theorem d20_12 : decode (jm_b 20) 12 = .ok (.getfield 124, 3) := by decide +kernel
theorem d20_15 : decode (jm_b 20) 15 = .ok (.getfield 137, 3) := by decide +kernel
theorem d20_18 : decode (jm_b 20) 18 = .ok (.iload_n 1, 1) := by decide +kernel
theorem d20_19 : decode (jm_b 20) 19 = .ok (.iaload, 1) := by decide +kernel
theorem d20_20 : decode (jm_b 20) 20 = .ok (.bipush 9, 2) := by decide +kernel
theorem d20_22 : decode (jm_b 20) 22 = .ok (.if_icmp .lt 5, 3) := by decide +kernel
theorem d20_25 : decode (jm_b 20) 25 = .ok (.iconst (-1), 1) := by decide +kernel
theorem d20_26 : decode (jm_b 20) 26 = .ok (.ireturn, 1) := by decide +kernel
theorem d20_27 : decode (jm_b 20) 27 = .ok (.aload_n 0, 1) := by decide +kernel
theorem d20_28 : decode (jm_b 20) 28 = .ok (.getfield 41, 3) := by decide +kernel
theorem d20_31 : decode (jm_b 20) 31 = .ok (.invokevirtual 180, 3) := by decide +kernel
theorem d20_34 : decode (jm_b 20) 34 = .ok (.aload_n 0, 1) := by decide +kernel
theorem d20_35 : decode (jm_b 20) 35 = .ok (.getfield 41, 3) := by decide +kernel
theorem d20_38 : decode (jm_b 20) 38 = .ok (.getfield 124, 3) := by decide +kernel
theorem d20_41 : decode (jm_b 20) 41 = .ok (.getfield 137, 3) := by decide +kernel
theorem d20_44 : decode (jm_b 20) 44 = .ok (.iload_n 1, 1) := by decide +kernel
theorem d20_45 : decode (jm_b 20) 45 = .ok (.dup2, 1) := by decide +kernel
theorem d20_46 : decode (jm_b 20) 46 = .ok (.iaload, 1) := by decide +kernel
theorem d20_47 : decode (jm_b 20) 47 = .ok (.iconst 1, 1) := by decide +kernel
theorem d20_48 : decode (jm_b 20) 48 = .ok (.iadd, 1) := by decide +kernel
theorem d20_49 : decode (jm_b 20) 49 = .ok (.iastore, 1) := by decide +kernel
theorem d20_50 : decode (jm_b 20) 50 = .ok (.aload_n 0, 1) := by decide +kernel
theorem d20_51 : decode (jm_b 20) 51 = .ok (.getfield 41, 3) := by decide +kernel
theorem d20_54 : decode (jm_b 20) 54 = .ok (.getfield 124, 3) := by decide +kernel
theorem d20_57 : decode (jm_b 20) 57 = .ok (.getfield 137, 3) := by decide +kernel
theorem d20_60 : decode (jm_b 20) 60 = .ok (.iload_n 1, 1) := by decide +kernel
theorem d20_61 : decode (jm_b 20) 61 = .ok (.iaload, 1) := by decide +kernel
theorem d20_62 : decode (jm_b 20) 62 = .ok (.ireturn, 1) := by decide +kernel
theorem d21_0 : decode (jm_b 21) 0 = .ok (.aload_n 0, 1) := by decide +kernel
theorem d21_1 : decode (jm_b 21) 1 = .ok (.iload_n 1, 1) := by decide +kernel
theorem d21_2 : decode (jm_b 21) 2 = .ok (.invokevirtual 191, 3) := by decide +kernel
theorem d21_5 : decode (jm_b 21) 5 = .ok (.ifCond .ne 5, 3) := by decide +kernel
theorem d21_8 : decode (jm_b 21) 8 = .ok (.iconst (-1), 1) := by decide +kernel
theorem d21_9 : decode (jm_b 21) 9 = .ok (.ireturn, 1) := by decide +kernel
theorem d21_10 : decode (jm_b 21) 10 = .ok (.aload_n 0, 1) := by decide +kernel
theorem d21_11 : decode (jm_b 21) 11 = .ok (.getfield 41, 3) := by decide +kernel
theorem d21_14 : decode (jm_b 21) 14 = .ok (.invokevirtual 180, 3) := by decide +kernel
theorem d21_17 : decode (jm_b 21) 17 = .ok (.aload_n 0, 1) := by decide +kernel
theorem d21_18 : decode (jm_b 21) 18 = .ok (.getfield 41, 3) := by decide +kernel
theorem d21_21 : decode (jm_b 21) 21 = .ok (.getfield 124, 3) := by decide +kernel
theorem d21_24 : decode (jm_b 21) 24 = .ok (.getfield 137, 3) := by decide +kernel
theorem d21_27 : decode (jm_b 21) 27 = .ok (.iload_n 1, 1) := by decide +kernel
theorem d21_28 : decode (jm_b 21) 28 = .ok (.aload_n 0, 1) := by decide +kernel
theorem d21_29 : decode (jm_b 21) 29 = .ok (.getfield 41, 3) := by decide +kernel
theorem d21_32 : decode (jm_b 21) 32 = .ok (.getfield 124, 3) := by decide +kernel
theorem d21_35 : decode (jm_b 21) 35 = .ok (.getfield 137, 3) := by decide +kernel
theorem d21_38 : decode (jm_b 21) 38 = .ok (.iload_n 1, 1) := by decide +kernel
theorem d21_39 : decode (jm_b 21) 39 = .ok (.iaload, 1) := by decide +kernel
theorem d21_40 : decode (jm_b 21) 40 = .ok (.iconst 1, 1) := by decide +kernel
theorem d21_41 : decode (jm_b 21) 41 = .ok (.isub, 1) := by decide +kernel
theorem d21_42 : decode (jm_b 21) 42 = .ok (.iconst 0, 1) := by decide +kernel
theorem d21_43 : decode (jm_b 21) 43 = .ok (.invokestatic 209, 3) := by decide +kernel
theorem d21_46 : decode (jm_b 21) 46 = .ok (.iastore, 1) := by decide +kernel
theorem d21_47 : decode (jm_b 21) 47 = .ok (.aload_n 0, 1) := by decide +kernel
theorem d21_48 : decode (jm_b 21) 48 = .ok (.getfield 41, 3) := by decide +kernel
theorem d21_51 : decode (jm_b 21) 51 = .ok (.getfield 124, 3) := by decide +kernel
theorem d21_54 : decode (jm_b 21) 54 = .ok (.getfield 134, 3) := by decide +kernel
theorem d21_57 : decode (jm_b 21) 57 = .ok (.iload_n 1, 1) := by decide +kernel
theorem d21_58 : decode (jm_b 21) 58 = .ok (.aload_n 0, 1) := by decide +kernel
theorem d21_59 : decode (jm_b 21) 59 = .ok (.getfield 41, 3) := by decide +kernel
theorem d21_62 : decode (jm_b 21) 62 = .ok (.getfield 124, 3) := by decide +kernel
theorem d21_65 : decode (jm_b 21) 65 = .ok (.getfield 134, 3) := by decide +kernel
theorem d21_68 : decode (jm_b 21) 68 = .ok (.iload_n 1, 1) := by decide +kernel
theorem d21_69 : decode (jm_b 21) 69 = .ok (.iaload, 1) := by decide +kernel
theorem d21_70 : decode (jm_b 21) 70 = .ok (.bipush 10, 2) := by decide +kernel
theorem d21_72 : decode (jm_b 21) 72 = .ok (.iadd, 1) := by decide +kernel
theorem d21_73 : decode (jm_b 21) 73 = .ok (.bipush 99, 2) := by decide +kernel
theorem d21_75 : decode (jm_b 21) 75 = .ok (.invokestatic 214, 3) := by decide +kernel
theorem d21_78 : decode (jm_b 21) 78 = .ok (.iastore, 1) := by decide +kernel
theorem d21_79 : decode (jm_b 21) 79 = .ok (.aload_n 0, 1) := by decide +kernel
theorem d21_80 : decode (jm_b 21) 80 = .ok (.getfield 41, 3) := by decide +kernel
theorem d21_83 : decode (jm_b 21) 83 = .ok (.getfield 124, 3) := by decide +kernel
theorem d21_86 : decode (jm_b 21) 86 = .ok (.getfield 134, 3) := by decide +kernel
theorem d21_89 : decode (jm_b 21) 89 = .ok (.iload_n 1, 1) := by decide +kernel
theorem d21_90 : decode (jm_b 21) 90 = .ok (.iaload, 1) := by decide +kernel
theorem d21_91 : decode (jm_b 21) 91 = .ok (.ireturn, 1) := by decide +kernel
