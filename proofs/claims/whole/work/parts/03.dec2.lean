/-! decode rows (by program) -/
theorem d22_0 : decode (jm_b 22) 0 = .ok (.aload_n 0, 1) := by decide +kernel
theorem d22_1 : decode (jm_b 22) 1 = .ok (.iload_n 1, 1) := by decide +kernel
theorem d22_2 : decode (jm_b 22) 2 = .ok (.invokevirtual 191, 3) := by decide +kernel
theorem d22_5 : decode (jm_b 22) 5 = .ok (.ifCond .eq 24, 3) := by decide +kernel
theorem d22_8 : decode (jm_b 22) 8 = .ok (.iload_n 2, 1) := by decide +kernel
theorem d22_9 : decode (jm_b 22) 9 = .ok (.iconst 1, 1) := by decide +kernel
theorem d22_10 : decode (jm_b 22) 10 = .ok (.if_icmp .lt 19, 3) := by decide +kernel
theorem d22_13 : decode (jm_b 22) 13 = .ok (.iload_n 2, 1) := by decide +kernel
theorem d22_14 : decode (jm_b 22) 14 = .ok (.aload_n 0, 1) := by decide +kernel
theorem d22_15 : decode (jm_b 22) 15 = .ok (.getfield 41, 3) := by decide +kernel
theorem d22_18 : decode (jm_b 22) 18 = .ok (.getfield 124, 3) := by decide +kernel
theorem d22_21 : decode (jm_b 22) 21 = .ok (.getfield 134, 3) := by decide +kernel
theorem d22_24 : decode (jm_b 22) 24 = .ok (.iload_n 1, 1) := by decide +kernel
theorem d22_25 : decode (jm_b 22) 25 = .ok (.iaload, 1) := by decide +kernel
theorem d22_26 : decode (jm_b 22) 26 = .ok (.if_icmp .le 5, 3) := by decide +kernel
theorem d22_29 : decode (jm_b 22) 29 = .ok (.iconst (-1), 1) := by decide +kernel
theorem d22_30 : decode (jm_b 22) 30 = .ok (.ireturn, 1) := by decide +kernel
theorem d22_31 : decode (jm_b 22) 31 = .ok (.aload_n 0, 1) := by decide +kernel
theorem d22_32 : decode (jm_b 22) 32 = .ok (.getfield 41, 3) := by decide +kernel
theorem d22_35 : decode (jm_b 22) 35 = .ok (.invokevirtual 180, 3) := by decide +kernel
theorem d22_38 : decode (jm_b 22) 38 = .ok (.aload_n 0, 1) := by decide +kernel
theorem d22_39 : decode (jm_b 22) 39 = .ok (.getfield 41, 3) := by decide +kernel
theorem d22_42 : decode (jm_b 22) 42 = .ok (.getfield 124, 3) := by decide +kernel
theorem d22_45 : decode (jm_b 22) 45 = .ok (.getfield 134, 3) := by decide +kernel
theorem d22_48 : decode (jm_b 22) 48 = .ok (.iload_n 1, 1) := by decide +kernel
theorem d22_49 : decode (jm_b 22) 49 = .ok (.dup2, 1) := by decide +kernel
theorem d22_50 : decode (jm_b 22) 50 = .ok (.iaload, 1) := by decide +kernel
theorem d22_51 : decode (jm_b 22) 51 = .ok (.iload_n 2, 1) := by decide +kernel
theorem d22_52 : decode (jm_b 22) 52 = .ok (.isub, 1) := by decide +kernel
theorem d22_53 : decode (jm_b 22) 53 = .ok (.iastore, 1) := by decide +kernel
theorem d22_54 : decode (jm_b 22) 54 = .ok (.aload_n 0, 1) := by decide +kernel
theorem d22_55 : decode (jm_b 22) 55 = .ok (.getfield 41, 3) := by decide +kernel
theorem d22_58 : decode (jm_b 22) 58 = .ok (.getfield 124, 3) := by decide +kernel
theorem d22_61 : decode (jm_b 22) 61 = .ok (.getfield 134, 3) := by decide +kernel
theorem d22_64 : decode (jm_b 22) 64 = .ok (.iload_n 1, 1) := by decide +kernel
theorem d22_65 : decode (jm_b 22) 65 = .ok (.iaload, 1) := by decide +kernel
theorem d22_66 : decode (jm_b 22) 66 = .ok (.ireturn, 1) := by decide +kernel
theorem d23_0 : decode (jm_b 23) 0 = .ok (.aload_n 0, 1) := by decide +kernel
theorem d23_1 : decode (jm_b 23) 1 = .ok (.iload_n 1, 1) := by decide +kernel
theorem d23_2 : decode (jm_b 23) 2 = .ok (.invokevirtual 191, 3) := by decide +kernel
theorem d23_5 : decode (jm_b 23) 5 = .ok (.ifCond .ne 5, 3) := by decide +kernel
theorem d23_8 : decode (jm_b 23) 8 = .ok (.iconst 0, 1) := by decide +kernel
theorem d23_9 : decode (jm_b 23) 9 = .ok (.ireturn, 1) := by decide +kernel
theorem d23_10 : decode (jm_b 23) 10 = .ok (.aload_n 0, 1) := by decide +kernel
theorem d23_11 : decode (jm_b 23) 11 = .ok (.getfield 41, 3) := by decide +kernel
theorem d23_14 : decode (jm_b 23) 14 = .ok (.invokevirtual 180, 3) := by decide +kernel
theorem d23_17 : decode (jm_b 23) 17 = .ok (.aload_n 0, 1) := by decide +kernel
theorem d23_18 : decode (jm_b 23) 18 = .ok (.getfield 41, 3) := by decide +kernel
theorem d23_21 : decode (jm_b 23) 21 = .ok (.getfield 124, 3) := by decide +kernel
theorem d23_24 : decode (jm_b 23) 24 = .ok (.dup, 1) := by decide +kernel
theorem d23_25 : decode (jm_b 23) 25 = .ok (.getfield 217, 3) := by decide +kernel
theorem d23_28 : decode (jm_b 23) 28 = .ok (.iconst 1, 1) := by decide +kernel
theorem d23_29 : decode (jm_b 23) 29 = .ok (.iload_n 1, 1) := by decide +kernel
theorem d23_30 : decode (jm_b 23) 30 = .ok (.ishl, 1) := by decide +kernel
theorem d23_31 : decode (jm_b 23) 31 = .ok (.ior, 1) := by decide +kernel
theorem d23_32 : decode (jm_b 23) 32 = .ok (.putfield 217, 3) := by decide +kernel
theorem d23_35 : decode (jm_b 23) 35 = .ok (.iconst 1, 1) := by decide +kernel
theorem d23_36 : decode (jm_b 23) 36 = .ok (.ireturn, 1) := by decide +kernel
theorem d24_0 : decode (jm_b 24) 0 = .ok (.aload_n 0, 1) := by decide +kernel
theorem d24_1 : decode (jm_b 24) 1 = .ok (.getfield 41, 3) := by decide +kernel
theorem d24_4 : decode (jm_b 24) 4 = .ok (.getfield 220, 3) := by decide +kernel
theorem d24_7 : decode (jm_b 24) 7 = .ok (.ifCond .ne 6, 3) := by decide +kernel
theorem d24_10 : decode (jm_b 24) 10 = .ok (.bipush (-2), 2) := by decide +kernel
theorem d24_12 : decode (jm_b 24) 12 = .ok (.ireturn, 1) := by decide +kernel
theorem d24_13 : decode (jm_b 24) 13 = .ok (.aload_n 0, 1) := by decide +kernel
theorem d24_14 : decode (jm_b 24) 14 = .ok (.getfield 41, 3) := by decide +kernel
theorem d24_17 : decode (jm_b 24) 17 = .ok (.invokevirtual 223, 3) := by decide +kernel
theorem d24_20 : decode (jm_b 24) 20 = .ok (.aload_n 0, 1) := by decide +kernel
theorem d24_21 : decode (jm_b 24) 21 = .ok (.getfield 41, 3) := by decide +kernel
theorem d24_24 : decode (jm_b 24) 24 = .ok (.getfield 220, 3) := by decide +kernel
theorem d24_27 : decode (jm_b 24) 27 = .ok (.ireturn, 1) := by decide +kernel
theorem d7004_0 : decode (jm_b 7004) 0 = .ok (.aload_n 0, 1) := by decide +kernel
theorem d7004_1 : decode (jm_b 7004) 1 = .ok (.getfield 61, 3) := by decide +kernel
theorem d7004_4 : decode (jm_b 7004) 4 = .ok (.ifCond .le 32, 3) := by decide +kernel
theorem d7004_7 : decode (jm_b 7004) 7 = .ok (.aload_n 0, 1) := by decide +kernel
theorem d7004_8 : decode (jm_b 7004) 8 = .ok (.dup, 1) := by decide +kernel
theorem d7004_9 : decode (jm_b 7004) 9 = .ok (.getfield 61, 3) := by decide +kernel
theorem d7004_12 : decode (jm_b 7004) 12 = .ok (.iconst 1, 1) := by decide +kernel
theorem d7004_13 : decode (jm_b 7004) 13 = .ok (.isub, 1) := by decide +kernel
theorem d7004_14 : decode (jm_b 7004) 14 = .ok (.putfield 61, 3) := by decide +kernel
theorem d7004_17 : decode (jm_b 7004) 17 = .ok (.aload_n 0, 1) := by decide +kernel
theorem d7004_18 : decode (jm_b 7004) 18 = .ok (.getfield 21, 3) := by decide +kernel
theorem d7004_21 : decode (jm_b 7004) 21 = .ok (.aload_n 0, 1) := by decide +kernel
theorem d7004_22 : decode (jm_b 7004) 22 = .ok (.getfield 39, 3) := by decide +kernel
theorem d7004_25 : decode (jm_b 7004) 25 = .ok (.aload_n 0, 1) := by decide +kernel
theorem d7004_26 : decode (jm_b 7004) 26 = .ok (.aload_n 0, 1) := by decide +kernel
theorem d7004_27 : decode (jm_b 7004) 27 = .ok (.getfield 61, 3) := by decide +kernel
theorem d7004_30 : decode (jm_b 7004) 30 = .ok (.invokevirtual 67, 3) := by decide +kernel
theorem d7004_33 : decode (jm_b 7004) 33 = .ok (.invokevirtual 75, 3) := by decide +kernel
theorem d7004_36 : decode (jm_b 7004) 36 = .ok (.return_, 1) := by decide +kernel
theorem d4006_0 : decode (jm_b 4006) 0 = .ok (.aload_n 1, 1) := by decide +kernel
theorem d4006_1 : decode (jm_b 4006) 1 = .ok (.iload_n 2, 1) := by decide +kernel
theorem d4006_2 : decode (jm_b 4006) 2 = .ok (.aload_n 0, 1) := by decide +kernel
theorem d4006_3 : decode (jm_b 4006) 3 = .ok (.getfield 9, 3) := by decide +kernel
theorem d4006_6 : decode (jm_b 4006) 6 = .ok (.iconst 0, 1) := by decide +kernel
theorem d4006_7 : decode (jm_b 4006) 7 = .ok (.bipush 10, 2) := by decide +kernel
theorem d4006_9 : decode (jm_b 4006) 9 = .ok (.invokestatic 24, 3) := by decide +kernel
theorem d4006_12 : decode (jm_b 4006) 12 = .ok (.aload_n 1, 1) := by decide +kernel
theorem d4006_13 : decode (jm_b 4006) 13 = .ok (.iload_n 2, 1) := by decide +kernel
theorem d4006_14 : decode (jm_b 4006) 14 = .ok (.bipush 10, 2) := by decide +kernel
theorem d4006_16 : decode (jm_b 4006) 16 = .ok (.iadd, 1) := by decide +kernel
theorem d4006_17 : decode (jm_b 4006) 17 = .ok (.aload_n 0, 1) := by decide +kernel
theorem d4006_18 : decode (jm_b 4006) 18 = .ok (.getfield 15, 3) := by decide +kernel
theorem d4006_21 : decode (jm_b 4006) 21 = .ok (.iconst 0, 1) := by decide +kernel
theorem d4006_22 : decode (jm_b 4006) 22 = .ok (.bipush 10, 2) := by decide +kernel
theorem d4006_24 : decode (jm_b 4006) 24 = .ok (.invokestatic 24, 3) := by decide +kernel
theorem d4006_27 : decode (jm_b 4006) 27 = .ok (.aload_n 1, 1) := by decide +kernel
theorem d4006_28 : decode (jm_b 4006) 28 = .ok (.iload_n 2, 1) := by decide +kernel
theorem d4006_29 : decode (jm_b 4006) 29 = .ok (.bipush 20, 2) := by decide +kernel
theorem d4006_31 : decode (jm_b 4006) 31 = .ok (.iadd, 1) := by decide +kernel
theorem d4006_32 : decode (jm_b 4006) 32 = .ok (.aload_n 0, 1) := by decide +kernel
theorem d4006_33 : decode (jm_b 4006) 33 = .ok (.getfield 18, 3) := by decide +kernel
theorem d4006_36 : decode (jm_b 4006) 36 = .ok (.iconst 0, 1) := by decide +kernel
theorem d4006_37 : decode (jm_b 4006) 37 = .ok (.bipush 10, 2) := by decide +kernel
theorem d4006_39 : decode (jm_b 4006) 39 = .ok (.invokestatic 24, 3) := by decide +kernel
theorem d4006_42 : decode (jm_b 4006) 42 = .ok (.aload_n 1, 1) := by decide +kernel
theorem d4006_43 : decode (jm_b 4006) 43 = .ok (.iload_n 2, 1) := by decide +kernel
theorem d4006_44 : decode (jm_b 4006) 44 = .ok (.bipush 30, 2) := by decide +kernel
theorem d4006_46 : decode (jm_b 4006) 46 = .ok (.iadd, 1) := by decide +kernel
theorem d4006_47 : decode (jm_b 4006) 47 = .ok (.aload_n 0, 1) := by decide +kernel
theorem d4006_48 : decode (jm_b 4006) 48 = .ok (.getfield 21, 3) := by decide +kernel
theorem d4006_51 : decode (jm_b 4006) 51 = .ok (.iconst 0, 1) := by decide +kernel
theorem d4006_52 : decode (jm_b 4006) 52 = .ok (.bipush 8, 2) := by decide +kernel
theorem d4006_54 : decode (jm_b 4006) 54 = .ok (.invokestatic 24, 3) := by decide +kernel
theorem d4006_57 : decode (jm_b 4006) 57 = .ok (.aload_n 0, 1) := by decide +kernel
theorem d4006_58 : decode (jm_b 4006) 58 = .ok (.aload_n 1, 1) := by decide +kernel
theorem d4006_59 : decode (jm_b 4006) 59 = .ok (.iload_n 2, 1) := by decide +kernel
theorem d4006_60 : decode (jm_b 4006) 60 = .ok (.bipush 40, 2) := by decide +kernel
theorem d4006_62 : decode (jm_b 4006) 62 = .ok (.iadd, 1) := by decide +kernel
theorem d4006_63 : decode (jm_b 4006) 63 = .ok (.iconst 2, 1) := by decide +kernel
theorem d4006_64 : decode (jm_b 4006) 64 = .ok (.isub, 1) := by decide +kernel
theorem d4006_65 : decode (jm_b 4006) 65 = .ok (.iaload, 1) := by decide +kernel
theorem d4006_66 : decode (jm_b 4006) 66 = .ok (.putfield 30, 3) := by decide +kernel
theorem d4006_69 : decode (jm_b 4006) 69 = .ok (.aload_n 0, 1) := by decide +kernel
theorem d4006_70 : decode (jm_b 4006) 70 = .ok (.aload_n 1, 1) := by decide +kernel
theorem d4006_71 : decode (jm_b 4006) 71 = .ok (.iload_n 2, 1) := by decide +kernel
theorem d4006_72 : decode (jm_b 4006) 72 = .ok (.bipush 40, 2) := by decide +kernel
theorem d4006_74 : decode (jm_b 4006) 74 = .ok (.iadd, 1) := by decide +kernel
theorem d4006_75 : decode (jm_b 4006) 75 = .ok (.iconst 1, 1) := by decide +kernel
theorem d4006_76 : decode (jm_b 4006) 76 = .ok (.isub, 1) := by decide +kernel
theorem d4006_77 : decode (jm_b 4006) 77 = .ok (.iaload, 1) := by decide +kernel
theorem d4006_78 : decode (jm_b 4006) 78 = .ok (.putfield 34, 3) := by decide +kernel
theorem d4006_81 : decode (jm_b 4006) 81 = .ok (.return_, 1) := by decide +kernel
theorem d25_0 : decode (jm_b 25) 0 = .ok (.aload_n 0, 1) := by decide +kernel
theorem d25_1 : decode (jm_b 25) 1 = .ok (.iload_n 1, 1) := by decide +kernel
theorem d25_2 : decode (jm_b 25) 2 = .ok (.invokevirtual 120, 3) := by decide +kernel
theorem d25_5 : decode (jm_b 25) 5 = .ok (.ifCond .eq 22, 3) := by decide +kernel
theorem d25_8 : decode (jm_b 25) 8 = .ok (.iload_n 2, 1) := by decide +kernel
theorem d25_9 : decode (jm_b 25) 9 = .ok (.ifCond .lt 18, 3) := by decide +kernel
theorem d25_12 : decode (jm_b 25) 12 = .ok (.iload_n 2, 1) := by decide +kernel
theorem d25_13 : decode (jm_b 25) 13 = .ok (.bipush 100, 2) := by decide +kernel
theorem d25_15 : decode (jm_b 25) 15 = .ok (.if_icmp .gt 12, 3) := by decide +kernel
theorem d25_18 : decode (jm_b 25) 18 = .ok (.iload_n 3, 1) := by decide +kernel
theorem d25_19 : decode (jm_b 25) 19 = .ok (.ifCond .lt 8, 3) := by decide +kernel
theorem d25_22 : decode (jm_b 25) 22 = .ok (.iload_n 3, 1) := by decide +kernel
theorem d25_23 : decode (jm_b 25) 23 = .ok (.iconst 2, 1) := by decide +kernel
theorem d25_24 : decode (jm_b 25) 24 = .ok (.if_icmp .le 6, 3) := by decide +kernel
theorem d25_27 : decode (jm_b 25) 27 = .ok (.bipush (-100), 2) := by decide +kernel
theorem d25_29 : decode (jm_b 25) 29 = .ok (.ireturn, 1) := by decide +kernel
theorem d25_30 : decode (jm_b 25) 30 = .ok (.aload_n 0, 1) := by decide +kernel
theorem d25_31 : decode (jm_b 25) 31 = .ok (.getfield 65, 3) := by decide +kernel
theorem d25_34 : decode (jm_b 25) 34 = .ok (.aload_n 0, 1) := by decide +kernel
theorem d25_35 : decode (jm_b 25) 35 = .ok (.getfield 41, 3) := by decide +kernel
theorem d25_38 : decode (jm_b 25) 38 = .ok (.getfield 124, 3) := by decide +kernel
theorem d25_41 : decode (jm_b 25) 41 = .ok (.iload_n 2, 1) := by decide +kernel
theorem d25_42 : decode (jm_b 25) 42 = .ok (.invokevirtual 226, 3) := by decide +kernel
theorem d25_45 : decode (jm_b 25) 45 = .ok (.astore 4, 2) := by decide +kernel
theorem d25_47 : decode (jm_b 25) 47 = .ok (.iload_n 3, 1) := by decide +kernel
theorem d25_48 : decode (jm_b 25) 48 = .ok (.lookupswitch 44 #[(0, 28), (1, 36)], 28) := by decide +kernel
theorem d25_76 : decode (jm_b 25) 76 = .ok (.aload 4, 2) := by decide +kernel
theorem d25_78 : decode (jm_b 25) 78 = .ok (.getfield 128, 3) := by decide +kernel
theorem d25_81 : decode (jm_b 25) 81 = .ok (.iload_n 1, 1) := by decide +kernel
theorem d25_82 : decode (jm_b 25) 82 = .ok (.iaload, 1) := by decide +kernel
theorem d25_83 : decode (jm_b 25) 83 = .ok (.ireturn, 1) := by decide +kernel
theorem d25_84 : decode (jm_b 25) 84 = .ok (.aload 4, 2) := by decide +kernel
theorem d25_86 : decode (jm_b 25) 86 = .ok (.getfield 134, 3) := by decide +kernel
theorem d25_89 : decode (jm_b 25) 89 = .ok (.iload_n 1, 1) := by decide +kernel
theorem d25_90 : decode (jm_b 25) 90 = .ok (.iaload, 1) := by decide +kernel
theorem d25_91 : decode (jm_b 25) 91 = .ok (.ireturn, 1) := by decide +kernel
theorem d25_92 : decode (jm_b 25) 92 = .ok (.aload_n 0, 1) := by decide +kernel
theorem d25_93 : decode (jm_b 25) 93 = .ok (.getfield 41, 3) := by decide +kernel
theorem d25_96 : decode (jm_b 25) 96 = .ok (.getfield 143, 3) := by decide +kernel
theorem d25_99 : decode (jm_b 25) 99 = .ok (.aload 4, 2) := by decide +kernel
theorem d25_101 : decode (jm_b 25) 101 = .ok (.invokevirtual 194, 3) := by decide +kernel
theorem d25_104 : decode (jm_b 25) 104 = .ok (.invokestatic 230, 3) := by decide +kernel
theorem d25_107 : decode (jm_b 25) 107 = .ok (.ireturn, 1) := by decide +kernel
theorem d9001_0 : decode (jm_b 9001) 0 = .ok (.aload_n 0, 1) := by decide +kernel
theorem d9001_1 : decode (jm_b 9001) 1 = .ok (.getfield 12, 3) := by decide +kernel
theorem d9001_4 : decode (jm_b 9001) 4 = .ok (.aload_n 1, 1) := by decide +kernel
theorem d9001_5 : decode (jm_b 9001) 5 = .ok (.invokevirtual 29, 3) := by decide +kernel
theorem d9001_8 : decode (jm_b 9001) 8 = .ok (.iconst 0, 1) := by decide +kernel
theorem d9001_9 : decode (jm_b 9001) 9 = .ok (.istore_n 3, 1) := by decide +kernel
theorem d9001_10 : decode (jm_b 9001) 10 = .ok (.iload_n 3, 1) := by decide +kernel
theorem d9001_11 : decode (jm_b 9001) 11 = .ok (.iload_n 2, 1) := by decide +kernel
theorem d9001_12 : decode (jm_b 9001) 12 = .ok (.if_icmp .ge 22, 3) := by decide +kernel
theorem d9001_15 : decode (jm_b 9001) 15 = .ok (.aload_n 0, 1) := by decide +kernel
theorem d9001_16 : decode (jm_b 9001) 16 = .ok (.getfield 25, 3) := by decide +kernel
theorem d9001_19 : decode (jm_b 9001) 19 = .ok (.aload_n 0, 1) := by decide +kernel
theorem d9001_20 : decode (jm_b 9001) 20 = .ok (.getfield 12, 3) := by decide +kernel
theorem d9001_23 : decode (jm_b 9001) 23 = .ok (.iconst (-1), 1) := by decide +kernel
theorem d9001_24 : decode (jm_b 9001) 24 = .ok (.invokevirtual 35, 3) := by decide +kernel
theorem d9001_27 : decode (jm_b 9001) 27 = .ok (.pop, 1) := by decide +kernel
theorem d9001_28 : decode (jm_b 9001) 28 = .ok (.iinc 3 1, 3) := by decide +kernel
theorem d9001_31 : decode (jm_b 9001) 31 = .ok (.goto (-21), 3) := by decide +kernel
theorem d9001_34 : decode (jm_b 9001) 34 = .ok (.aload_n 0, 1) := by decide +kernel
theorem d9001_35 : decode (jm_b 9001) 35 = .ok (.getfield 12, 3) := by decide +kernel
theorem d9001_38 : decode (jm_b 9001) 38 = .ok (.areturn, 1) := by decide +kernel
theorem d26_0 : decode (jm_b 26) 0 = .ok (.aload_n 0, 1) := by decide +kernel
theorem d26_1 : decode (jm_b 26) 1 = .ok (.iload_n 1, 1) := by decide +kernel
theorem d26_2 : decode (jm_b 26) 2 = .ok (.invokevirtual 150, 3) := by decide +kernel
theorem d26_5 : decode (jm_b 26) 5 = .ok (.ifCond .eq 21, 3) := by decide +kernel
theorem d26_8 : decode (jm_b 26) 8 = .ok (.aload_n 0, 1) := by decide +kernel
theorem d26_9 : decode (jm_b 26) 9 = .ok (.getfield 65, 3) := by decide +kernel
theorem d26_12 : decode (jm_b 26) 12 = .ok (.aload_n 0, 1) := by decide +kernel
theorem d26_13 : decode (jm_b 26) 13 = .ok (.getfield 41, 3) := by decide +kernel
theorem d26_16 : decode (jm_b 26) 16 = .ok (.getfield 124, 3) := by decide +kernel
theorem d26_19 : decode (jm_b 26) 19 = .ok (.iload_n 1, 1) := by decide +kernel
theorem d26_20 : decode (jm_b 26) 20 = .ok (.invokevirtual 233, 3) := by decide +kernel
theorem d26_23 : decode (jm_b 26) 23 = .ok (.goto 4, 3) := by decide +kernel
theorem d26_26 : decode (jm_b 26) 26 = .ok (.iconst (-1), 1) := by decide +kernel
theorem d26_27 : decode (jm_b 26) 27 = .ok (.ireturn, 1) := by decide +kernel
theorem d9002_0 : decode (jm_b 9002) 0 = .ok (.aload_n 0, 1) := by decide +kernel
theorem d9002_1 : decode (jm_b 9002) 1 = .ok (.getfield 12, 3) := by decide +kernel
theorem d9002_4 : decode (jm_b 9002) 4 = .ok (.aload_n 1, 1) := by decide +kernel
theorem d9002_5 : decode (jm_b 9002) 5 = .ok (.invokevirtual 29, 3) := by decide +kernel
theorem d9002_8 : decode (jm_b 9002) 8 = .ok (.iconst 0, 1) := by decide +kernel
theorem d9002_9 : decode (jm_b 9002) 9 = .ok (.istore_n 3, 1) := by decide +kernel
theorem d9002_10 : decode (jm_b 9002) 10 = .ok (.iload_n 3, 1) := by decide +kernel
theorem d9002_11 : decode (jm_b 9002) 11 = .ok (.bipush 60, 2) := by decide +kernel
theorem d9002_13 : decode (jm_b 9002) 13 = .ok (.if_icmp .ge 40, 3) := by decide +kernel
theorem d9002_16 : decode (jm_b 9002) 16 = .ok (.aload_n 0, 1) := by decide +kernel
theorem d9002_17 : decode (jm_b 9002) 17 = .ok (.getfield 12, 3) := by decide +kernel
theorem d9002_20 : decode (jm_b 9002) 20 = .ok (.getfield 39, 3) := by decide +kernel
theorem d9002_23 : decode (jm_b 9002) 23 = .ok (.istore 4, 2) := by decide +kernel
theorem d9002_25 : decode (jm_b 9002) 25 = .ok (.aload_n 0, 1) := by decide +kernel
theorem d9002_26 : decode (jm_b 9002) 26 = .ok (.getfield 25, 3) := by decide +kernel
theorem d9002_29 : decode (jm_b 9002) 29 = .ok (.aload_n 0, 1) := by decide +kernel
theorem d9002_30 : decode (jm_b 9002) 30 = .ok (.getfield 12, 3) := by decide +kernel
theorem d9002_33 : decode (jm_b 9002) 33 = .ok (.iconst (-1), 1) := by decide +kernel
theorem d9002_34 : decode (jm_b 9002) 34 = .ok (.invokevirtual 35, 3) := by decide +kernel
theorem d9002_37 : decode (jm_b 9002) 37 = .ok (.iload_n 2, 1) := by decide +kernel
theorem d9002_38 : decode (jm_b 9002) 38 = .ok (.ishr, 1) := by decide +kernel
theorem d9002_39 : decode (jm_b 9002) 39 = .ok (.iconst 1, 1) := by decide +kernel
theorem d9002_40 : decode (jm_b 9002) 40 = .ok (.iand, 1) := by decide +kernel
theorem d9002_41 : decode (jm_b 9002) 41 = .ok (.ifCond .eq 6, 3) := by decide +kernel
theorem d9002_44 : decode (jm_b 9002) 44 = .ok (.iload 4, 2) := by decide +kernel
theorem d9002_46 : decode (jm_b 9002) 46 = .ok (.ireturn, 1) := by decide +kernel
theorem d9002_47 : decode (jm_b 9002) 47 = .ok (.iinc 3 1, 3) := by decide +kernel
theorem d9002_50 : decode (jm_b 9002) 50 = .ok (.goto (-40), 3) := by decide +kernel
theorem d9002_53 : decode (jm_b 9002) 53 = .ok (.bipush (-2), 2) := by decide +kernel
theorem d9002_55 : decode (jm_b 9002) 55 = .ok (.ireturn, 1) := by decide +kernel
theorem d27_0 : decode (jm_b 27) 0 = .ok (.aload_n 0, 1) := by decide +kernel
theorem d27_1 : decode (jm_b 27) 1 = .ok (.invokevirtual 169, 3) := by decide +kernel
theorem d27_4 : decode (jm_b 27) 4 = .ok (.ifCond .eq 22, 3) := by decide +kernel
theorem d27_7 : decode (jm_b 27) 7 = .ok (.iload_n 1, 1) := by decide +kernel
theorem d27_8 : decode (jm_b 27) 8 = .ok (.iconst 1, 1) := by decide +kernel
theorem d27_9 : decode (jm_b 27) 9 = .ok (.if_icmp .lt 17, 3) := by decide +kernel
theorem d27_12 : decode (jm_b 27) 12 = .ok (.iload_n 1, 1) := by decide +kernel
theorem d27_13 : decode (jm_b 27) 13 = .ok (.iconst 3, 1) := by decide +kernel
theorem d27_14 : decode (jm_b 27) 14 = .ok (.if_icmp .gt 12, 3) := by decide +kernel
theorem d27_17 : decode (jm_b 27) 17 = .ok (.iload_n 2, 1) := by decide +kernel
theorem d27_18 : decode (jm_b 27) 18 = .ok (.ifCond .lt 8, 3) := by decide +kernel
theorem d27_21 : decode (jm_b 27) 21 = .ok (.iload_n 2, 1) := by decide +kernel
theorem d27_22 : decode (jm_b 27) 22 = .ok (.iconst 3, 1) := by decide +kernel
theorem d27_23 : decode (jm_b 27) 23 = .ok (.if_icmp .le 6, 3) := by decide +kernel
theorem d27_26 : decode (jm_b 27) 26 = .ok (.bipush (-3), 2) := by decide +kernel
theorem d27_28 : decode (jm_b 27) 28 = .ok (.ireturn, 1) := by decide +kernel
theorem d27_29 : decode (jm_b 27) 29 = .ok (.iload_n 2, 1) := by decide +kernel
theorem d27_30 : decode (jm_b 27) 30 = .ok (.iload_n 1, 1) := by decide +kernel
theorem d27_31 : decode (jm_b 27) 31 = .ok (.if_icmp .le 6, 3) := by decide +kernel
theorem d27_34 : decode (jm_b 27) 34 = .ok (.bipush (-2), 2) := by decide +kernel
theorem d27_36 : decode (jm_b 27) 36 = .ok (.ireturn, 1) := by decide +kernel
theorem d27_37 : decode (jm_b 27) 37 = .ok (.aload_n 0, 1) := by decide +kernel
theorem d27_38 : decode (jm_b 27) 38 = .ok (.getfield 72, 3) := by decide +kernel
theorem d27_41 : decode (jm_b 27) 41 = .ok (.aload_n 0, 1) := by decide +kernel
theorem d27_42 : decode (jm_b 27) 42 = .ok (.getfield 41, 3) := by decide +kernel
theorem d27_45 : decode (jm_b 27) 45 = .ok (.getfield 124, 3) := by decide +kernel
theorem d27_48 : decode (jm_b 27) 48 = .ok (.iload_n 1, 1) := by decide +kernel
theorem d27_49 : decode (jm_b 27) 49 = .ok (.invokevirtual 236, 3) := by decide +kernel
theorem d27_52 : decode (jm_b 27) 52 = .ok (.istore_n 3, 1) := by decide +kernel
theorem d27_53 : decode (jm_b 27) 53 = .ok (.iload_n 3, 1) := by decide +kernel
theorem d27_54 : decode (jm_b 27) 54 = .ok (.iconst (-1), 1) := by decide +kernel
theorem d27_55 : decode (jm_b 27) 55 = .ok (.if_icmp .ne 6, 3) := by decide +kernel
theorem d27_58 : decode (jm_b 27) 58 = .ok (.bipush (-2), 2) := by decide +kernel
theorem d27_60 : decode (jm_b 27) 60 = .ok (.ireturn, 1) := by decide +kernel
theorem d27_61 : decode (jm_b 27) 61 = .ok (.iload_n 2, 1) := by decide +kernel
theorem d27_62 : decode (jm_b 27) 62 = .ok (.ifCond .ne 7, 3) := by decide +kernel
theorem d27_65 : decode (jm_b 27) 65 = .ok (.iload_n 3, 1) := by decide +kernel
theorem d27_66 : decode (jm_b 27) 66 = .ok (.goto 14, 3) := by decide +kernel
theorem d27_69 : decode (jm_b 27) 69 = .ok (.aload_n 0, 1) := by decide +kernel
theorem d27_70 : decode (jm_b 27) 70 = .ok (.getfield 72, 3) := by decide +kernel
theorem d27_73 : decode (jm_b 27) 73 = .ok (.getfield 239, 3) := by decide +kernel
theorem d27_76 : decode (jm_b 27) 76 = .ok (.iload_n 2, 1) := by decide +kernel
theorem d27_77 : decode (jm_b 27) 77 = .ok (.iconst 1, 1) := by decide +kernel
theorem d27_78 : decode (jm_b 27) 78 = .ok (.isub, 1) := by decide +kernel
theorem d27_79 : decode (jm_b 27) 79 = .ok (.iaload, 1) := by decide +kernel
theorem d27_80 : decode (jm_b 27) 80 = .ok (.ireturn, 1) := by decide +kernel
theorem d10001_0 : decode (jm_b 10001) 0 = .ok (.aload_n 0, 1) := by decide +kernel
theorem d10001_1 : decode (jm_b 10001) 1 = .ok (.getfield 11, 3) := by decide +kernel
theorem d10001_4 : decode (jm_b 10001) 4 = .ok (.iconst 0, 1) := by decide +kernel
theorem d10001_5 : decode (jm_b 10001) 5 = .ok (.aaload, 1) := by decide +kernel
theorem d10001_6 : decode (jm_b 10001) 6 = .ok (.aload_n 1, 1) := by decide +kernel
theorem d10001_7 : decode (jm_b 10001) 7 = .ok (.invokevirtual 26, 3) := by decide +kernel
theorem d10001_10 : decode (jm_b 10001) 10 = .ok (.iconst 0, 1) := by decide +kernel
theorem d10001_11 : decode (jm_b 10001) 11 = .ok (.istore_n 3, 1) := by decide +kernel
theorem d10001_12 : decode (jm_b 10001) 12 = .ok (.iload_n 3, 1) := by decide +kernel
theorem d10001_13 : decode (jm_b 10001) 13 = .ok (.iload_n 2, 1) := by decide +kernel
theorem d10001_14 : decode (jm_b 10001) 14 = .ok (.if_icmp .gt 21, 3) := by decide +kernel
theorem d10001_17 : decode (jm_b 10001) 17 = .ok (.aload_n 0, 1) := by decide +kernel
theorem d10001_18 : decode (jm_b 10001) 18 = .ok (.iconst 0, 1) := by decide +kernel
theorem d10001_19 : decode (jm_b 10001) 19 = .ok (.iload_n 2, 1) := by decide +kernel
theorem d10001_20 : decode (jm_b 10001) 20 = .ok (.iload_n 3, 1) := by decide +kernel
theorem d10001_21 : decode (jm_b 10001) 21 = .ok (.invokevirtual 30, 3) := by decide +kernel
theorem d10001_24 : decode (jm_b 10001) 24 = .ok (.ifCond .eq 5, 3) := by decide +kernel
theorem d10001_27 : decode (jm_b 10001) 27 = .ok (.iload_n 3, 1) := by decide +kernel
theorem d10001_28 : decode (jm_b 10001) 28 = .ok (.ireturn, 1) := by decide +kernel
theorem d10001_29 : decode (jm_b 10001) 29 = .ok (.iinc 3 1, 3) := by decide +kernel
theorem d10001_32 : decode (jm_b 10001) 32 = .ok (.goto (-20), 3) := by decide +kernel
theorem d10001_35 : decode (jm_b 10001) 35 = .ok (.iconst (-1), 1) := by decide +kernel
theorem d10001_36 : decode (jm_b 10001) 36 = .ok (.ireturn, 1) := by decide +kernel
theorem d10002_0 : decode (jm_b 10002) 0 = .ok (.iload_n 1, 1) := by decide +kernel
theorem d10002_1 : decode (jm_b 10002) 1 = .ok (.iload_n 2, 1) := by decide +kernel
theorem d10002_2 : decode (jm_b 10002) 2 = .ok (.if_icmp .ge 8, 3) := by decide +kernel
theorem d10002_5 : decode (jm_b 10002) 5 = .ok (.iload_n 1, 1) := by decide +kernel
theorem d10002_6 : decode (jm_b 10002) 6 = .ok (.iconst 3, 1) := by decide +kernel
theorem d10002_7 : decode (jm_b 10002) 7 = .ok (.if_icmp .lt 20, 3) := by decide +kernel
theorem d10002_10 : decode (jm_b 10002) 10 = .ok (.aload_n 0, 1) := by decide +kernel
theorem d10002_11 : decode (jm_b 10002) 11 = .ok (.getfield 21, 3) := by decide +kernel
theorem d10002_14 : decode (jm_b 10002) 14 = .ok (.getfield 34, 3) := by decide +kernel
theorem d10002_17 : decode (jm_b 10002) 17 = .ok (.aload_n 0, 1) := by decide +kernel
theorem d10002_18 : decode (jm_b 10002) 18 = .ok (.getfield 11, 3) := by decide +kernel
theorem d10002_21 : decode (jm_b 10002) 21 = .ok (.iload_n 1, 1) := by decide +kernel
theorem d10002_22 : decode (jm_b 10002) 22 = .ok (.aaload, 1) := by decide +kernel
theorem d10002_23 : decode (jm_b 10002) 23 = .ok (.invokevirtual 40, 3) := by decide +kernel
theorem d10002_26 : decode (jm_b 10002) 26 = .ok (.ireturn, 1) := by decide +kernel
theorem d10002_27 : decode (jm_b 10002) 27 = .ok (.iload_n 3, 1) := by decide +kernel
theorem d10002_28 : decode (jm_b 10002) 28 = .ok (.iload_n 2, 1) := by decide +kernel
theorem d10002_29 : decode (jm_b 10002) 29 = .ok (.iload_n 1, 1) := by decide +kernel
theorem d10002_30 : decode (jm_b 10002) 30 = .ok (.isub, 1) := by decide +kernel
theorem d10002_31 : decode (jm_b 10002) 31 = .ok (.if_icmp .ge 31, 3) := by decide +kernel
theorem d10002_34 : decode (jm_b 10002) 34 = .ok (.aload_n 0, 1) := by decide +kernel
theorem d10002_35 : decode (jm_b 10002) 35 = .ok (.getfield 17, 3) := by decide +kernel
theorem d10002_38 : decode (jm_b 10002) 38 = .ok (.iload_n 1, 1) := by decide +kernel
theorem d10002_39 : decode (jm_b 10002) 39 = .ok (.iconst (-1), 1) := by decide +kernel
theorem d10002_40 : decode (jm_b 10002) 40 = .ok (.iastore, 1) := by decide +kernel
theorem d10002_41 : decode (jm_b 10002) 41 = .ok (.aload_n 0, 1) := by decide +kernel
theorem d10002_42 : decode (jm_b 10002) 42 = .ok (.iload_n 1, 1) := by decide +kernel
theorem d10002_43 : decode (jm_b 10002) 43 = .ok (.iconst 0, 1) := by decide +kernel
theorem d10002_44 : decode (jm_b 10002) 44 = .ok (.iconst 0, 1) := by decide +kernel
theorem d10002_45 : decode (jm_b 10002) 45 = .ok (.invokevirtual 46, 3) := by decide +kernel
theorem d10002_48 : decode (jm_b 10002) 48 = .ok (.aload_n 0, 1) := by decide +kernel
theorem d10002_49 : decode (jm_b 10002) 49 = .ok (.iload_n 1, 1) := by decide +kernel
theorem d10002_50 : decode (jm_b 10002) 50 = .ok (.iconst 1, 1) := by decide +kernel
theorem d10002_51 : decode (jm_b 10002) 51 = .ok (.iadd, 1) := by decide +kernel
theorem d10002_52 : decode (jm_b 10002) 52 = .ok (.iload_n 2, 1) := by decide +kernel
theorem d10002_53 : decode (jm_b 10002) 53 = .ok (.iload_n 3, 1) := by decide +kernel
theorem d10002_54 : decode (jm_b 10002) 54 = .ok (.invokevirtual 30, 3) := by decide +kernel
theorem d10002_57 : decode (jm_b 10002) 57 = .ok (.ifCond .eq 5, 3) := by decide +kernel
theorem d10002_60 : decode (jm_b 10002) 60 = .ok (.iconst 1, 1) := by decide +kernel
theorem d10002_61 : decode (jm_b 10002) 61 = .ok (.ireturn, 1) := by decide +kernel
theorem d10002_62 : decode (jm_b 10002) 62 = .ok (.iconst 0, 1) := by decide +kernel
theorem d10002_63 : decode (jm_b 10002) 63 = .ok (.istore 4, 2) := by decide +kernel
theorem d10002_65 : decode (jm_b 10002) 65 = .ok (.iload_n 3, 1) := by decide +kernel
theorem d10002_66 : decode (jm_b 10002) 66 = .ok (.ifCond .le 88, 3) := by decide +kernel
theorem d10002_69 : decode (jm_b 10002) 69 = .ok (.iload 4, 2) := by decide +kernel
theorem d10002_71 : decode (jm_b 10002) 71 = .ok (.iconst 2, 1) := by decide +kernel
theorem d10002_72 : decode (jm_b 10002) 72 = .ok (.aload_n 0, 1) := by decide +kernel
theorem d10002_73 : decode (jm_b 10002) 73 = .ok (.getfield 21, 3) := by decide +kernel
theorem d10002_76 : decode (jm_b 10002) 76 = .ok (.getfield 34, 3) := by decide +kernel
theorem d10002_79 : decode (jm_b 10002) 79 = .ok (.getfield 50, 3) := by decide +kernel
theorem d10002_82 : decode (jm_b 10002) 82 = .ok (.imul, 1) := by decide +kernel
theorem d10002_83 : decode (jm_b 10002) 83 = .ok (.if_icmp .ge 71, 3) := by decide +kernel
theorem d10002_86 : decode (jm_b 10002) 86 = .ok (.aload_n 0, 1) := by decide +kernel
theorem d10002_87 : decode (jm_b 10002) 87 = .ok (.getfield 11, 3) := by decide +kernel
theorem d10002_90 : decode (jm_b 10002) 90 = .ok (.iload_n 1, 1) := by decide +kernel
theorem d10002_91 : decode (jm_b 10002) 91 = .ok (.aaload, 1) := by decide +kernel
theorem d10002_92 : decode (jm_b 10002) 92 = .ok (.iload 4, 2) := by decide +kernel
theorem d10002_94 : decode (jm_b 10002) 94 = .ok (.iconst 2, 1) := by decide +kernel
theorem d10002_95 : decode (jm_b 10002) 95 = .ok (.idiv, 1) := by decide +kernel
theorem d10002_96 : decode (jm_b 10002) 96 = .ok (.invokevirtual 54, 3) := by decide +kernel
theorem d10002_99 : decode (jm_b 10002) 99 = .ok (.ifCond .ne 49, 3) := by decide +kernel
theorem d10002_102 : decode (jm_b 10002) 102 = .ok (.aload_n 0, 1) := by decide +kernel
theorem d10002_103 : decode (jm_b 10002) 103 = .ok (.getfield 17, 3) := by decide +kernel
theorem d10002_106 : decode (jm_b 10002) 106 = .ok (.iload_n 1, 1) := by decide +kernel
theorem d10002_107 : decode (jm_b 10002) 107 = .ok (.iload 4, 2) := by decide +kernel
theorem d10002_109 : decode (jm_b 10002) 109 = .ok (.iastore, 1) := by decide +kernel
theorem d10002_110 : decode (jm_b 10002) 110 = .ok (.aload_n 0, 1) := by decide +kernel
theorem d10002_111 : decode (jm_b 10002) 111 = .ok (.iload_n 1, 1) := by decide +kernel
theorem d10002_112 : decode (jm_b 10002) 112 = .ok (.iload 4, 2) := by decide +kernel
theorem d10002_114 : decode (jm_b 10002) 114 = .ok (.iconst 2, 1) := by decide +kernel
theorem d10002_115 : decode (jm_b 10002) 115 = .ok (.idiv, 1) := by decide +kernel
theorem d10002_116 : decode (jm_b 10002) 116 = .ok (.iload 4, 2) := by decide +kernel
theorem d10002_118 : decode (jm_b 10002) 118 = .ok (.iconst 2, 1) := by decide +kernel
theorem d10002_119 : decode (jm_b 10002) 119 = .ok (.irem, 1) := by decide +kernel
theorem d10002_120 : decode (jm_b 10002) 120 = .ok (.ifCond .ne 8, 3) := by decide +kernel
theorem d10002_123 : decode (jm_b 10002) 123 = .ok (.bipush (-2), 2) := by decide +kernel
theorem d10002_125 : decode (jm_b 10002) 125 = .ok (.goto 4, 3) := by decide +kernel
theorem d10002_128 : decode (jm_b 10002) 128 = .ok (.iconst 2, 1) := by decide +kernel
theorem d10002_129 : decode (jm_b 10002) 129 = .ok (.invokevirtual 46, 3) := by decide +kernel
theorem d10002_132 : decode (jm_b 10002) 132 = .ok (.aload_n 0, 1) := by decide +kernel
theorem d10002_133 : decode (jm_b 10002) 133 = .ok (.iload_n 1, 1) := by decide +kernel
theorem d10002_134 : decode (jm_b 10002) 134 = .ok (.iconst 1, 1) := by decide +kernel
theorem d10002_135 : decode (jm_b 10002) 135 = .ok (.iadd, 1) := by decide +kernel
theorem d10002_136 : decode (jm_b 10002) 136 = .ok (.iload_n 2, 1) := by decide +kernel
theorem d10002_137 : decode (jm_b 10002) 137 = .ok (.iload_n 3, 1) := by decide +kernel
theorem d10002_138 : decode (jm_b 10002) 138 = .ok (.iconst 1, 1) := by decide +kernel
theorem d10002_139 : decode (jm_b 10002) 139 = .ok (.isub, 1) := by decide +kernel
theorem d10002_140 : decode (jm_b 10002) 140 = .ok (.invokevirtual 30, 3) := by decide +kernel
theorem d10002_143 : decode (jm_b 10002) 143 = .ok (.ifCond .eq 5, 3) := by decide +kernel
theorem d10002_146 : decode (jm_b 10002) 146 = .ok (.iconst 1, 1) := by decide +kernel
theorem d10002_147 : decode (jm_b 10002) 147 = .ok (.ireturn, 1) := by decide +kernel
theorem d10002_148 : decode (jm_b 10002) 148 = .ok (.iinc 4 1, 3) := by decide +kernel
theorem d10002_151 : decode (jm_b 10002) 151 = .ok (.goto (-86), 3) := by decide +kernel
theorem d10002_154 : decode (jm_b 10002) 154 = .ok (.iconst 0, 1) := by decide +kernel
theorem d10002_155 : decode (jm_b 10002) 155 = .ok (.ireturn, 1) := by decide +kernel
theorem d3004_0 : decode (jm_b 3004) 0 = .ok (.iconst 0, 1) := by decide +kernel
theorem d3004_1 : decode (jm_b 3004) 1 = .ok (.istore_n 2, 1) := by decide +kernel
theorem d3004_2 : decode (jm_b 3004) 2 = .ok (.iload_n 2, 1) := by decide +kernel
theorem d3004_3 : decode (jm_b 3004) 3 = .ok (.aload_n 0, 1) := by decide +kernel
theorem d3004_4 : decode (jm_b 3004) 4 = .ok (.getfield 47, 3) := by decide +kernel
theorem d3004_7 : decode (jm_b 3004) 7 = .ok (.if_icmp .ge 31, 3) := by decide +kernel
theorem d3004_10 : decode (jm_b 3004) 10 = .ok (.aload_n 0, 1) := by decide +kernel
theorem d3004_11 : decode (jm_b 3004) 11 = .ok (.aload_n 1, 1) := by decide +kernel
theorem d3004_12 : decode (jm_b 3004) 12 = .ok (.aload_n 0, 1) := by decide +kernel
theorem d3004_13 : decode (jm_b 3004) 13 = .ok (.getfield 27, 3) := by decide +kernel
theorem d3004_16 : decode (jm_b 3004) 16 = .ok (.iload_n 2, 1) := by decide +kernel
theorem d3004_17 : decode (jm_b 3004) 17 = .ok (.iaload, 1) := by decide +kernel
theorem d3004_18 : decode (jm_b 3004) 18 = .ok (.invokevirtual 50, 3) := by decide +kernel
theorem d3004_21 : decode (jm_b 3004) 21 = .ok (.aload_n 0, 1) := by decide +kernel
theorem d3004_22 : decode (jm_b 3004) 22 = .ok (.getfield 30, 3) := by decide +kernel
theorem d3004_25 : decode (jm_b 3004) 25 = .ok (.iload_n 2, 1) := by decide +kernel
theorem d3004_26 : decode (jm_b 3004) 26 = .ok (.iaload, 1) := by decide +kernel
theorem d3004_27 : decode (jm_b 3004) 27 = .ok (.if_icmp .eq 5, 3) := by decide +kernel
theorem d3004_30 : decode (jm_b 3004) 30 = .ok (.iconst 0, 1) := by decide +kernel
theorem d3004_31 : decode (jm_b 3004) 31 = .ok (.ireturn, 1) := by decide +kernel
theorem d3004_32 : decode (jm_b 3004) 32 = .ok (.iinc 2 1, 3) := by decide +kernel
theorem d3004_35 : decode (jm_b 3004) 35 = .ok (.goto (-33), 3) := by decide +kernel
theorem d3004_38 : decode (jm_b 3004) 38 = .ok (.iconst 1, 1) := by decide +kernel
theorem d3004_39 : decode (jm_b 3004) 39 = .ok (.ireturn, 1) := by decide +kernel
theorem d10003_0 : decode (jm_b 10003) 0 = .ok (.aload_n 0, 1) := by decide +kernel
theorem d10003_1 : decode (jm_b 10003) 1 = .ok (.getfield 11, 3) := by decide +kernel
theorem d10003_4 : decode (jm_b 10003) 4 = .ok (.iload_n 1, 1) := by decide +kernel
theorem d10003_5 : decode (jm_b 10003) 5 = .ok (.iconst 1, 1) := by decide +kernel
theorem d10003_6 : decode (jm_b 10003) 6 = .ok (.iadd, 1) := by decide +kernel
theorem d10003_7 : decode (jm_b 10003) 7 = .ok (.aaload, 1) := by decide +kernel
theorem d10003_8 : decode (jm_b 10003) 8 = .ok (.astore 4, 2) := by decide +kernel
theorem d10003_10 : decode (jm_b 10003) 10 = .ok (.aload 4, 2) := by decide +kernel
theorem d10003_12 : decode (jm_b 10003) 12 = .ok (.aload_n 0, 1) := by decide +kernel
theorem d10003_13 : decode (jm_b 10003) 13 = .ok (.getfield 11, 3) := by decide +kernel
theorem d10003_16 : decode (jm_b 10003) 16 = .ok (.iload_n 1, 1) := by decide +kernel
theorem d10003_17 : decode (jm_b 10003) 17 = .ok (.aaload, 1) := by decide +kernel
theorem d10003_18 : decode (jm_b 10003) 18 = .ok (.invokevirtual 26, 3) := by decide +kernel
theorem d10003_21 : decode (jm_b 10003) 21 = .ok (.aload 4, 2) := by decide +kernel
theorem d10003_23 : decode (jm_b 10003) 23 = .ok (.iload_n 2, 1) := by decide +kernel
theorem d10003_24 : decode (jm_b 10003) 24 = .ok (.iload_n 3, 1) := by decide +kernel
theorem d10003_25 : decode (jm_b 10003) 25 = .ok (.invokevirtual 58, 3) := by decide +kernel
theorem d10003_28 : decode (jm_b 10003) 28 = .ok (.aload_n 0, 1) := by decide +kernel
theorem d10003_29 : decode (jm_b 10003) 29 = .ok (.getfield 21, 3) := by decide +kernel
theorem d10003_32 : decode (jm_b 10003) 32 = .ok (.aload 4, 2) := by decide +kernel
theorem d10003_34 : decode (jm_b 10003) 34 = .ok (.iconst (-1), 1) := by decide +kernel
theorem d10003_35 : decode (jm_b 10003) 35 = .ok (.invokevirtual 62, 3) := by decide +kernel
theorem d10003_38 : decode (jm_b 10003) 38 = .ok (.pop, 1) := by decide +kernel
theorem d10003_39 : decode (jm_b 10003) 39 = .ok (.return_, 1) := by decide +kernel
theorem d28_0 : decode (jm_b 28) 0 = .ok (.aload_n 0, 1) := by decide +kernel
theorem d28_1 : decode (jm_b 28) 1 = .ok (.invokevirtual 169, 3) := by decide +kernel
theorem d28_4 : decode (jm_b 28) 4 = .ok (.ifCond .eq 22, 3) := by decide +kernel
theorem d28_7 : decode (jm_b 28) 7 = .ok (.iload_n 1, 1) := by decide +kernel
theorem d28_8 : decode (jm_b 28) 8 = .ok (.iconst 1, 1) := by decide +kernel
theorem d28_9 : decode (jm_b 28) 9 = .ok (.if_icmp .lt 17, 3) := by decide +kernel
theorem d28_12 : decode (jm_b 28) 12 = .ok (.iload_n 1, 1) := by decide +kernel
theorem d28_13 : decode (jm_b 28) 13 = .ok (.iconst 4, 1) := by decide +kernel
theorem d28_14 : decode (jm_b 28) 14 = .ok (.if_icmp .gt 12, 3) := by decide +kernel
theorem d28_17 : decode (jm_b 28) 17 = .ok (.iload_n 2, 1) := by decide +kernel
theorem d28_18 : decode (jm_b 28) 18 = .ok (.ifCond .lt 8, 3) := by decide +kernel
theorem d28_21 : decode (jm_b 28) 21 = .ok (.iload_n 2, 1) := by decide +kernel
theorem d28_22 : decode (jm_b 28) 22 = .ok (.iconst 1, 1) := by decide +kernel
theorem d28_23 : decode (jm_b 28) 23 = .ok (.if_icmp .le 6, 3) := by decide +kernel
theorem d28_26 : decode (jm_b 28) 26 = .ok (.bipush (-100), 2) := by decide +kernel
theorem d28_28 : decode (jm_b 28) 28 = .ok (.ireturn, 1) := by decide +kernel
theorem d28_29 : decode (jm_b 28) 29 = .ok (.aload_n 0, 1) := by decide +kernel
theorem d28_30 : decode (jm_b 28) 30 = .ok (.getfield 72, 3) := by decide +kernel
theorem d28_33 : decode (jm_b 28) 33 = .ok (.aload_n 0, 1) := by decide +kernel
theorem d28_34 : decode (jm_b 28) 34 = .ok (.getfield 41, 3) := by decide +kernel
theorem d28_37 : decode (jm_b 28) 37 = .ok (.getfield 124, 3) := by decide +kernel
theorem d28_40 : decode (jm_b 28) 40 = .ok (.iload_n 1, 1) := by decide +kernel
theorem d28_41 : decode (jm_b 28) 41 = .ok (.invokevirtual 242, 3) := by decide +kernel
theorem d28_44 : decode (jm_b 28) 44 = .ok (.istore_n 3, 1) := by decide +kernel
theorem d28_45 : decode (jm_b 28) 45 = .ok (.iload_n 2, 1) := by decide +kernel
theorem d28_46 : decode (jm_b 28) 46 = .ok (.ifCond .ne 7, 3) := by decide +kernel
theorem d28_49 : decode (jm_b 28) 49 = .ok (.iload_n 3, 1) := by decide +kernel
theorem d28_50 : decode (jm_b 28) 50 = .ok (.goto 10, 3) := by decide +kernel
theorem d28_53 : decode (jm_b 28) 53 = .ok (.aload_n 0, 1) := by decide +kernel
theorem d28_54 : decode (jm_b 28) 54 = .ok (.getfield 72, 3) := by decide +kernel
theorem d28_57 : decode (jm_b 28) 57 = .ok (.getfield 245, 3) := by decide +kernel
theorem d28_60 : decode (jm_b 28) 60 = .ok (.ireturn, 1) := by decide +kernel
theorem d10004_0 : decode (jm_b 10004) 0 = .ok (.aload_n 0, 1) := by decide +kernel
theorem d10004_1 : decode (jm_b 10004) 1 = .ok (.getfield 11, 3) := by decide +kernel
theorem d10004_4 : decode (jm_b 10004) 4 = .ok (.iconst 0, 1) := by decide +kernel
theorem d10004_5 : decode (jm_b 10004) 5 = .ok (.aaload, 1) := by decide +kernel
theorem d10004_6 : decode (jm_b 10004) 6 = .ok (.aload_n 1, 1) := by decide +kernel
theorem d10004_7 : decode (jm_b 10004) 7 = .ok (.invokevirtual 26, 3) := by decide +kernel
theorem d10004_10 : decode (jm_b 10004) 10 = .ok (.aload_n 0, 1) := by decide +kernel
theorem d10004_11 : decode (jm_b 10004) 11 = .ok (.iconst 0, 1) := by decide +kernel
theorem d10004_12 : decode (jm_b 10004) 12 = .ok (.iload_n 2, 1) := by decide +kernel
theorem d10004_13 : decode (jm_b 10004) 13 = .ok (.aload_n 0, 1) := by decide +kernel
theorem d10004_14 : decode (jm_b 10004) 14 = .ok (.getfield 21, 3) := by decide +kernel
theorem d10004_17 : decode (jm_b 10004) 17 = .ok (.getfield 34, 3) := by decide +kernel
theorem d10004_20 : decode (jm_b 10004) 20 = .ok (.getfield 66, 3) := by decide +kernel
theorem d10004_23 : decode (jm_b 10004) 23 = .ok (.ineg, 1) := by decide +kernel
theorem d10004_24 : decode (jm_b 10004) 24 = .ok (.aload_n 0, 1) := by decide +kernel
theorem d10004_25 : decode (jm_b 10004) 25 = .ok (.getfield 21, 3) := by decide +kernel
theorem d10004_28 : decode (jm_b 10004) 28 = .ok (.getfield 34, 3) := by decide +kernel
theorem d10004_31 : decode (jm_b 10004) 31 = .ok (.getfield 66, 3) := by decide +kernel
theorem d10004_34 : decode (jm_b 10004) 34 = .ok (.invokevirtual 69, 3) := by decide +kernel
theorem d10004_37 : decode (jm_b 10004) 37 = .ok (.ireturn, 1) := by decide +kernel
theorem d10005_0 : decode (jm_b 10005) 0 = .ok (.iload_n 1, 1) := by decide +kernel
theorem d10005_1 : decode (jm_b 10005) 1 = .ok (.iload_n 2, 1) := by decide +kernel
theorem d10005_2 : decode (jm_b 10005) 2 = .ok (.if_icmp .ge 8, 3) := by decide +kernel
theorem d10005_5 : decode (jm_b 10005) 5 = .ok (.iload_n 1, 1) := by decide +kernel
theorem d10005_6 : decode (jm_b 10005) 6 = .ok (.iconst 4, 1) := by decide +kernel
theorem d10005_7 : decode (jm_b 10005) 7 = .ok (.if_icmp .lt 39, 3) := by decide +kernel
theorem d10005_10 : decode (jm_b 10005) 10 = .ok (.aload_n 0, 1) := by decide +kernel
theorem d10005_11 : decode (jm_b 10005) 11 = .ok (.getfield 21, 3) := by decide +kernel
theorem d10005_14 : decode (jm_b 10005) 14 = .ok (.getfield 34, 3) := by decide +kernel
theorem d10005_17 : decode (jm_b 10005) 17 = .ok (.aload_n 0, 1) := by decide +kernel
theorem d10005_18 : decode (jm_b 10005) 18 = .ok (.getfield 11, 3) := by decide +kernel
theorem d10005_21 : decode (jm_b 10005) 21 = .ok (.iload_n 1, 1) := by decide +kernel
theorem d10005_22 : decode (jm_b 10005) 22 = .ok (.aaload, 1) := by decide +kernel
theorem d10005_23 : decode (jm_b 10005) 23 = .ok (.invokevirtual 73, 3) := by decide +kernel
theorem d10005_26 : decode (jm_b 10005) 26 = .ok (.istore 5, 2) := by decide +kernel
theorem d10005_28 : decode (jm_b 10005) 28 = .ok (.iload 5, 2) := by decide +kernel
theorem d10005_30 : decode (jm_b 10005) 30 = .ok (.invokestatic 77, 3) := by decide +kernel
theorem d10005_33 : decode (jm_b 10005) 33 = .ok (.invokestatic 81, 3) := by decide +kernel
theorem d10005_36 : decode (jm_b 10005) 36 = .ok (.iload 5, 2) := by decide +kernel
theorem d10005_38 : decode (jm_b 10005) 38 = .ok (.invokestatic 86, 3) := by decide +kernel
theorem d10005_41 : decode (jm_b 10005) 41 = .ok (.invokestatic 81, 3) := by decide +kernel
theorem d10005_44 : decode (jm_b 10005) 44 = .ok (.isub, 1) := by decide +kernel
theorem d10005_45 : decode (jm_b 10005) 45 = .ok (.ireturn, 1) := by decide +kernel
theorem d10005_46 : decode (jm_b 10005) 46 = .ok (.iload_n 1, 1) := by decide +kernel
theorem d10005_47 : decode (jm_b 10005) 47 = .ok (.iconst 2, 1) := by decide +kernel
theorem d10005_48 : decode (jm_b 10005) 48 = .ok (.irem, 1) := by decide +kernel
theorem d10005_49 : decode (jm_b 10005) 49 = .ok (.ifCond .ne 7, 3) := by decide +kernel
theorem d10005_52 : decode (jm_b 10005) 52 = .ok (.iconst 1, 1) := by decide +kernel
theorem d10005_53 : decode (jm_b 10005) 53 = .ok (.goto 4, 3) := by decide +kernel
theorem d10005_56 : decode (jm_b 10005) 56 = .ok (.iconst (-1), 1) := by decide +kernel
theorem d10005_57 : decode (jm_b 10005) 57 = .ok (.istore 5, 2) := by decide +kernel
theorem d10005_59 : decode (jm_b 10005) 59 = .ok (.bipush (-100), 2) := by decide +kernel
theorem d10005_61 : decode (jm_b 10005) 61 = .ok (.iload 5, 2) := by decide +kernel
theorem d10005_63 : decode (jm_b 10005) 63 = .ok (.imul, 1) := by decide +kernel
theorem d10005_64 : decode (jm_b 10005) 64 = .ok (.istore 6, 2) := by decide +kernel
theorem d10005_66 : decode (jm_b 10005) 66 = .ok (.iconst (-1), 1) := by decide +kernel
theorem d10005_67 : decode (jm_b 10005) 67 = .ok (.istore 7, 2) := by decide +kernel
theorem d10005_69 : decode (jm_b 10005) 69 = .ok (.iload_n 3, 1) := by decide +kernel
theorem d10005_70 : decode (jm_b 10005) 70 = .ok (.istore 8, 2) := by decide +kernel
theorem d10005_72 : decode (jm_b 10005) 72 = .ok (.iload 4, 2) := by decide +kernel
theorem d10005_74 : decode (jm_b 10005) 74 = .ok (.istore 9, 2) := by decide +kernel
theorem d10005_76 : decode (jm_b 10005) 76 = .ok (.iconst (-1), 1) := by decide +kernel
theorem d10005_77 : decode (jm_b 10005) 77 = .ok (.istore 10, 2) := by decide +kernel
theorem d10005_79 : decode (jm_b 10005) 79 = .ok (.iload 10, 2) := by decide +kernel
theorem d10005_81 : decode (jm_b 10005) 81 = .ok (.aload_n 0, 1) := by decide +kernel
theorem d10005_82 : decode (jm_b 10005) 82 = .ok (.getfield 21, 3) := by decide +kernel
theorem d10005_85 : decode (jm_b 10005) 85 = .ok (.getfield 34, 3) := by decide +kernel
theorem d10005_88 : decode (jm_b 10005) 88 = .ok (.getfield 50, 3) := by decide +kernel
theorem d10005_91 : decode (jm_b 10005) 91 = .ok (.if_icmp .ge 151, 3) := by decide +kernel
theorem d10005_94 : decode (jm_b 10005) 94 = .ok (.iload 10, 2) := by decide +kernel
theorem d10005_96 : decode (jm_b 10005) 96 = .ok (.iconst (-1), 1) := by decide +kernel
theorem d10005_97 : decode (jm_b 10005) 97 = .ok (.if_icmp .ne 7, 3) := by decide +kernel
theorem d10005_100 : decode (jm_b 10005) 100 = .ok (.iconst 1, 1) := by decide +kernel
theorem d10005_101 : decode (jm_b 10005) 101 = .ok (.goto 4, 3) := by decide +kernel
theorem d10005_104 : decode (jm_b 10005) 104 = .ok (.iconst 0, 1) := by decide +kernel
theorem d10005_105 : decode (jm_b 10005) 105 = .ok (.istore 11, 2) := by decide +kernel
theorem d10005_107 : decode (jm_b 10005) 107 = .ok (.iload 11, 2) := by decide +kernel
theorem d10005_109 : decode (jm_b 10005) 109 = .ok (.ifCond .ne 17, 3) := by decide +kernel
theorem d10005_112 : decode (jm_b 10005) 112 = .ok (.aload_n 0, 1) := by decide +kernel
theorem d10005_113 : decode (jm_b 10005) 113 = .ok (.getfield 11, 3) := by decide +kernel
theorem d10005_116 : decode (jm_b 10005) 116 = .ok (.iload_n 1, 1) := by decide +kernel
theorem d10005_117 : decode (jm_b 10005) 117 = .ok (.aaload, 1) := by decide +kernel
theorem d10005_118 : decode (jm_b 10005) 118 = .ok (.iload 10, 2) := by decide +kernel
theorem d10005_120 : decode (jm_b 10005) 120 = .ok (.invokevirtual 54, 3) := by decide +kernel
theorem d10005_123 : decode (jm_b 10005) 123 = .ok (.ifCond .ne 113, 3) := by decide +kernel
theorem d10005_126 : decode (jm_b 10005) 126 = .ok (.aload_n 0, 1) := by decide +kernel
theorem d10005_127 : decode (jm_b 10005) 127 = .ok (.iload_n 1, 1) := by decide +kernel
theorem d10005_128 : decode (jm_b 10005) 128 = .ok (.iload 11, 2) := by decide +kernel
theorem d10005_130 : decode (jm_b 10005) 130 = .ok (.ifCond .eq 7, 3) := by decide +kernel
theorem d10005_133 : decode (jm_b 10005) 133 = .ok (.iconst 0, 1) := by decide +kernel
theorem d10005_134 : decode (jm_b 10005) 134 = .ok (.goto 5, 3) := by decide +kernel
theorem d10005_137 : decode (jm_b 10005) 137 = .ok (.iload 10, 2) := by decide +kernel
theorem d10005_139 : decode (jm_b 10005) 139 = .ok (.iload 11, 2) := by decide +kernel
theorem d10005_141 : decode (jm_b 10005) 141 = .ok (.ifCond .eq 7, 3) := by decide +kernel
theorem d10005_144 : decode (jm_b 10005) 144 = .ok (.iconst 0, 1) := by decide +kernel
theorem d10005_145 : decode (jm_b 10005) 145 = .ok (.goto 5, 3) := by decide +kernel
theorem d10005_148 : decode (jm_b 10005) 148 = .ok (.iload 5, 2) := by decide +kernel
theorem d10005_150 : decode (jm_b 10005) 150 = .ok (.invokevirtual 46, 3) := by decide +kernel
theorem d10005_153 : decode (jm_b 10005) 153 = .ok (.aload_n 0, 1) := by decide +kernel
theorem d10005_154 : decode (jm_b 10005) 154 = .ok (.iload_n 1, 1) := by decide +kernel
theorem d10005_155 : decode (jm_b 10005) 155 = .ok (.iconst 1, 1) := by decide +kernel
theorem d10005_156 : decode (jm_b 10005) 156 = .ok (.iadd, 1) := by decide +kernel
theorem d10005_157 : decode (jm_b 10005) 157 = .ok (.iload_n 2, 1) := by decide +kernel
theorem d10005_158 : decode (jm_b 10005) 158 = .ok (.iload 8, 2) := by decide +kernel
theorem d10005_160 : decode (jm_b 10005) 160 = .ok (.iload 9, 2) := by decide +kernel
theorem d10005_162 : decode (jm_b 10005) 162 = .ok (.invokevirtual 69, 3) := by decide +kernel
theorem d10005_165 : decode (jm_b 10005) 165 = .ok (.istore 12, 2) := by decide +kernel
theorem d10005_167 : decode (jm_b 10005) 167 = .ok (.iload 12, 2) := by decide +kernel
theorem d10005_169 : decode (jm_b 10005) 169 = .ok (.iload 5, 2) := by decide +kernel
theorem d10005_171 : decode (jm_b 10005) 171 = .ok (.imul, 1) := by decide +kernel
theorem d10005_172 : decode (jm_b 10005) 172 = .ok (.iload 6, 2) := by decide +kernel
theorem d10005_174 : decode (jm_b 10005) 174 = .ok (.iload 5, 2) := by decide +kernel
theorem d10005_176 : decode (jm_b 10005) 176 = .ok (.imul, 1) := by decide +kernel
theorem d10005_177 : decode (jm_b 10005) 177 = .ok (.if_icmp .le 11, 3) := by decide +kernel
theorem d10005_180 : decode (jm_b 10005) 180 = .ok (.iload 12, 2) := by decide +kernel
theorem d10005_182 : decode (jm_b 10005) 182 = .ok (.istore 6, 2) := by decide +kernel
theorem d10005_184 : decode (jm_b 10005) 184 = .ok (.iload 10, 2) := by decide +kernel
theorem d10005_186 : decode (jm_b 10005) 186 = .ok (.istore 7, 2) := by decide +kernel
theorem d10005_188 : decode (jm_b 10005) 188 = .ok (.iload 5, 2) := by decide +kernel
theorem d10005_190 : decode (jm_b 10005) 190 = .ok (.ifCond .le 13, 3) := by decide +kernel
theorem d10005_193 : decode (jm_b 10005) 193 = .ok (.iload 8, 2) := by decide +kernel
theorem d10005_195 : decode (jm_b 10005) 195 = .ok (.iload 6, 2) := by decide +kernel
theorem d10005_197 : decode (jm_b 10005) 197 = .ok (.invokestatic 89, 3) := by decide +kernel
theorem d10005_200 : decode (jm_b 10005) 200 = .ok (.goto 5, 3) := by decide +kernel
theorem d10005_203 : decode (jm_b 10005) 203 = .ok (.iload 8, 2) := by decide +kernel
theorem d10005_205 : decode (jm_b 10005) 205 = .ok (.istore 8, 2) := by decide +kernel
theorem d10005_207 : decode (jm_b 10005) 207 = .ok (.iload 5, 2) := by decide +kernel
theorem d10005_209 : decode (jm_b 10005) 209 = .ok (.ifCond .ge 13, 3) := by decide +kernel
theorem d10005_212 : decode (jm_b 10005) 212 = .ok (.iload 9, 2) := by decide +kernel
theorem d10005_214 : decode (jm_b 10005) 214 = .ok (.iload 6, 2) := by decide +kernel
theorem d10005_216 : decode (jm_b 10005) 216 = .ok (.invokestatic 95, 3) := by decide +kernel
theorem d10005_219 : decode (jm_b 10005) 219 = .ok (.goto 5, 3) := by decide +kernel
theorem d10005_222 : decode (jm_b 10005) 222 = .ok (.iload 9, 2) := by decide +kernel
theorem d10005_224 : decode (jm_b 10005) 224 = .ok (.istore 9, 2) := by decide +kernel
theorem d10005_226 : decode (jm_b 10005) 226 = .ok (.iload 8, 2) := by decide +kernel
theorem d10005_228 : decode (jm_b 10005) 228 = .ok (.iload 9, 2) := by decide +kernel
theorem d10005_230 : decode (jm_b 10005) 230 = .ok (.if_icmp .lt 6, 3) := by decide +kernel
theorem d10005_233 : decode (jm_b 10005) 233 = .ok (.goto 9, 3) := by decide +kernel
theorem d10005_236 : decode (jm_b 10005) 236 = .ok (.iinc 10 1, 3) := by decide +kernel
theorem d10005_239 : decode (jm_b 10005) 239 = .ok (.goto (-160), 3) := by decide +kernel
theorem d10005_242 : decode (jm_b 10005) 242 = .ok (.iload_n 1, 1) := by decide +kernel
theorem d10005_243 : decode (jm_b 10005) 243 = .ok (.ifCond .ne 9, 3) := by decide +kernel
theorem d10005_246 : decode (jm_b 10005) 246 = .ok (.aload_n 0, 1) := by decide +kernel
theorem d10005_247 : decode (jm_b 10005) 247 = .ok (.iload 7, 2) := by decide +kernel
theorem d10005_249 : decode (jm_b 10005) 249 = .ok (.putfield 98, 3) := by decide +kernel
theorem d10005_252 : decode (jm_b 10005) 252 = .ok (.iload 6, 2) := by decide +kernel
theorem d10005_254 : decode (jm_b 10005) 254 = .ok (.ireturn, 1) := by decide +kernel
theorem d29_0 : decode (jm_b 29) 0 = .ok (.iload_n 1, 1) := by decide +kernel
theorem d29_1 : decode (jm_b 29) 1 = .ok (.iconst (-1), 1) := by decide +kernel
theorem d29_2 : decode (jm_b 29) 2 = .ok (.if_icmp .ne 13, 3) := by decide +kernel
theorem d29_5 : decode (jm_b 29) 5 = .ok (.aload_n 0, 1) := by decide +kernel
theorem d29_6 : decode (jm_b 29) 6 = .ok (.getfield 41, 3) := by decide +kernel
theorem d29_9 : decode (jm_b 29) 9 = .ok (.iconst 0, 1) := by decide +kernel
theorem d29_10 : decode (jm_b 29) 10 = .ok (.putfield 248, 3) := by decide +kernel
theorem d29_13 : decode (jm_b 29) 13 = .ok (.iconst 0, 1) := by decide +kernel
theorem d29_14 : decode (jm_b 29) 14 = .ok (.ireturn, 1) := by decide +kernel
theorem d29_15 : decode (jm_b 29) 15 = .ok (.iload_n 1, 1) := by decide +kernel
theorem d29_16 : decode (jm_b 29) 16 = .ok (.ifCond .lt 39, 3) := by decide +kernel
theorem d29_19 : decode (jm_b 29) 19 = .ok (.iload_n 1, 1) := by decide +kernel
theorem d29_20 : decode (jm_b 29) 20 = .ok (.bipush 30, 2) := by decide +kernel
theorem d29_22 : decode (jm_b 29) 22 = .ok (.if_icmp .gt 33, 3) := by decide +kernel
theorem d29_25 : decode (jm_b 29) 25 = .ok (.aload_n 0, 1) := by decide +kernel
theorem d29_26 : decode (jm_b 29) 26 = .ok (.iload_n 2, 1) := by decide +kernel
theorem d29_27 : decode (jm_b 29) 27 = .ok (.invokevirtual 120, 3) := by decide +kernel
theorem d29_30 : decode (jm_b 29) 30 = .ok (.ifCond .eq 25, 3) := by decide +kernel
theorem d29_33 : decode (jm_b 29) 33 = .ok (.iload_n 3, 1) := by decide +kernel
theorem d29_34 : decode (jm_b 29) 34 = .ok (.ifCond .lt 21, 3) := by decide +kernel
theorem d29_37 : decode (jm_b 29) 37 = .ok (.iload_n 3, 1) := by decide +kernel
theorem d29_38 : decode (jm_b 29) 38 = .ok (.bipush 99, 2) := by decide +kernel
theorem d29_40 : decode (jm_b 29) 40 = .ok (.if_icmp .gt 15, 3) := by decide +kernel
theorem d29_43 : decode (jm_b 29) 43 = .ok (.aload_n 0, 1) := by decide +kernel
theorem d29_44 : decode (jm_b 29) 44 = .ok (.getfield 41, 3) := by decide +kernel
theorem d29_47 : decode (jm_b 29) 47 = .ok (.getfield 248, 3) := by decide +kernel
theorem d29_50 : decode (jm_b 29) 50 = .ok (.bipush 10, 2) := by decide +kernel
theorem d29_52 : decode (jm_b 29) 52 = .ok (.if_icmp .lt 6, 3) := by decide +kernel
theorem d29_55 : decode (jm_b 29) 55 = .ok (.bipush (-2), 2) := by decide +kernel
theorem d29_57 : decode (jm_b 29) 57 = .ok (.ireturn, 1) := by decide +kernel
theorem d29_58 : decode (jm_b 29) 58 = .ok (.aload_n 0, 1) := by decide +kernel
theorem d29_59 : decode (jm_b 29) 59 = .ok (.getfield 41, 3) := by decide +kernel
theorem d29_62 : decode (jm_b 29) 62 = .ok (.iload_n 1, 1) := by decide +kernel
theorem d29_63 : decode (jm_b 29) 63 = .ok (.iload_n 2, 1) := by decide +kernel
theorem d29_64 : decode (jm_b 29) 64 = .ok (.iload_n 3, 1) := by decide +kernel
theorem d29_65 : decode (jm_b 29) 65 = .ok (.invokevirtual 251, 3) := by decide +kernel
theorem d29_68 : decode (jm_b 29) 68 = .ok (.aload_n 0, 1) := by decide +kernel
theorem d29_69 : decode (jm_b 29) 69 = .ok (.getfield 41, 3) := by decide +kernel
theorem d29_72 : decode (jm_b 29) 72 = .ok (.getfield 248, 3) := by decide +kernel
theorem d29_75 : decode (jm_b 29) 75 = .ok (.ireturn, 1) := by decide +kernel
theorem d7005_0 : decode (jm_b 7005) 0 = .ok (.aload_n 0, 1) := by decide +kernel
theorem d7005_1 : decode (jm_b 7005) 1 = .ok (.getfield 49, 3) := by decide +kernel
theorem d7005_4 : decode (jm_b 7005) 4 = .ok (.bipush 10, 2) := by decide +kernel
theorem d7005_6 : decode (jm_b 7005) 6 = .ok (.if_icmp .ge 43, 3) := by decide +kernel
theorem d7005_9 : decode (jm_b 7005) 9 = .ok (.aload_n 0, 1) := by decide +kernel
theorem d7005_10 : decode (jm_b 7005) 10 = .ok (.getfield 29, 3) := by decide +kernel
theorem d7005_13 : decode (jm_b 7005) 13 = .ok (.aload_n 0, 1) := by decide +kernel
theorem d7005_14 : decode (jm_b 7005) 14 = .ok (.getfield 49, 3) := by decide +kernel
theorem d7005_17 : decode (jm_b 7005) 17 = .ok (.iload_n 1, 1) := by decide +kernel
theorem d7005_18 : decode (jm_b 7005) 18 = .ok (.iastore, 1) := by decide +kernel
theorem d7005_19 : decode (jm_b 7005) 19 = .ok (.aload_n 0, 1) := by decide +kernel
theorem d7005_20 : decode (jm_b 7005) 20 = .ok (.getfield 33, 3) := by decide +kernel
theorem d7005_23 : decode (jm_b 7005) 23 = .ok (.aload_n 0, 1) := by decide +kernel
theorem d7005_24 : decode (jm_b 7005) 24 = .ok (.getfield 49, 3) := by decide +kernel
theorem d7005_27 : decode (jm_b 7005) 27 = .ok (.iload_n 2, 1) := by decide +kernel
theorem d7005_28 : decode (jm_b 7005) 28 = .ok (.iastore, 1) := by decide +kernel
theorem d7005_29 : decode (jm_b 7005) 29 = .ok (.aload_n 0, 1) := by decide +kernel
theorem d7005_30 : decode (jm_b 7005) 30 = .ok (.getfield 36, 3) := by decide +kernel
theorem d7005_33 : decode (jm_b 7005) 33 = .ok (.aload_n 0, 1) := by decide +kernel
theorem d7005_34 : decode (jm_b 7005) 34 = .ok (.getfield 49, 3) := by decide +kernel
theorem d7005_37 : decode (jm_b 7005) 37 = .ok (.iload_n 3, 1) := by decide +kernel
theorem d7005_38 : decode (jm_b 7005) 38 = .ok (.iastore, 1) := by decide +kernel
theorem d7005_39 : decode (jm_b 7005) 39 = .ok (.aload_n 0, 1) := by decide +kernel
theorem d7005_40 : decode (jm_b 7005) 40 = .ok (.dup, 1) := by decide +kernel
theorem d7005_41 : decode (jm_b 7005) 41 = .ok (.getfield 49, 3) := by decide +kernel
theorem d7005_44 : decode (jm_b 7005) 44 = .ok (.iconst 1, 1) := by decide +kernel
theorem d7005_45 : decode (jm_b 7005) 45 = .ok (.iadd, 1) := by decide +kernel
theorem d7005_46 : decode (jm_b 7005) 46 = .ok (.putfield 49, 3) := by decide +kernel
theorem d7005_49 : decode (jm_b 7005) 49 = .ok (.return_, 1) := by decide +kernel
theorem d30_0 : decode (jm_b 30) 0 = .ok (.aload_n 0, 1) := by decide +kernel
theorem d30_1 : decode (jm_b 30) 1 = .ok (.iload_n 1, 1) := by decide +kernel
theorem d30_2 : decode (jm_b 30) 2 = .ok (.invokevirtual 255, 3) := by decide +kernel
theorem d30_5 : decode (jm_b 30) 5 = .ok (.ifCond .eq 12, 3) := by decide +kernel
theorem d30_8 : decode (jm_b 30) 8 = .ok (.iload_n 2, 1) := by decide +kernel
theorem d30_9 : decode (jm_b 30) 9 = .ok (.ifCond .lt 8, 3) := by decide +kernel
theorem d30_12 : decode (jm_b 30) 12 = .ok (.iload_n 2, 1) := by decide +kernel
theorem d30_13 : decode (jm_b 30) 13 = .ok (.iconst 2, 1) := by decide +kernel
theorem d30_14 : decode (jm_b 30) 14 = .ok (.if_icmp .le 5, 3) := by decide +kernel
theorem d30_17 : decode (jm_b 30) 17 = .ok (.iconst (-1), 1) := by decide +kernel
theorem d30_18 : decode (jm_b 30) 18 = .ok (.ireturn, 1) := by decide +kernel
theorem d30_19 : decode (jm_b 30) 19 = .ok (.aload_n 0, 1) := by decide +kernel
theorem d30_20 : decode (jm_b 30) 20 = .ok (.getfield 79, 3) := by decide +kernel
theorem d30_23 : decode (jm_b 30) 23 = .ok (.aload_n 0, 1) := by decide +kernel
theorem d30_24 : decode (jm_b 30) 24 = .ok (.getfield 41, 3) := by decide +kernel
theorem d30_27 : decode (jm_b 30) 27 = .ok (.iload_n 1, 1) := by decide +kernel
theorem d30_28 : decode (jm_b 30) 28 = .ok (.invokevirtual 258, 3) := by decide +kernel
theorem d30_31 : decode (jm_b 30) 31 = .ok (.iload_n 2, 1) := by decide +kernel
theorem d30_32 : decode (jm_b 30) 32 = .ok (.ifCond .ne 11, 3) := by decide +kernel
theorem d30_35 : decode (jm_b 30) 35 = .ok (.aload_n 0, 1) := by decide +kernel
theorem d30_36 : decode (jm_b 30) 36 = .ok (.getfield 79, 3) := by decide +kernel
theorem d30_39 : decode (jm_b 30) 39 = .ok (.getfield 262, 3) := by decide +kernel
theorem d30_42 : decode (jm_b 30) 42 = .ok (.ireturn, 1) := by decide +kernel
theorem d30_43 : decode (jm_b 30) 43 = .ok (.aload_n 0, 1) := by decide +kernel
theorem d30_44 : decode (jm_b 30) 44 = .ok (.getfield 79, 3) := by decide +kernel
theorem d30_47 : decode (jm_b 30) 47 = .ok (.getfield 262, 3) := by decide +kernel
theorem d30_50 : decode (jm_b 30) 50 = .ok (.ifCond .ne 6, 3) := by decide +kernel
theorem d30_53 : decode (jm_b 30) 53 = .ok (.bipush (-2), 2) := by decide +kernel
theorem d30_55 : decode (jm_b 30) 55 = .ok (.ireturn, 1) := by decide +kernel
theorem d30_56 : decode (jm_b 30) 56 = .ok (.iload_n 2, 1) := by decide +kernel
theorem d30_57 : decode (jm_b 30) 57 = .ok (.iconst 1, 1) := by decide +kernel
theorem d30_58 : decode (jm_b 30) 58 = .ok (.if_icmp .ne 15, 3) := by decide +kernel
theorem d30_61 : decode (jm_b 30) 61 = .ok (.aload_n 0, 1) := by decide +kernel
theorem d30_62 : decode (jm_b 30) 62 = .ok (.getfield 79, 3) := by decide +kernel
theorem d30_65 : decode (jm_b 30) 65 = .ok (.getfield 265, 3) := by decide +kernel
theorem d30_68 : decode (jm_b 30) 68 = .ok (.iconst 0, 1) := by decide +kernel
theorem d30_69 : decode (jm_b 30) 69 = .ok (.iaload, 1) := by decide +kernel
theorem d30_70 : decode (jm_b 30) 70 = .ok (.goto 12, 3) := by decide +kernel
theorem d30_73 : decode (jm_b 30) 73 = .ok (.aload_n 0, 1) := by decide +kernel
theorem d30_74 : decode (jm_b 30) 74 = .ok (.getfield 79, 3) := by decide +kernel
theorem d30_77 : decode (jm_b 30) 77 = .ok (.getfield 268, 3) := by decide +kernel
theorem d30_80 : decode (jm_b 30) 80 = .ok (.iconst 0, 1) := by decide +kernel
theorem d30_81 : decode (jm_b 30) 81 = .ok (.iaload, 1) := by decide +kernel
theorem d30_82 : decode (jm_b 30) 82 = .ok (.ireturn, 1) := by decide +kernel
theorem d31_0 : decode (jm_b 31) 0 = .ok (.aload_n 0, 1) := by decide +kernel
theorem d31_1 : decode (jm_b 31) 1 = .ok (.invokevirtual 169, 3) := by decide +kernel
theorem d31_4 : decode (jm_b 31) 4 = .ok (.ifCond .eq 18, 3) := by decide +kernel
theorem d31_7 : decode (jm_b 31) 7 = .ok (.iload_n 1, 1) := by decide +kernel
theorem d31_8 : decode (jm_b 31) 8 = .ok (.iconst 1, 1) := by decide +kernel
theorem d31_9 : decode (jm_b 31) 9 = .ok (.if_icmp .lt 13, 3) := by decide +kernel
theorem d31_12 : decode (jm_b 31) 12 = .ok (.iload_n 1, 1) := by decide +kernel
theorem d31_13 : decode (jm_b 31) 13 = .ok (.bipush 99, 2) := by decide +kernel
theorem d31_15 : decode (jm_b 31) 15 = .ok (.if_icmp .gt 7, 3) := by decide +kernel
theorem d31_18 : decode (jm_b 31) 18 = .ok (.iconst 1, 1) := by decide +kernel
theorem d31_19 : decode (jm_b 31) 19 = .ok (.goto 4, 3) := by decide +kernel
theorem d31_22 : decode (jm_b 31) 22 = .ok (.iconst 0, 1) := by decide +kernel
theorem d31_23 : decode (jm_b 31) 23 = .ok (.ireturn, 1) := by decide +kernel
theorem d11001_0 : decode (jm_b 11001) 0 = .ok (.aload_n 0, 1) := by decide +kernel
theorem d11001_1 : decode (jm_b 11001) 1 = .ok (.aload_n 1, 1) := by decide +kernel
theorem d11001_2 : decode (jm_b 11001) 2 = .ok (.getfield 31, 3) := by decide +kernel
theorem d11001_5 : decode (jm_b 11001) 5 = .ok (.putfield 27, 3) := by decide +kernel
theorem d11001_8 : decode (jm_b 11001) 8 = .ok (.aload_n 0, 1) := by decide +kernel
theorem d11001_9 : decode (jm_b 11001) 9 = .ok (.iload_n 2, 1) := by decide +kernel
theorem d11001_10 : decode (jm_b 11001) 10 = .ok (.putfield 34, 3) := by decide +kernel
theorem d11001_13 : decode (jm_b 11001) 13 = .ok (.aload_n 0, 1) := by decide +kernel
theorem d11001_14 : decode (jm_b 11001) 14 = .ok (.iconst 0, 1) := by decide +kernel
theorem d11001_15 : decode (jm_b 11001) 15 = .ok (.putfield 38, 3) := by decide +kernel
theorem d11001_18 : decode (jm_b 11001) 18 = .ok (.aload_n 0, 1) := by decide +kernel
theorem d11001_19 : decode (jm_b 11001) 19 = .ok (.invokevirtual 41, 3) := by decide +kernel
theorem d11001_22 : decode (jm_b 11001) 22 = .ok (.iconst 0, 1) := by decide +kernel
theorem d11001_23 : decode (jm_b 11001) 23 = .ok (.istore_n 3, 1) := by decide +kernel
theorem d11001_24 : decode (jm_b 11001) 24 = .ok (.iload_n 3, 1) := by decide +kernel
theorem d11001_25 : decode (jm_b 11001) 25 = .ok (.aload_n 0, 1) := by decide +kernel
theorem d11001_26 : decode (jm_b 11001) 26 = .ok (.getfield 27, 3) := by decide +kernel
theorem d11001_29 : decode (jm_b 11001) 29 = .ok (.getfield 44, 3) := by decide +kernel
theorem d11001_32 : decode (jm_b 11001) 32 = .ok (.if_icmp .ge 77, 3) := by decide +kernel
theorem d11001_35 : decode (jm_b 11001) 35 = .ok (.iconst 0, 1) := by decide +kernel
theorem d11001_36 : decode (jm_b 11001) 36 = .ok (.istore 4, 2) := by decide +kernel
theorem d11001_38 : decode (jm_b 11001) 38 = .ok (.iload 4, 2) := by decide +kernel
theorem d11001_40 : decode (jm_b 11001) 40 = .ok (.bipush 30, 2) := by decide +kernel
theorem d11001_42 : decode (jm_b 11001) 42 = .ok (.if_icmp .ge 61, 3) := by decide +kernel
theorem d11001_45 : decode (jm_b 11001) 45 = .ok (.aload_n 0, 1) := by decide +kernel
theorem d11001_46 : decode (jm_b 11001) 46 = .ok (.iload_n 3, 1) := by decide +kernel
theorem d11001_47 : decode (jm_b 11001) 47 = .ok (.iload 4, 2) := by decide +kernel
theorem d11001_49 : decode (jm_b 11001) 49 = .ok (.invokevirtual 46, 3) := by decide +kernel
theorem d11001_52 : decode (jm_b 11001) 52 = .ok (.ifCond .eq 45, 3) := by decide +kernel
theorem d11001_55 : decode (jm_b 11001) 55 = .ok (.aload_n 0, 1) := by decide +kernel
theorem d11001_56 : decode (jm_b 11001) 56 = .ok (.aload_n 1, 1) := by decide +kernel
theorem d11001_57 : decode (jm_b 11001) 57 = .ok (.iload_n 3, 1) := by decide +kernel
theorem d11001_58 : decode (jm_b 11001) 58 = .ok (.iload 4, 2) := by decide +kernel
theorem d11001_60 : decode (jm_b 11001) 60 = .ok (.invokevirtual 50, 3) := by decide +kernel
theorem d11001_63 : decode (jm_b 11001) 63 = .ok (.ifCond .eq 34, 3) := by decide +kernel
theorem d11001_66 : decode (jm_b 11001) 66 = .ok (.aload_n 0, 1) := by decide +kernel
theorem d11001_67 : decode (jm_b 11001) 67 = .ok (.getfield 15, 3) := by decide +kernel
theorem d11001_70 : decode (jm_b 11001) 70 = .ok (.aload_n 0, 1) := by decide +kernel
theorem d11001_71 : decode (jm_b 11001) 71 = .ok (.getfield 38, 3) := by decide +kernel
theorem d11001_74 : decode (jm_b 11001) 74 = .ok (.iload_n 3, 1) := by decide +kernel
theorem d11001_75 : decode (jm_b 11001) 75 = .ok (.iastore, 1) := by decide +kernel
theorem d11001_76 : decode (jm_b 11001) 76 = .ok (.aload_n 0, 1) := by decide +kernel
theorem d11001_77 : decode (jm_b 11001) 77 = .ok (.getfield 18, 3) := by decide +kernel
theorem d11001_80 : decode (jm_b 11001) 80 = .ok (.aload_n 0, 1) := by decide +kernel
theorem d11001_81 : decode (jm_b 11001) 81 = .ok (.getfield 38, 3) := by decide +kernel
theorem d11001_84 : decode (jm_b 11001) 84 = .ok (.iload 4, 2) := by decide +kernel
theorem d11001_86 : decode (jm_b 11001) 86 = .ok (.iastore, 1) := by decide +kernel
theorem d11001_87 : decode (jm_b 11001) 87 = .ok (.aload_n 0, 1) := by decide +kernel
theorem d11001_88 : decode (jm_b 11001) 88 = .ok (.dup, 1) := by decide +kernel
theorem d11001_89 : decode (jm_b 11001) 89 = .ok (.getfield 38, 3) := by decide +kernel
theorem d11001_92 : decode (jm_b 11001) 92 = .ok (.iconst 1, 1) := by decide +kernel
theorem d11001_93 : decode (jm_b 11001) 93 = .ok (.iadd, 1) := by decide +kernel
theorem d11001_94 : decode (jm_b 11001) 94 = .ok (.putfield 38, 3) := by decide +kernel
theorem d11001_97 : decode (jm_b 11001) 97 = .ok (.iinc 4 1, 3) := by decide +kernel
theorem d11001_100 : decode (jm_b 11001) 100 = .ok (.goto (-62), 3) := by decide +kernel
theorem d11001_103 : decode (jm_b 11001) 103 = .ok (.iinc 3 1, 3) := by decide +kernel
theorem d11001_106 : decode (jm_b 11001) 106 = .ok (.goto (-82), 3) := by decide +kernel
theorem d11001_109 : decode (jm_b 11001) 109 = .ok (.return_, 1) := by decide +kernel
theorem d11002_0 : decode (jm_b 11002) 0 = .ok (.iconst 0, 1) := by decide +kernel
theorem d11002_1 : decode (jm_b 11002) 1 = .ok (.istore_n 1, 1) := by decide +kernel
theorem d11002_2 : decode (jm_b 11002) 2 = .ok (.iload_n 1, 1) := by decide +kernel
theorem d11002_3 : decode (jm_b 11002) 3 = .ok (.aload_n 0, 1) := by decide +kernel
theorem d11002_4 : decode (jm_b 11002) 4 = .ok (.getfield 27, 3) := by decide +kernel
theorem d11002_7 : decode (jm_b 11002) 7 = .ok (.getfield 44, 3) := by decide +kernel
theorem d11002_10 : decode (jm_b 11002) 10 = .ok (.if_icmp .ge 73, 3) := by decide +kernel
theorem d11002_13 : decode (jm_b 11002) 13 = .ok (.aload_n 0, 1) := by decide +kernel
theorem d11002_14 : decode (jm_b 11002) 14 = .ok (.getfield 27, 3) := by decide +kernel
theorem d11002_17 : decode (jm_b 11002) 17 = .ok (.getfield 54, 3) := by decide +kernel
theorem d11002_20 : decode (jm_b 11002) 20 = .ok (.getfield 58, 3) := by decide +kernel
theorem d11002_23 : decode (jm_b 11002) 23 = .ok (.iload_n 1, 1) := by decide +kernel
theorem d11002_24 : decode (jm_b 11002) 24 = .ok (.iaload, 1) := by decide +kernel
theorem d11002_25 : decode (jm_b 11002) 25 = .ok (.istore_n 2, 1) := by decide +kernel
theorem d11002_26 : decode (jm_b 11002) 26 = .ok (.iconst 0, 1) := by decide +kernel
theorem d11002_27 : decode (jm_b 11002) 27 = .ok (.istore_n 3, 1) := by decide +kernel
theorem d11002_28 : decode (jm_b 11002) 28 = .ok (.iload_n 3, 1) := by decide +kernel
theorem d11002_29 : decode (jm_b 11002) 29 = .ok (.bipush 31, 2) := by decide +kernel
theorem d11002_31 : decode (jm_b 11002) 31 = .ok (.if_icmp .ge 46, 3) := by decide +kernel
theorem d11002_34 : decode (jm_b 11002) 34 = .ok (.aload_n 0, 1) := by decide +kernel
theorem d11002_35 : decode (jm_b 11002) 35 = .ok (.getfield 11, 3) := by decide +kernel
theorem d11002_38 : decode (jm_b 11002) 38 = .ok (.iload_n 1, 1) := by decide +kernel
theorem d11002_39 : decode (jm_b 11002) 39 = .ok (.bipush 31, 2) := by decide +kernel
theorem d11002_41 : decode (jm_b 11002) 41 = .ok (.imul, 1) := by decide +kernel
theorem d11002_42 : decode (jm_b 11002) 42 = .ok (.iload_n 3, 1) := by decide +kernel
theorem d11002_43 : decode (jm_b 11002) 43 = .ok (.iadd, 1) := by decide +kernel
theorem d11002_44 : decode (jm_b 11002) 44 = .ok (.iload_n 2, 1) := by decide +kernel
theorem d11002_45 : decode (jm_b 11002) 45 = .ok (.iastore, 1) := by decide +kernel
theorem d11002_46 : decode (jm_b 11002) 46 = .ok (.aload_n 0, 1) := by decide +kernel
theorem d11002_47 : decode (jm_b 11002) 47 = .ok (.getfield 27, 3) := by decide +kernel
theorem d11002_50 : decode (jm_b 11002) 50 = .ok (.getfield 54, 3) := by decide +kernel
theorem d11002_53 : decode (jm_b 11002) 53 = .ok (.iload_n 1, 1) := by decide +kernel
theorem d11002_54 : decode (jm_b 11002) 54 = .ok (.invokevirtual 63, 3) := by decide +kernel
theorem d11002_57 : decode (jm_b 11002) 57 = .ok (.ifCond .eq 7, 3) := by decide +kernel
theorem d11002_60 : decode (jm_b 11002) 60 = .ok (.iload_n 2, 1) := by decide +kernel
theorem d11002_61 : decode (jm_b 11002) 61 = .ok (.goto 9, 3) := by decide +kernel
theorem d11002_64 : decode (jm_b 11002) 64 = .ok (.aload_n 0, 1) := by decide +kernel
theorem d11002_65 : decode (jm_b 11002) 65 = .ok (.iload_n 2, 1) := by decide +kernel
theorem d11002_66 : decode (jm_b 11002) 66 = .ok (.iload_n 3, 1) := by decide +kernel
theorem d11002_67 : decode (jm_b 11002) 67 = .ok (.invokevirtual 67, 3) := by decide +kernel
theorem d11002_70 : decode (jm_b 11002) 70 = .ok (.istore_n 2, 1) := by decide +kernel
theorem d11002_71 : decode (jm_b 11002) 71 = .ok (.iinc 3 1, 3) := by decide +kernel
theorem d11002_74 : decode (jm_b 11002) 74 = .ok (.goto (-46), 3) := by decide +kernel
theorem d11002_77 : decode (jm_b 11002) 77 = .ok (.iinc 1 1, 3) := by decide +kernel
theorem d11002_80 : decode (jm_b 11002) 80 = .ok (.goto (-78), 3) := by decide +kernel
theorem d11002_83 : decode (jm_b 11002) 83 = .ok (.return_, 1) := by decide +kernel
theorem d11003_0 : decode (jm_b 11003) 0 = .ok (.iload_n 1, 1) := by decide +kernel
theorem d11003_1 : decode (jm_b 11003) 1 = .ok (.aload_n 0, 1) := by decide +kernel
theorem d11003_2 : decode (jm_b 11003) 2 = .ok (.getfield 27, 3) := by decide +kernel
theorem d11003_5 : decode (jm_b 11003) 5 = .ok (.iload_n 2, 1) := by decide +kernel
theorem d11003_6 : decode (jm_b 11003) 6 = .ok (.invokevirtual 71, 3) := by decide +kernel
theorem d11003_9 : decode (jm_b 11003) 9 = .ok (.iadd, 1) := by decide +kernel
theorem d11003_10 : decode (jm_b 11003) 10 = .ok (.bipush 99, 2) := by decide +kernel
theorem d11003_12 : decode (jm_b 11003) 12 = .ok (.invokestatic 75, 3) := by decide +kernel
theorem d11003_15 : decode (jm_b 11003) 15 = .ok (.ireturn, 1) := by decide +kernel
theorem d11004_0 : decode (jm_b 11004) 0 = .ok (.aload_n 0, 1) := by decide +kernel
theorem d11004_1 : decode (jm_b 11004) 1 = .ok (.getfield 27, 3) := by decide +kernel
theorem d11004_4 : decode (jm_b 11004) 4 = .ok (.getfield 54, 3) := by decide +kernel
theorem d11004_7 : decode (jm_b 11004) 7 = .ok (.iload_n 1, 1) := by decide +kernel
theorem d11004_8 : decode (jm_b 11004) 8 = .ok (.invokevirtual 63, 3) := by decide +kernel
theorem d11004_11 : decode (jm_b 11004) 11 = .ok (.ifCond .ne 25, 3) := by decide +kernel
theorem d11004_14 : decode (jm_b 11004) 14 = .ok (.aload_n 0, 1) := by decide +kernel
theorem d11004_15 : decode (jm_b 11004) 15 = .ok (.getfield 11, 3) := by decide +kernel
theorem d11004_18 : decode (jm_b 11004) 18 = .ok (.iload_n 1, 1) := by decide +kernel
theorem d11004_19 : decode (jm_b 11004) 19 = .ok (.bipush 31, 2) := by decide +kernel
theorem d11004_21 : decode (jm_b 11004) 21 = .ok (.imul, 1) := by decide +kernel
theorem d11004_22 : decode (jm_b 11004) 22 = .ok (.iload_n 2, 1) := by decide +kernel
theorem d11004_23 : decode (jm_b 11004) 23 = .ok (.iadd, 1) := by decide +kernel
theorem d11004_24 : decode (jm_b 11004) 24 = .ok (.iaload, 1) := by decide +kernel
theorem d11004_25 : decode (jm_b 11004) 25 = .ok (.aload_n 0, 1) := by decide +kernel
theorem d11004_26 : decode (jm_b 11004) 26 = .ok (.getfield 34, 3) := by decide +kernel
theorem d11004_29 : decode (jm_b 11004) 29 = .ok (.if_icmp .lt 7, 3) := by decide +kernel
theorem d11004_32 : decode (jm_b 11004) 32 = .ok (.iconst 1, 1) := by decide +kernel
theorem d11004_33 : decode (jm_b 11004) 33 = .ok (.goto 4, 3) := by decide +kernel
theorem d11004_36 : decode (jm_b 11004) 36 = .ok (.iconst 0, 1) := by decide +kernel
theorem d11004_37 : decode (jm_b 11004) 37 = .ok (.ireturn, 1) := by decide +kernel
theorem d11005_0 : decode (jm_b 11005) 0 = .ok (.iconst 0, 1) := by decide +kernel
theorem d11005_1 : decode (jm_b 11005) 1 = .ok (.istore 4, 2) := by decide +kernel
theorem d11005_3 : decode (jm_b 11005) 3 = .ok (.iload 4, 2) := by decide +kernel
theorem d11005_5 : decode (jm_b 11005) 5 = .ok (.aload_n 1, 1) := by decide +kernel
theorem d11005_6 : decode (jm_b 11005) 6 = .ok (.getfield 80, 3) := by decide +kernel
theorem d11005_9 : decode (jm_b 11005) 9 = .ok (.if_icmp .ge 45, 3) := by decide +kernel
theorem d11005_12 : decode (jm_b 11005) 12 = .ok (.aload_n 0, 1) := by decide +kernel
theorem d11005_13 : decode (jm_b 11005) 13 = .ok (.iload_n 2, 1) := by decide +kernel
theorem d11005_14 : decode (jm_b 11005) 14 = .ok (.iload_n 3, 1) := by decide +kernel
theorem d11005_15 : decode (jm_b 11005) 15 = .ok (.aload_n 1, 1) := by decide +kernel
theorem d11005_16 : decode (jm_b 11005) 16 = .ok (.getfield 83, 3) := by decide +kernel
theorem d11005_19 : decode (jm_b 11005) 19 = .ok (.iload 4, 2) := by decide +kernel
theorem d11005_21 : decode (jm_b 11005) 21 = .ok (.iaload, 1) := by decide +kernel
theorem d11005_22 : decode (jm_b 11005) 22 = .ok (.aload_n 1, 1) := by decide +kernel
theorem d11005_23 : decode (jm_b 11005) 23 = .ok (.getfield 86, 3) := by decide +kernel
theorem d11005_26 : decode (jm_b 11005) 26 = .ok (.iload 4, 2) := by decide +kernel
theorem d11005_28 : decode (jm_b 11005) 28 = .ok (.iaload, 1) := by decide +kernel
theorem d11005_29 : decode (jm_b 11005) 29 = .ok (.invokevirtual 89, 3) := by decide +kernel
theorem d11005_32 : decode (jm_b 11005) 32 = .ok (.istore 5, 2) := by decide +kernel
theorem d11005_34 : decode (jm_b 11005) 34 = .ok (.iload 5, 2) := by decide +kernel
theorem d11005_36 : decode (jm_b 11005) 36 = .ok (.aload_n 1, 1) := by decide +kernel
theorem d11005_37 : decode (jm_b 11005) 37 = .ok (.getfield 93, 3) := by decide +kernel
theorem d11005_40 : decode (jm_b 11005) 40 = .ok (.iload 4, 2) := by decide +kernel
theorem d11005_42 : decode (jm_b 11005) 42 = .ok (.iaload, 1) := by decide +kernel
theorem d11005_43 : decode (jm_b 11005) 43 = .ok (.if_icmp .eq 5, 3) := by decide +kernel
theorem d11005_46 : decode (jm_b 11005) 46 = .ok (.iconst 0, 1) := by decide +kernel
theorem d11005_47 : decode (jm_b 11005) 47 = .ok (.ireturn, 1) := by decide +kernel
theorem d11005_48 : decode (jm_b 11005) 48 = .ok (.iinc 4 1, 3) := by decide +kernel
theorem d11005_51 : decode (jm_b 11005) 51 = .ok (.goto (-48), 3) := by decide +kernel
theorem d11005_54 : decode (jm_b 11005) 54 = .ok (.iconst 1, 1) := by decide +kernel
theorem d11005_55 : decode (jm_b 11005) 55 = .ok (.ireturn, 1) := by decide +kernel
theorem d11006_0 : decode (jm_b 11006) 0 = .ok (.iload_n 3, 1) := by decide +kernel
theorem d11006_1 : decode (jm_b 11006) 1 = .ok (.iload_n 1, 1) := by decide +kernel
theorem d11006_2 : decode (jm_b 11006) 2 = .ok (.if_icmp .ne 9, 3) := by decide +kernel
theorem d11006_5 : decode (jm_b 11006) 5 = .ok (.iload 4, 2) := by decide +kernel
theorem d11006_7 : decode (jm_b 11006) 7 = .ok (.iload_n 2, 1) := by decide +kernel
theorem d11006_8 : decode (jm_b 11006) 8 = .ok (.if_icmp .ge 16, 3) := by decide +kernel
theorem d11006_11 : decode (jm_b 11006) 11 = .ok (.aload_n 0, 1) := by decide +kernel
theorem d11006_12 : decode (jm_b 11006) 12 = .ok (.getfield 11, 3) := by decide +kernel
theorem d11006_15 : decode (jm_b 11006) 15 = .ok (.iload_n 3, 1) := by decide +kernel
theorem d11006_16 : decode (jm_b 11006) 16 = .ok (.bipush 31, 2) := by decide +kernel
theorem d11006_18 : decode (jm_b 11006) 18 = .ok (.imul, 1) := by decide +kernel
theorem d11006_19 : decode (jm_b 11006) 19 = .ok (.iload 4, 2) := by decide +kernel
theorem d11006_21 : decode (jm_b 11006) 21 = .ok (.iadd, 1) := by decide +kernel
theorem d11006_22 : decode (jm_b 11006) 22 = .ok (.iaload, 1) := by decide +kernel
theorem d11006_23 : decode (jm_b 11006) 23 = .ok (.ireturn, 1) := by decide +kernel
theorem d11006_24 : decode (jm_b 11006) 24 = .ok (.aload_n 0, 1) := by decide +kernel
theorem d11006_25 : decode (jm_b 11006) 25 = .ok (.getfield 11, 3) := by decide +kernel
theorem d11006_28 : decode (jm_b 11006) 28 = .ok (.iload_n 3, 1) := by decide +kernel
theorem d11006_29 : decode (jm_b 11006) 29 = .ok (.bipush 31, 2) := by decide +kernel
theorem d11006_31 : decode (jm_b 11006) 31 = .ok (.imul, 1) := by decide +kernel
theorem d11006_32 : decode (jm_b 11006) 32 = .ok (.iload_n 2, 1) := by decide +kernel
theorem d11006_33 : decode (jm_b 11006) 33 = .ok (.iadd, 1) := by decide +kernel
theorem d11006_34 : decode (jm_b 11006) 34 = .ok (.iaload, 1) := by decide +kernel
theorem d11006_35 : decode (jm_b 11006) 35 = .ok (.aload_n 0, 1) := by decide +kernel
theorem d11006_36 : decode (jm_b 11006) 36 = .ok (.getfield 34, 3) := by decide +kernel
theorem d11006_39 : decode (jm_b 11006) 39 = .ok (.isub, 1) := by decide +kernel
theorem d11006_40 : decode (jm_b 11006) 40 = .ok (.istore 5, 2) := by decide +kernel
theorem d11006_42 : decode (jm_b 11006) 42 = .ok (.iload_n 2, 1) := by decide +kernel
theorem d11006_43 : decode (jm_b 11006) 43 = .ok (.istore 6, 2) := by decide +kernel
theorem d11006_45 : decode (jm_b 11006) 45 = .ok (.iload 6, 2) := by decide +kernel
theorem d11006_47 : decode (jm_b 11006) 47 = .ok (.iload 4, 2) := by decide +kernel
theorem d11006_49 : decode (jm_b 11006) 49 = .ok (.if_icmp .ge 19, 3) := by decide +kernel
theorem d11006_52 : decode (jm_b 11006) 52 = .ok (.aload_n 0, 1) := by decide +kernel
theorem d11006_53 : decode (jm_b 11006) 53 = .ok (.iload 5, 2) := by decide +kernel
theorem d11006_55 : decode (jm_b 11006) 55 = .ok (.iload 6, 2) := by decide +kernel
theorem d11006_57 : decode (jm_b 11006) 57 = .ok (.invokevirtual 67, 3) := by decide +kernel
theorem d11006_60 : decode (jm_b 11006) 60 = .ok (.istore 5, 2) := by decide +kernel
theorem d11006_62 : decode (jm_b 11006) 62 = .ok (.iinc 6 1, 3) := by decide +kernel
theorem d11006_65 : decode (jm_b 11006) 65 = .ok (.goto (-20), 3) := by decide +kernel
theorem d11006_68 : decode (jm_b 11006) 68 = .ok (.iload 5, 2) := by decide +kernel
theorem d11006_70 : decode (jm_b 11006) 70 = .ok (.ireturn, 1) := by decide +kernel
theorem d32_0 : decode (jm_b 32) 0 = .ok (.aload_n 0, 1) := by decide +kernel
theorem d32_1 : decode (jm_b 32) 1 = .ok (.iload_n 1, 1) := by decide +kernel
theorem d32_2 : decode (jm_b 32) 2 = .ok (.invokevirtual 255, 3) := by decide +kernel
theorem d32_5 : decode (jm_b 32) 5 = .ok (.ifCond .eq 22, 3) := by decide +kernel
theorem d32_8 : decode (jm_b 32) 8 = .ok (.iload_n 2, 1) := by decide +kernel
theorem d32_9 : decode (jm_b 32) 9 = .ok (.ifCond .lt 18, 3) := by decide +kernel
theorem d32_12 : decode (jm_b 32) 12 = .ok (.iload_n 2, 1) := by decide +kernel
theorem d32_13 : decode (jm_b 32) 13 = .ok (.bipush 30, 2) := by decide +kernel
theorem d32_15 : decode (jm_b 32) 15 = .ok (.if_icmp .gt 12, 3) := by decide +kernel
theorem d32_18 : decode (jm_b 32) 18 = .ok (.iload_n 3, 1) := by decide +kernel
theorem d32_19 : decode (jm_b 32) 19 = .ok (.ifCond .lt 8, 3) := by decide +kernel
theorem d32_22 : decode (jm_b 32) 22 = .ok (.iload_n 3, 1) := by decide +kernel
theorem d32_23 : decode (jm_b 32) 23 = .ok (.iconst 1, 1) := by decide +kernel
theorem d32_24 : decode (jm_b 32) 24 = .ok (.if_icmp .le 5, 3) := by decide +kernel
theorem d32_27 : decode (jm_b 32) 27 = .ok (.iconst (-1), 1) := by decide +kernel
theorem d32_28 : decode (jm_b 32) 28 = .ok (.ireturn, 1) := by decide +kernel
theorem d32_29 : decode (jm_b 32) 29 = .ok (.aload_n 0, 1) := by decide +kernel
theorem d32_30 : decode (jm_b 32) 30 = .ok (.getfield 79, 3) := by decide +kernel
theorem d32_33 : decode (jm_b 32) 33 = .ok (.aload_n 0, 1) := by decide +kernel
theorem d32_34 : decode (jm_b 32) 34 = .ok (.getfield 41, 3) := by decide +kernel
theorem d32_37 : decode (jm_b 32) 37 = .ok (.iload_n 1, 1) := by decide +kernel
theorem d32_38 : decode (jm_b 32) 38 = .ok (.invokevirtual 258, 3) := by decide +kernel
theorem d32_41 : decode (jm_b 32) 41 = .ok (.aload_n 0, 1) := by decide +kernel
theorem d32_42 : decode (jm_b 32) 42 = .ok (.getfield 79, 3) := by decide +kernel
theorem d32_45 : decode (jm_b 32) 45 = .ok (.getfield 262, 3) := by decide +kernel
theorem d32_48 : decode (jm_b 32) 48 = .ok (.ifCond .ne 6, 3) := by decide +kernel
theorem d32_51 : decode (jm_b 32) 51 = .ok (.bipush (-2), 2) := by decide +kernel
theorem d32_53 : decode (jm_b 32) 53 = .ok (.ireturn, 1) := by decide +kernel
theorem d32_54 : decode (jm_b 32) 54 = .ok (.aload_n 0, 1) := by decide +kernel
theorem d32_55 : decode (jm_b 32) 55 = .ok (.getfield 79, 3) := by decide +kernel
theorem d32_58 : decode (jm_b 32) 58 = .ok (.iload_n 2, 1) := by decide +kernel
theorem d32_59 : decode (jm_b 32) 59 = .ok (.invokevirtual 271, 3) := by decide +kernel
theorem d32_62 : decode (jm_b 32) 62 = .ok (.iload_n 3, 1) := by decide +kernel
theorem d32_63 : decode (jm_b 32) 63 = .ok (.ifCond .ne 13, 3) := by decide +kernel
theorem d32_66 : decode (jm_b 32) 66 = .ok (.aload_n 0, 1) := by decide +kernel
theorem d32_67 : decode (jm_b 32) 67 = .ok (.getfield 79, 3) := by decide +kernel
theorem d32_70 : decode (jm_b 32) 70 = .ok (.getfield 274, 3) := by decide +kernel
theorem d32_73 : decode (jm_b 32) 73 = .ok (.goto 10, 3) := by decide +kernel
theorem d32_76 : decode (jm_b 32) 76 = .ok (.aload_n 0, 1) := by decide +kernel
theorem d32_77 : decode (jm_b 32) 77 = .ok (.getfield 79, 3) := by decide +kernel
theorem d32_80 : decode (jm_b 32) 80 = .ok (.getfield 277, 3) := by decide +kernel
theorem d32_83 : decode (jm_b 32) 83 = .ok (.ireturn, 1) := by decide +kernel
theorem d11007_0 : decode (jm_b 11007) 0 = .ok (.aload_n 0, 1) := by decide +kernel
theorem d11007_1 : decode (jm_b 11007) 1 = .ok (.iconst (-1), 1) := by decide +kernel
theorem d11007_2 : decode (jm_b 11007) 2 = .ok (.putfield 96, 3) := by decide +kernel
theorem d11007_5 : decode (jm_b 11007) 5 = .ok (.aload_n 0, 1) := by decide +kernel
theorem d11007_6 : decode (jm_b 11007) 6 = .ok (.aload_n 0, 1) := by decide +kernel
theorem d11007_7 : decode (jm_b 11007) 7 = .ok (.getfield 38, 3) := by decide +kernel
theorem d11007_10 : decode (jm_b 11007) 10 = .ok (.iconst 1, 1) := by decide +kernel
theorem d11007_11 : decode (jm_b 11007) 11 = .ok (.iadd, 1) := by decide +kernel
theorem d11007_12 : decode (jm_b 11007) 12 = .ok (.putfield 99, 3) := by decide +kernel
theorem d11007_15 : decode (jm_b 11007) 15 = .ok (.iconst 0, 1) := by decide +kernel
theorem d11007_16 : decode (jm_b 11007) 16 = .ok (.istore_n 2, 1) := by decide +kernel
theorem d11007_17 : decode (jm_b 11007) 17 = .ok (.iload_n 2, 1) := by decide +kernel
theorem d11007_18 : decode (jm_b 11007) 18 = .ok (.aload_n 0, 1) := by decide +kernel
theorem d11007_19 : decode (jm_b 11007) 19 = .ok (.getfield 27, 3) := by decide +kernel
theorem d11007_22 : decode (jm_b 11007) 22 = .ok (.getfield 44, 3) := by decide +kernel
theorem d11007_25 : decode (jm_b 11007) 25 = .ok (.if_icmp .ge 34, 3) := by decide +kernel
theorem d11007_28 : decode (jm_b 11007) 28 = .ok (.aload_n 0, 1) := by decide +kernel
theorem d11007_29 : decode (jm_b 11007) 29 = .ok (.iload_n 2, 1) := by decide +kernel
theorem d11007_30 : decode (jm_b 11007) 30 = .ok (.iload_n 1, 1) := by decide +kernel
theorem d11007_31 : decode (jm_b 11007) 31 = .ok (.invokevirtual 102, 3) := by decide +kernel
theorem d11007_34 : decode (jm_b 11007) 34 = .ok (.istore_n 3, 1) := by decide +kernel
theorem d11007_35 : decode (jm_b 11007) 35 = .ok (.iload_n 3, 1) := by decide +kernel
theorem d11007_36 : decode (jm_b 11007) 36 = .ok (.aload_n 0, 1) := by decide +kernel
theorem d11007_37 : decode (jm_b 11007) 37 = .ok (.getfield 99, 3) := by decide +kernel
theorem d11007_40 : decode (jm_b 11007) 40 = .ok (.if_icmp .ge 13, 3) := by decide +kernel
theorem d11007_43 : decode (jm_b 11007) 43 = .ok (.aload_n 0, 1) := by decide +kernel
theorem d11007_44 : decode (jm_b 11007) 44 = .ok (.iload_n 3, 1) := by decide +kernel
theorem d11007_45 : decode (jm_b 11007) 45 = .ok (.putfield 99, 3) := by decide +kernel
theorem d11007_48 : decode (jm_b 11007) 48 = .ok (.aload_n 0, 1) := by decide +kernel
theorem d11007_49 : decode (jm_b 11007) 49 = .ok (.iload_n 2, 1) := by decide +kernel
theorem d11007_50 : decode (jm_b 11007) 50 = .ok (.putfield 96, 3) := by decide +kernel
theorem d11007_53 : decode (jm_b 11007) 53 = .ok (.iinc 2 1, 3) := by decide +kernel
theorem d11007_56 : decode (jm_b 11007) 56 = .ok (.goto (-39), 3) := by decide +kernel
theorem d11007_59 : decode (jm_b 11007) 59 = .ok (.return_, 1) := by decide +kernel
theorem d11008_0 : decode (jm_b 11008) 0 = .ok (.aload_n 0, 1) := by decide +kernel
theorem d11008_1 : decode (jm_b 11008) 1 = .ok (.getfield 21, 3) := by decide +kernel
theorem d11008_4 : decode (jm_b 11008) 4 = .ok (.iconst 0, 1) := by decide +kernel
theorem d11008_5 : decode (jm_b 11008) 5 = .ok (.invokestatic 105, 3) := by decide +kernel
theorem d11008_8 : decode (jm_b 11008) 8 = .ok (.iconst 0, 1) := by decide +kernel
theorem d11008_9 : decode (jm_b 11008) 9 = .ok (.istore_n 3, 1) := by decide +kernel
theorem d11008_10 : decode (jm_b 11008) 10 = .ok (.iconst 0, 1) := by decide +kernel
theorem d11008_11 : decode (jm_b 11008) 11 = .ok (.istore 4, 2) := by decide +kernel
theorem d11008_13 : decode (jm_b 11008) 13 = .ok (.iload 4, 2) := by decide +kernel
theorem d11008_15 : decode (jm_b 11008) 15 = .ok (.aload_n 0, 1) := by decide +kernel
theorem d11008_16 : decode (jm_b 11008) 16 = .ok (.getfield 38, 3) := by decide +kernel
theorem d11008_19 : decode (jm_b 11008) 19 = .ok (.if_icmp .ge 60, 3) := by decide +kernel
theorem d11008_22 : decode (jm_b 11008) 22 = .ok (.aload_n 0, 1) := by decide +kernel
theorem d11008_23 : decode (jm_b 11008) 23 = .ok (.aload_n 0, 1) := by decide +kernel
theorem d11008_24 : decode (jm_b 11008) 24 = .ok (.getfield 15, 3) := by decide +kernel
theorem d11008_27 : decode (jm_b 11008) 27 = .ok (.iload 4, 2) := by decide +kernel
theorem d11008_29 : decode (jm_b 11008) 29 = .ok (.iaload, 1) := by decide +kernel
theorem d11008_30 : decode (jm_b 11008) 30 = .ok (.aload_n 0, 1) := by decide +kernel
theorem d11008_31 : decode (jm_b 11008) 31 = .ok (.getfield 18, 3) := by decide +kernel
theorem d11008_34 : decode (jm_b 11008) 34 = .ok (.iload 4, 2) := by decide +kernel
theorem d11008_36 : decode (jm_b 11008) 36 = .ok (.iaload, 1) := by decide +kernel
theorem d11008_37 : decode (jm_b 11008) 37 = .ok (.iload_n 1, 1) := by decide +kernel
theorem d11008_38 : decode (jm_b 11008) 38 = .ok (.iload_n 2, 1) := by decide +kernel
theorem d11008_39 : decode (jm_b 11008) 39 = .ok (.invokevirtual 89, 3) := by decide +kernel
theorem d11008_42 : decode (jm_b 11008) 42 = .ok (.iconst 0, 1) := by decide +kernel
theorem d11008_43 : decode (jm_b 11008) 43 = .ok (.bipush 99, 2) := by decide +kernel
theorem d11008_45 : decode (jm_b 11008) 45 = .ok (.invokestatic 111, 3) := by decide +kernel
theorem d11008_48 : decode (jm_b 11008) 48 = .ok (.istore 5, 2) := by decide +kernel
theorem d11008_50 : decode (jm_b 11008) 50 = .ok (.aload_n 0, 1) := by decide +kernel
theorem d11008_51 : decode (jm_b 11008) 51 = .ok (.getfield 21, 3) := by decide +kernel
theorem d11008_54 : decode (jm_b 11008) 54 = .ok (.iload 5, 2) := by decide +kernel
theorem d11008_56 : decode (jm_b 11008) 56 = .ok (.dup2, 1) := by decide +kernel
theorem d11008_57 : decode (jm_b 11008) 57 = .ok (.iaload, 1) := by decide +kernel
theorem d11008_58 : decode (jm_b 11008) 58 = .ok (.iconst 1, 1) := by decide +kernel
theorem d11008_59 : decode (jm_b 11008) 59 = .ok (.iadd, 1) := by decide +kernel
theorem d11008_60 : decode (jm_b 11008) 60 = .ok (.iastore, 1) := by decide +kernel
theorem d11008_61 : decode (jm_b 11008) 61 = .ok (.iload_n 3, 1) := by decide +kernel
theorem d11008_62 : decode (jm_b 11008) 62 = .ok (.aload_n 0, 1) := by decide +kernel
theorem d11008_63 : decode (jm_b 11008) 63 = .ok (.getfield 21, 3) := by decide +kernel
theorem d11008_66 : decode (jm_b 11008) 66 = .ok (.iload 5, 2) := by decide +kernel
theorem d11008_68 : decode (jm_b 11008) 68 = .ok (.iaload, 1) := by decide +kernel
theorem d11008_69 : decode (jm_b 11008) 69 = .ok (.invokestatic 115, 3) := by decide +kernel
theorem d11008_72 : decode (jm_b 11008) 72 = .ok (.istore_n 3, 1) := by decide +kernel
theorem d11008_73 : decode (jm_b 11008) 73 = .ok (.iinc 4 1, 3) := by decide +kernel
theorem d11008_76 : decode (jm_b 11008) 76 = .ok (.goto (-63), 3) := by decide +kernel
theorem d11008_79 : decode (jm_b 11008) 79 = .ok (.iload_n 3, 1) := by decide +kernel
theorem d11008_80 : decode (jm_b 11008) 80 = .ok (.ireturn, 1) := by decide +kernel
theorem d16000_0 : decode (jm_b 16000) 0 = .ok (.iconst 0, 1) := by decide +kernel
theorem d16000_1 : decode (jm_b 16000) 1 = .ok (.istore_n 2, 1) := by decide +kernel
theorem d16000_2 : decode (jm_b 16000) 2 = .ok (.aload_n 0, 1) := by decide +kernel
theorem d16000_3 : decode (jm_b 16000) 3 = .ok (.arraylength, 1) := by decide +kernel
theorem d16000_4 : decode (jm_b 16000) 4 = .ok (.istore_n 3, 1) := by decide +kernel
theorem d16000_5 : decode (jm_b 16000) 5 = .ok (.iload_n 2, 1) := by decide +kernel
theorem d16000_6 : decode (jm_b 16000) 6 = .ok (.iload_n 3, 1) := by decide +kernel
theorem d16000_7 : decode (jm_b 16000) 7 = .ok (.if_icmp .ge 13, 3) := by decide +kernel
theorem d16000_10 : decode (jm_b 16000) 10 = .ok (.aload_n 0, 1) := by decide +kernel
theorem d16000_11 : decode (jm_b 16000) 11 = .ok (.iload_n 2, 1) := by decide +kernel
theorem d16000_12 : decode (jm_b 16000) 12 = .ok (.iload_n 1, 1) := by decide +kernel
theorem d16000_13 : decode (jm_b 16000) 13 = .ok (.iastore, 1) := by decide +kernel
theorem d16000_14 : decode (jm_b 16000) 14 = .ok (.iinc 2 1, 3) := by decide +kernel
theorem d16000_17 : decode (jm_b 16000) 17 = .ok (.goto (-12), 3) := by decide +kernel
theorem d16000_20 : decode (jm_b 16000) 20 = .ok (.return_, 1) := by decide +kernel
theorem d33_0 : decode (jm_b 33) 0 = .ok (.aload_n 0, 1) := by decide +kernel
theorem d33_1 : decode (jm_b 33) 1 = .ok (.iload_n 1, 1) := by decide +kernel
theorem d33_2 : decode (jm_b 33) 2 = .ok (.invokevirtual 120, 3) := by decide +kernel
theorem d33_5 : decode (jm_b 33) 5 = .ok (.ifCond .eq 33, 3) := by decide +kernel
theorem d33_8 : decode (jm_b 33) 8 = .ok (.aload_n 0, 1) := by decide +kernel
theorem d33_9 : decode (jm_b 33) 9 = .ok (.iload_n 2, 1) := by decide +kernel
theorem d33_10 : decode (jm_b 33) 10 = .ok (.invokevirtual 150, 3) := by decide +kernel
theorem d33_13 : decode (jm_b 33) 13 = .ok (.ifCond .eq 25, 3) := by decide +kernel
theorem d33_16 : decode (jm_b 33) 16 = .ok (.iload_n 3, 1) := by decide +kernel
theorem d33_17 : decode (jm_b 33) 17 = .ok (.iconst 1, 1) := by decide +kernel
theorem d33_18 : decode (jm_b 33) 18 = .ok (.if_icmp .lt 20, 3) := by decide +kernel
theorem d33_21 : decode (jm_b 33) 21 = .ok (.iload_n 3, 1) := by decide +kernel
theorem d33_22 : decode (jm_b 33) 22 = .ok (.bipush 60, 2) := by decide +kernel
theorem d33_24 : decode (jm_b 33) 24 = .ok (.if_icmp .gt 14, 3) := by decide +kernel
theorem d33_27 : decode (jm_b 33) 27 = .ok (.iload 4, 2) := by decide +kernel
theorem d33_29 : decode (jm_b 33) 29 = .ok (.ifCond .lt 9, 3) := by decide +kernel
theorem d33_32 : decode (jm_b 33) 32 = .ok (.iload 4, 2) := by decide +kernel
theorem d33_34 : decode (jm_b 33) 34 = .ok (.iconst 1, 1) := by decide +kernel
theorem d33_35 : decode (jm_b 33) 35 = .ok (.if_icmp .le 6, 3) := by decide +kernel
theorem d33_38 : decode (jm_b 33) 38 = .ok (.bipush (-2), 2) := by decide +kernel
theorem d33_40 : decode (jm_b 33) 40 = .ok (.ireturn, 1) := by decide +kernel
theorem d33_41 : decode (jm_b 33) 41 = .ok (.aload_n 0, 1) := by decide +kernel
theorem d33_42 : decode (jm_b 33) 42 = .ok (.getfield 65, 3) := by decide +kernel
theorem d33_45 : decode (jm_b 33) 45 = .ok (.aload_n 0, 1) := by decide +kernel
theorem d33_46 : decode (jm_b 33) 46 = .ok (.getfield 41, 3) := by decide +kernel
theorem d33_49 : decode (jm_b 33) 49 = .ok (.getfield 124, 3) := by decide +kernel
theorem d33_52 : decode (jm_b 33) 52 = .ok (.iload_n 1, 1) := by decide +kernel
theorem d33_53 : decode (jm_b 33) 53 = .ok (.iload_n 2, 1) := by decide +kernel
theorem d33_54 : decode (jm_b 33) 54 = .ok (.iload_n 3, 1) := by decide +kernel
theorem d33_55 : decode (jm_b 33) 55 = .ok (.invokevirtual 280, 3) := by decide +kernel
theorem d33_58 : decode (jm_b 33) 58 = .ok (.iload 4, 2) := by decide +kernel
theorem d33_60 : decode (jm_b 33) 60 = .ok (.ifCond .ne 13, 3) := by decide +kernel
theorem d33_63 : decode (jm_b 33) 63 = .ok (.aload_n 0, 1) := by decide +kernel
theorem d33_64 : decode (jm_b 33) 64 = .ok (.getfield 65, 3) := by decide +kernel
theorem d33_67 : decode (jm_b 33) 67 = .ok (.getfield 284, 3) := by decide +kernel
theorem d33_70 : decode (jm_b 33) 70 = .ok (.goto 10, 3) := by decide +kernel
theorem d33_73 : decode (jm_b 33) 73 = .ok (.aload_n 0, 1) := by decide +kernel
theorem d33_74 : decode (jm_b 33) 74 = .ok (.getfield 65, 3) := by decide +kernel
theorem d33_77 : decode (jm_b 33) 77 = .ok (.getfield 287, 3) := by decide +kernel
theorem d33_80 : decode (jm_b 33) 80 = .ok (.ireturn, 1) := by decide +kernel
theorem d9003_0 : decode (jm_b 9003) 0 = .ok (.aload_n 0, 1) := by decide +kernel
theorem d9003_1 : decode (jm_b 9003) 1 = .ok (.getfield 12, 3) := by decide +kernel
theorem d9003_4 : decode (jm_b 9003) 4 = .ok (.aload_n 1, 1) := by decide +kernel
theorem d9003_5 : decode (jm_b 9003) 5 = .ok (.invokevirtual 29, 3) := by decide +kernel
theorem d9003_8 : decode (jm_b 9003) 8 = .ok (.aload_n 0, 1) := by decide +kernel
theorem d9003_9 : decode (jm_b 9003) 9 = .ok (.iconst (-1), 1) := by decide +kernel
theorem d9003_10 : decode (jm_b 9003) 10 = .ok (.putfield 43, 3) := by decide +kernel
theorem d9003_13 : decode (jm_b 9003) 13 = .ok (.aload_n 0, 1) := by decide +kernel
theorem d9003_14 : decode (jm_b 9003) 14 = .ok (.iconst (-1), 1) := by decide +kernel
theorem d9003_15 : decode (jm_b 9003) 15 = .ok (.putfield 46, 3) := by decide +kernel
theorem d9003_18 : decode (jm_b 9003) 18 = .ok (.iconst 0, 1) := by decide +kernel
theorem d9003_19 : decode (jm_b 9003) 19 = .ok (.istore 5, 2) := by decide +kernel
theorem d9003_21 : decode (jm_b 9003) 21 = .ok (.iconst 0, 1) := by decide +kernel
theorem d9003_22 : decode (jm_b 9003) 22 = .ok (.istore 6, 2) := by decide +kernel
theorem d9003_24 : decode (jm_b 9003) 24 = .ok (.iload 6, 2) := by decide +kernel
theorem d9003_26 : decode (jm_b 9003) 26 = .ok (.iload 4, 2) := by decide +kernel
theorem d9003_28 : decode (jm_b 9003) 28 = .ok (.if_icmp .ge 94, 3) := by decide +kernel
theorem d9003_31 : decode (jm_b 9003) 31 = .ok (.aload_n 1, 1) := by decide +kernel
theorem d9003_32 : decode (jm_b 9003) 32 = .ok (.iload_n 2, 1) := by decide +kernel
theorem d9003_33 : decode (jm_b 9003) 33 = .ok (.invokevirtual 49, 3) := by decide +kernel
theorem d9003_36 : decode (jm_b 9003) 36 = .ok (.ifCond .ne 45, 3) := by decide +kernel
theorem d9003_39 : decode (jm_b 9003) 39 = .ok (.iload 5, 2) := by decide +kernel
theorem d9003_41 : decode (jm_b 9003) 41 = .ok (.aload_n 0, 1) := by decide +kernel
theorem d9003_42 : decode (jm_b 9003) 42 = .ok (.iload_n 2, 1) := by decide +kernel
theorem d9003_43 : decode (jm_b 9003) 43 = .ok (.iload_n 3, 1) := by decide +kernel
theorem d9003_44 : decode (jm_b 9003) 44 = .ok (.iload 4, 2) := by decide +kernel
theorem d9003_46 : decode (jm_b 9003) 46 = .ok (.iload 6, 2) := by decide +kernel
theorem d9003_48 : decode (jm_b 9003) 48 = .ok (.isub, 1) := by decide +kernel
theorem d9003_49 : decode (jm_b 9003) 49 = .ok (.invokevirtual 53, 3) := by decide +kernel
theorem d9003_52 : decode (jm_b 9003) 52 = .ok (.iadd, 1) := by decide +kernel
theorem d9003_53 : decode (jm_b 9003) 53 = .ok (.istore 7, 2) := by decide +kernel
theorem d9003_55 : decode (jm_b 9003) 55 = .ok (.iload 7, 2) := by decide +kernel
theorem d9003_57 : decode (jm_b 9003) 57 = .ok (.aload_n 0, 1) := by decide +kernel
theorem d9003_58 : decode (jm_b 9003) 58 = .ok (.getfield 46, 3) := by decide +kernel
theorem d9003_61 : decode (jm_b 9003) 61 = .ok (.if_icmp .lt 20, 3) := by decide +kernel
theorem d9003_64 : decode (jm_b 9003) 64 = .ok (.aload_n 0, 1) := by decide +kernel
theorem d9003_65 : decode (jm_b 9003) 65 = .ok (.iload 7, 2) := by decide +kernel
theorem d9003_67 : decode (jm_b 9003) 67 = .ok (.putfield 46, 3) := by decide +kernel
theorem d9003_70 : decode (jm_b 9003) 70 = .ok (.aload_n 0, 1) := by decide +kernel
theorem d9003_71 : decode (jm_b 9003) 71 = .ok (.aload_n 0, 1) := by decide +kernel
theorem d9003_72 : decode (jm_b 9003) 72 = .ok (.getfield 12, 3) := by decide +kernel
theorem d9003_75 : decode (jm_b 9003) 75 = .ok (.getfield 39, 3) := by decide +kernel
theorem d9003_78 : decode (jm_b 9003) 78 = .ok (.putfield 43, 3) := by decide +kernel
theorem d9003_81 : decode (jm_b 9003) 81 = .ok (.aload_n 0, 1) := by decide +kernel
theorem d9003_82 : decode (jm_b 9003) 82 = .ok (.getfield 25, 3) := by decide +kernel
theorem d9003_85 : decode (jm_b 9003) 85 = .ok (.aload_n 0, 1) := by decide +kernel
theorem d9003_86 : decode (jm_b 9003) 86 = .ok (.getfield 12, 3) := by decide +kernel
theorem d9003_89 : decode (jm_b 9003) 89 = .ok (.iconst (-1), 1) := by decide +kernel
theorem d9003_90 : decode (jm_b 9003) 90 = .ok (.invokevirtual 35, 3) := by decide +kernel
theorem d9003_93 : decode (jm_b 9003) 93 = .ok (.pop, 1) := by decide +kernel
theorem d9003_94 : decode (jm_b 9003) 94 = .ok (.iload 5, 2) := by decide +kernel
theorem d9003_96 : decode (jm_b 9003) 96 = .ok (.aload_n 0, 1) := by decide +kernel
theorem d9003_97 : decode (jm_b 9003) 97 = .ok (.aload_n 0, 1) := by decide +kernel
theorem d9003_98 : decode (jm_b 9003) 98 = .ok (.getfield 12, 3) := by decide +kernel
theorem d9003_101 : decode (jm_b 9003) 101 = .ok (.iload_n 3, 1) := by decide +kernel
theorem d9003_102 : decode (jm_b 9003) 102 = .ok (.invokevirtual 57, 3) := by decide +kernel
theorem d9003_105 : decode (jm_b 9003) 105 = .ok (.ifCond .eq 7, 3) := by decide +kernel
theorem d9003_108 : decode (jm_b 9003) 108 = .ok (.iconst 1, 1) := by decide +kernel
theorem d9003_109 : decode (jm_b 9003) 109 = .ok (.goto 4, 3) := by decide +kernel
theorem d9003_112 : decode (jm_b 9003) 112 = .ok (.iconst 0, 1) := by decide +kernel
theorem d9003_113 : decode (jm_b 9003) 113 = .ok (.iadd, 1) := by decide +kernel
theorem d9003_114 : decode (jm_b 9003) 114 = .ok (.istore 5, 2) := by decide +kernel
theorem d9003_116 : decode (jm_b 9003) 116 = .ok (.iinc 6 1, 3) := by decide +kernel
theorem d9003_119 : decode (jm_b 9003) 119 = .ok (.goto (-95), 3) := by decide +kernel
theorem d9003_122 : decode (jm_b 9003) 122 = .ok (.iload 5, 2) := by decide +kernel
theorem d9003_124 : decode (jm_b 9003) 124 = .ok (.aload_n 0, 1) := by decide +kernel
theorem d9003_125 : decode (jm_b 9003) 125 = .ok (.getfield 46, 3) := by decide +kernel
theorem d9003_128 : decode (jm_b 9003) 128 = .ok (.if_icmp .lt 14, 3) := by decide +kernel
theorem d9003_131 : decode (jm_b 9003) 131 = .ok (.aload_n 0, 1) := by decide +kernel
theorem d9003_132 : decode (jm_b 9003) 132 = .ok (.iload 5, 2) := by decide +kernel
theorem d9003_134 : decode (jm_b 9003) 134 = .ok (.putfield 46, 3) := by decide +kernel
theorem d9003_137 : decode (jm_b 9003) 137 = .ok (.aload_n 0, 1) := by decide +kernel
theorem d9003_138 : decode (jm_b 9003) 138 = .ok (.iconst (-1), 1) := by decide +kernel
theorem d9003_139 : decode (jm_b 9003) 139 = .ok (.putfield 43, 3) := by decide +kernel
theorem d9003_142 : decode (jm_b 9003) 142 = .ok (.return_, 1) := by decide +kernel
theorem d9004_0 : decode (jm_b 9004) 0 = .ok (.aload_n 0, 1) := by decide +kernel
theorem d9004_1 : decode (jm_b 9004) 1 = .ok (.getfield 18, 3) := by decide +kernel
theorem d9004_4 : decode (jm_b 9004) 4 = .ok (.aload_n 0, 1) := by decide +kernel
theorem d9004_5 : decode (jm_b 9004) 5 = .ok (.getfield 12, 3) := by decide +kernel
theorem d9004_8 : decode (jm_b 9004) 8 = .ok (.invokevirtual 29, 3) := by decide +kernel
theorem d9004_11 : decode (jm_b 9004) 11 = .ok (.aload_n 0, 1) := by decide +kernel
theorem d9004_12 : decode (jm_b 9004) 12 = .ok (.getfield 18, 3) := by decide +kernel
theorem d9004_15 : decode (jm_b 9004) 15 = .ok (.dup, 1) := by decide +kernel
theorem d9004_16 : decode (jm_b 9004) 16 = .ok (.getfield 61, 3) := by decide +kernel
theorem d9004_19 : decode (jm_b 9004) 19 = .ok (.iconst 1, 1) := by decide +kernel
theorem d9004_20 : decode (jm_b 9004) 20 = .ok (.iload_n 1, 1) := by decide +kernel
theorem d9004_21 : decode (jm_b 9004) 21 = .ok (.ishl, 1) := by decide +kernel
theorem d9004_22 : decode (jm_b 9004) 22 = .ok (.ior, 1) := by decide +kernel
theorem d9004_23 : decode (jm_b 9004) 23 = .ok (.putfield 61, 3) := by decide +kernel
theorem d9004_26 : decode (jm_b 9004) 26 = .ok (.iconst 0, 1) := by decide +kernel
theorem d9004_27 : decode (jm_b 9004) 27 = .ok (.istore 4, 2) := by decide +kernel
theorem d9004_29 : decode (jm_b 9004) 29 = .ok (.iconst 0, 1) := by decide +kernel
theorem d9004_30 : decode (jm_b 9004) 30 = .ok (.istore 5, 2) := by decide +kernel
theorem d9004_32 : decode (jm_b 9004) 32 = .ok (.iload 5, 2) := by decide +kernel
theorem d9004_34 : decode (jm_b 9004) 34 = .ok (.iload_n 3, 1) := by decide +kernel
theorem d9004_35 : decode (jm_b 9004) 35 = .ok (.if_icmp .ge 44, 3) := by decide +kernel
theorem d9004_38 : decode (jm_b 9004) 38 = .ok (.aload_n 0, 1) := by decide +kernel
theorem d9004_39 : decode (jm_b 9004) 39 = .ok (.getfield 25, 3) := by decide +kernel
theorem d9004_42 : decode (jm_b 9004) 42 = .ok (.aload_n 0, 1) := by decide +kernel
theorem d9004_43 : decode (jm_b 9004) 43 = .ok (.getfield 18, 3) := by decide +kernel
theorem d9004_46 : decode (jm_b 9004) 46 = .ok (.iconst (-1), 1) := by decide +kernel
theorem d9004_47 : decode (jm_b 9004) 47 = .ok (.invokevirtual 35, 3) := by decide +kernel
theorem d9004_50 : decode (jm_b 9004) 50 = .ok (.pop, 1) := by decide +kernel
theorem d9004_51 : decode (jm_b 9004) 51 = .ok (.iload 4, 2) := by decide +kernel
theorem d9004_53 : decode (jm_b 9004) 53 = .ok (.aload_n 0, 1) := by decide +kernel
theorem d9004_54 : decode (jm_b 9004) 54 = .ok (.aload_n 0, 1) := by decide +kernel
theorem d9004_55 : decode (jm_b 9004) 55 = .ok (.getfield 18, 3) := by decide +kernel
theorem d9004_58 : decode (jm_b 9004) 58 = .ok (.iload_n 2, 1) := by decide +kernel
theorem d9004_59 : decode (jm_b 9004) 59 = .ok (.invokevirtual 57, 3) := by decide +kernel
theorem d9004_62 : decode (jm_b 9004) 62 = .ok (.ifCond .eq 7, 3) := by decide +kernel
theorem d9004_65 : decode (jm_b 9004) 65 = .ok (.iconst 1, 1) := by decide +kernel
theorem d9004_66 : decode (jm_b 9004) 66 = .ok (.goto 4, 3) := by decide +kernel
theorem d9004_69 : decode (jm_b 9004) 69 = .ok (.iconst 0, 1) := by decide +kernel
theorem d9004_70 : decode (jm_b 9004) 70 = .ok (.iadd, 1) := by decide +kernel
theorem d9004_71 : decode (jm_b 9004) 71 = .ok (.istore 4, 2) := by decide +kernel
theorem d9004_73 : decode (jm_b 9004) 73 = .ok (.iinc 5 1, 3) := by decide +kernel
theorem d9004_76 : decode (jm_b 9004) 76 = .ok (.goto (-44), 3) := by decide +kernel
theorem d9004_79 : decode (jm_b 9004) 79 = .ok (.iload 4, 2) := by decide +kernel
theorem d9004_81 : decode (jm_b 9004) 81 = .ok (.ireturn, 1) := by decide +kernel
theorem d9005_0 : decode (jm_b 9005) 0 = .ok (.aload_n 0, 1) := by decide +kernel
theorem d9005_1 : decode (jm_b 9005) 1 = .ok (.getfield 25, 3) := by decide +kernel
theorem d9005_4 : decode (jm_b 9005) 4 = .ok (.getfield 64, 3) := by decide +kernel
theorem d9005_7 : decode (jm_b 9005) 7 = .ok (.aload_n 1, 1) := by decide +kernel
theorem d9005_8 : decode (jm_b 9005) 8 = .ok (.iload_n 2, 1) := by decide +kernel
theorem d9005_9 : decode (jm_b 9005) 9 = .ok (.invokevirtual 68, 3) := by decide +kernel
theorem d9005_12 : decode (jm_b 9005) 12 = .ok (.aload_n 0, 1) := by decide +kernel
theorem d9005_13 : decode (jm_b 9005) 13 = .ok (.getfield 25, 3) := by decide +kernel
theorem d9005_16 : decode (jm_b 9005) 16 = .ok (.getfield 64, 3) := by decide +kernel
theorem d9005_19 : decode (jm_b 9005) 19 = .ok (.getfield 73, 3) := by decide +kernel
theorem d9005_22 : decode (jm_b 9005) 22 = .ok (.iload_n 2, 1) := by decide +kernel
theorem d9005_23 : decode (jm_b 9005) 23 = .ok (.iaload, 1) := by decide +kernel
theorem d9005_24 : decode (jm_b 9005) 24 = .ok (.if_icmp .ne 7, 3) := by decide +kernel
theorem d9005_27 : decode (jm_b 9005) 27 = .ok (.iconst 1, 1) := by decide +kernel
theorem d9005_28 : decode (jm_b 9005) 28 = .ok (.goto 4, 3) := by decide +kernel
theorem d9005_31 : decode (jm_b 9005) 31 = .ok (.iconst 0, 1) := by decide +kernel
theorem d9005_32 : decode (jm_b 9005) 32 = .ok (.ireturn, 1) := by decide +kernel
theorem d34_0 : decode (jm_b 34) 0 = .ok (.aload_n 0, 1) := by decide +kernel
theorem d34_1 : decode (jm_b 34) 1 = .ok (.invokevirtual 169, 3) := by decide +kernel
theorem d34_4 : decode (jm_b 34) 4 = .ok (.ifCond .eq 23, 3) := by decide +kernel
theorem d34_7 : decode (jm_b 34) 7 = .ok (.iload_n 1, 1) := by decide +kernel
theorem d34_8 : decode (jm_b 34) 8 = .ok (.iconst 1, 1) := by decide +kernel
theorem d34_9 : decode (jm_b 34) 9 = .ok (.if_icmp .lt 18, 3) := by decide +kernel
theorem d34_12 : decode (jm_b 34) 12 = .ok (.iload_n 1, 1) := by decide +kernel
theorem d34_13 : decode (jm_b 34) 13 = .ok (.bipush 60, 2) := by decide +kernel
theorem d34_15 : decode (jm_b 34) 15 = .ok (.if_icmp .gt 12, 3) := by decide +kernel
theorem d34_18 : decode (jm_b 34) 18 = .ok (.iload_n 2, 1) := by decide +kernel
theorem d34_19 : decode (jm_b 34) 19 = .ok (.ifCond .lt 8, 3) := by decide +kernel
theorem d34_22 : decode (jm_b 34) 22 = .ok (.iload_n 2, 1) := by decide +kernel
theorem d34_23 : decode (jm_b 34) 23 = .ok (.iconst 1, 1) := by decide +kernel
theorem d34_24 : decode (jm_b 34) 24 = .ok (.if_icmp .le 5, 3) := by decide +kernel
theorem d34_27 : decode (jm_b 34) 27 = .ok (.iconst (-1), 1) := by decide +kernel
theorem d34_28 : decode (jm_b 34) 28 = .ok (.ireturn, 1) := by decide +kernel
theorem d34_29 : decode (jm_b 34) 29 = .ok (.aload_n 0, 1) := by decide +kernel
theorem d34_30 : decode (jm_b 34) 30 = .ok (.getfield 65, 3) := by decide +kernel
theorem d34_33 : decode (jm_b 34) 33 = .ok (.aload_n 0, 1) := by decide +kernel
theorem d34_34 : decode (jm_b 34) 34 = .ok (.getfield 41, 3) := by decide +kernel
theorem d34_37 : decode (jm_b 34) 37 = .ok (.getfield 124, 3) := by decide +kernel
theorem d34_40 : decode (jm_b 34) 40 = .ok (.iload_n 1, 1) := by decide +kernel
theorem d34_41 : decode (jm_b 34) 41 = .ok (.invokevirtual 290, 3) := by decide +kernel
theorem d34_44 : decode (jm_b 34) 44 = .ok (.istore_n 3, 1) := by decide +kernel
theorem d34_45 : decode (jm_b 34) 45 = .ok (.iload_n 3, 1) := by decide +kernel
theorem d34_46 : decode (jm_b 34) 46 = .ok (.iconst (-1), 1) := by decide +kernel
theorem d34_47 : decode (jm_b 34) 47 = .ok (.if_icmp .ne 6, 3) := by decide +kernel
theorem d34_50 : decode (jm_b 34) 50 = .ok (.bipush (-2), 2) := by decide +kernel
theorem d34_52 : decode (jm_b 34) 52 = .ok (.ireturn, 1) := by decide +kernel
theorem d34_53 : decode (jm_b 34) 53 = .ok (.iload_n 2, 1) := by decide +kernel
theorem d34_54 : decode (jm_b 34) 54 = .ok (.ifCond .ne 10, 3) := by decide +kernel
theorem d34_57 : decode (jm_b 34) 57 = .ok (.iload_n 3, 1) := by decide +kernel
theorem d34_58 : decode (jm_b 34) 58 = .ok (.invokestatic 186, 3) := by decide +kernel
theorem d34_61 : decode (jm_b 34) 61 = .ok (.goto 4, 3) := by decide +kernel
theorem d34_64 : decode (jm_b 34) 64 = .ok (.iload_n 3, 1) := by decide +kernel
theorem d34_65 : decode (jm_b 34) 65 = .ok (.ireturn, 1) := by decide +kernel
theorem d9006_0 : decode (jm_b 9006) 0 = .ok (.aload_n 0, 1) := by decide +kernel
theorem d9006_1 : decode (jm_b 9006) 1 = .ok (.getfield 21, 3) := by decide +kernel
theorem d9006_4 : decode (jm_b 9006) 4 = .ok (.iconst 0, 1) := by decide +kernel
theorem d9006_5 : decode (jm_b 9006) 5 = .ok (.invokestatic 76, 3) := by decide +kernel
theorem d9006_8 : decode (jm_b 9006) 8 = .ok (.iconst 1, 1) := by decide +kernel
theorem d9006_9 : decode (jm_b 9006) 9 = .ok (.aload_n 0, 1) := by decide +kernel
theorem d9006_10 : decode (jm_b 9006) 10 = .ok (.getfield 25, 3) := by decide +kernel
theorem d9006_13 : decode (jm_b 9006) 13 = .ok (.getfield 64, 3) := by decide +kernel
theorem d9006_16 : decode (jm_b 9006) 16 = .ok (.getfield 82, 3) := by decide +kernel
theorem d9006_19 : decode (jm_b 9006) 19 = .ok (.ishl, 1) := by decide +kernel
theorem d9006_20 : decode (jm_b 9006) 20 = .ok (.istore_n 3, 1) := by decide +kernel
theorem d9006_21 : decode (jm_b 9006) 21 = .ok (.iconst 0, 1) := by decide +kernel
theorem d9006_22 : decode (jm_b 9006) 22 = .ok (.istore 4, 2) := by decide +kernel
theorem d9006_24 : decode (jm_b 9006) 24 = .ok (.iload 4, 2) := by decide +kernel
theorem d9006_26 : decode (jm_b 9006) 26 = .ok (.aload_n 0, 1) := by decide +kernel
theorem d9006_27 : decode (jm_b 9006) 27 = .ok (.getfield 25, 3) := by decide +kernel
theorem d9006_30 : decode (jm_b 9006) 30 = .ok (.getfield 64, 3) := by decide +kernel
theorem d9006_33 : decode (jm_b 9006) 33 = .ok (.getfield 82, 3) := by decide +kernel
theorem d9006_36 : decode (jm_b 9006) 36 = .ok (.if_icmp .gt 70, 3) := by decide +kernel
theorem d9006_39 : decode (jm_b 9006) 39 = .ok (.iconst 0, 1) := by decide +kernel
theorem d9006_40 : decode (jm_b 9006) 40 = .ok (.istore 5, 2) := by decide +kernel
theorem d9006_42 : decode (jm_b 9006) 42 = .ok (.iload 5, 2) := by decide +kernel
theorem d9006_44 : decode (jm_b 9006) 44 = .ok (.iload_n 3, 1) := by decide +kernel
theorem d9006_45 : decode (jm_b 9006) 45 = .ok (.if_icmp .ge 55, 3) := by decide +kernel
theorem d9006_48 : decode (jm_b 9006) 48 = .ok (.iload 5, 2) := by decide +kernel
theorem d9006_50 : decode (jm_b 9006) 50 = .ok (.invokestatic 85, 3) := by decide +kernel
theorem d9006_53 : decode (jm_b 9006) 53 = .ok (.iload 4, 2) := by decide +kernel
theorem d9006_55 : decode (jm_b 9006) 55 = .ok (.if_icmp .ne 17, 3) := by decide +kernel
theorem d9006_58 : decode (jm_b 9006) 58 = .ok (.iload 5, 2) := by decide +kernel
theorem d9006_60 : decode (jm_b 9006) 60 = .ok (.aload_n 1, 1) := by decide +kernel
theorem d9006_61 : decode (jm_b 9006) 61 = .ok (.getfield 61, 3) := by decide +kernel
theorem d9006_64 : decode (jm_b 9006) 64 = .ok (.iand, 1) := by decide +kernel
theorem d9006_65 : decode (jm_b 9006) 65 = .ok (.ifCond .ne 7, 3) := by decide +kernel
theorem d9006_68 : decode (jm_b 9006) 68 = .ok (.iconst 1, 1) := by decide +kernel
theorem d9006_69 : decode (jm_b 9006) 69 = .ok (.goto 4, 3) := by decide +kernel
theorem d9006_72 : decode (jm_b 9006) 72 = .ok (.iconst 0, 1) := by decide +kernel
theorem d9006_73 : decode (jm_b 9006) 73 = .ok (.istore 6, 2) := by decide +kernel
theorem d9006_75 : decode (jm_b 9006) 75 = .ok (.iload 6, 2) := by decide +kernel
theorem d9006_77 : decode (jm_b 9006) 77 = .ok (.ifCond .eq 17, 3) := by decide +kernel
theorem d9006_80 : decode (jm_b 9006) 80 = .ok (.aload_n 0, 1) := by decide +kernel
theorem d9006_81 : decode (jm_b 9006) 81 = .ok (.aload_n 1, 1) := by decide +kernel
theorem d9006_82 : decode (jm_b 9006) 82 = .ok (.iload 5, 2) := by decide +kernel
theorem d9006_84 : decode (jm_b 9006) 84 = .ok (.iload_n 2, 1) := by decide +kernel
theorem d9006_85 : decode (jm_b 9006) 85 = .ok (.invokevirtual 91, 3) := by decide +kernel
theorem d9006_88 : decode (jm_b 9006) 88 = .ok (.ifCond .eq 6, 3) := by decide +kernel
theorem d9006_91 : decode (jm_b 9006) 91 = .ok (.iload 5, 2) := by decide +kernel
theorem d9006_93 : decode (jm_b 9006) 93 = .ok (.ireturn, 1) := by decide +kernel
theorem d9006_94 : decode (jm_b 9006) 94 = .ok (.iinc 5 1, 3) := by decide +kernel
theorem d9006_97 : decode (jm_b 9006) 97 = .ok (.goto (-55), 3) := by decide +kernel
theorem d9006_100 : decode (jm_b 9006) 100 = .ok (.iinc 4 1, 3) := by decide +kernel
theorem d9006_103 : decode (jm_b 9006) 103 = .ok (.goto (-79), 3) := by decide +kernel
theorem d9006_106 : decode (jm_b 9006) 106 = .ok (.iconst (-1), 1) := by decide +kernel
theorem d9006_107 : decode (jm_b 9006) 107 = .ok (.ireturn, 1) := by decide +kernel
theorem d9007_0 : decode (jm_b 9007) 0 = .ok (.aload_n 0, 1) := by decide +kernel
theorem d9007_1 : decode (jm_b 9007) 1 = .ok (.getfield 25, 3) := by decide +kernel
theorem d9007_4 : decode (jm_b 9007) 4 = .ok (.getfield 64, 3) := by decide +kernel
theorem d9007_7 : decode (jm_b 9007) 7 = .ok (.getfield 82, 3) := by decide +kernel
theorem d9007_10 : decode (jm_b 9007) 10 = .ok (.istore 4, 2) := by decide +kernel
theorem d9007_12 : decode (jm_b 9007) 12 = .ok (.aload_n 1, 1) := by decide +kernel
theorem d9007_13 : decode (jm_b 9007) 13 = .ok (.getfield 61, 3) := by decide +kernel
theorem d9007_16 : decode (jm_b 9007) 16 = .ok (.iload_n 2, 1) := by decide +kernel
theorem d9007_17 : decode (jm_b 9007) 17 = .ok (.ior, 1) := by decide +kernel
theorem d9007_18 : decode (jm_b 9007) 18 = .ok (.istore 5, 2) := by decide +kernel
theorem d9007_20 : decode (jm_b 9007) 20 = .ok (.iconst 0, 1) := by decide +kernel
theorem d9007_21 : decode (jm_b 9007) 21 = .ok (.istore 6, 2) := by decide +kernel
theorem d9007_23 : decode (jm_b 9007) 23 = .ok (.iconst 0, 1) := by decide +kernel
theorem d9007_24 : decode (jm_b 9007) 24 = .ok (.istore 7, 2) := by decide +kernel
theorem d9007_26 : decode (jm_b 9007) 26 = .ok (.iload 7, 2) := by decide +kernel
theorem d9007_28 : decode (jm_b 9007) 28 = .ok (.iload 4, 2) := by decide +kernel
theorem d9007_30 : decode (jm_b 9007) 30 = .ok (.if_icmp .gt 54, 3) := by decide +kernel
theorem d9007_33 : decode (jm_b 9007) 33 = .ok (.iload 7, 2) := by decide +kernel
theorem d9007_35 : decode (jm_b 9007) 35 = .ok (.iload 4, 2) := by decide +kernel
theorem d9007_37 : decode (jm_b 9007) 37 = .ok (.if_icmp .eq 13, 3) := by decide +kernel
theorem d9007_40 : decode (jm_b 9007) 40 = .ok (.iload 5, 2) := by decide +kernel
theorem d9007_42 : decode (jm_b 9007) 42 = .ok (.iload 7, 2) := by decide +kernel
theorem d9007_44 : decode (jm_b 9007) 44 = .ok (.ishr, 1) := by decide +kernel
theorem d9007_45 : decode (jm_b 9007) 45 = .ok (.iconst 1, 1) := by decide +kernel
theorem d9007_46 : decode (jm_b 9007) 46 = .ok (.iand, 1) := by decide +kernel
theorem d9007_47 : decode (jm_b 9007) 47 = .ok (.ifCond .eq 31, 3) := by decide +kernel
theorem d9007_50 : decode (jm_b 9007) 50 = .ok (.iload 6, 2) := by decide +kernel
theorem d9007_52 : decode (jm_b 9007) 52 = .ok (.iload 7, 2) := by decide +kernel
theorem d9007_54 : decode (jm_b 9007) 54 = .ok (.if_icmp .ge 18, 3) := by decide +kernel
theorem d9007_57 : decode (jm_b 9007) 57 = .ok (.aload_n 0, 1) := by decide +kernel
theorem d9007_58 : decode (jm_b 9007) 58 = .ok (.aload_n 1, 1) := by decide +kernel
theorem d9007_59 : decode (jm_b 9007) 59 = .ok (.iload 6, 2) := by decide +kernel
theorem d9007_61 : decode (jm_b 9007) 61 = .ok (.iload 7, 2) := by decide +kernel
theorem d9007_63 : decode (jm_b 9007) 63 = .ok (.iload_n 3, 1) := by decide +kernel
theorem d9007_64 : decode (jm_b 9007) 64 = .ok (.invokevirtual 95, 3) := by decide +kernel
theorem d9007_67 : decode (jm_b 9007) 67 = .ok (.ifCond .ne 5, 3) := by decide +kernel
theorem d9007_70 : decode (jm_b 9007) 70 = .ok (.iconst 0, 1) := by decide +kernel
theorem d9007_71 : decode (jm_b 9007) 71 = .ok (.ireturn, 1) := by decide +kernel
theorem d9007_72 : decode (jm_b 9007) 72 = .ok (.iload 7, 2) := by decide +kernel
theorem d9007_74 : decode (jm_b 9007) 74 = .ok (.iconst 1, 1) := by decide +kernel
theorem d9007_75 : decode (jm_b 9007) 75 = .ok (.iadd, 1) := by decide +kernel
theorem d9007_76 : decode (jm_b 9007) 76 = .ok (.istore 6, 2) := by decide +kernel
theorem d9007_78 : decode (jm_b 9007) 78 = .ok (.iinc 7 1, 3) := by decide +kernel
theorem d9007_81 : decode (jm_b 9007) 81 = .ok (.goto (-55), 3) := by decide +kernel
theorem d9007_84 : decode (jm_b 9007) 84 = .ok (.iconst 1, 1) := by decide +kernel
theorem d9007_85 : decode (jm_b 9007) 85 = .ok (.ireturn, 1) := by decide +kernel
theorem d9008_0 : decode (jm_b 9008) 0 = .ok (.iload_n 2, 1) := by decide +kernel
theorem d9008_1 : decode (jm_b 9008) 1 = .ok (.bipush 11, 2) := by decide +kernel
theorem d9008_3 : decode (jm_b 9008) 3 = .ok (.imul, 1) := by decide +kernel
theorem d9008_4 : decode (jm_b 9008) 4 = .ok (.iload_n 3, 1) := by decide +kernel
theorem d9008_5 : decode (jm_b 9008) 5 = .ok (.iadd, 1) := by decide +kernel
theorem d9008_6 : decode (jm_b 9008) 6 = .ok (.istore 5, 2) := by decide +kernel
theorem d9008_8 : decode (jm_b 9008) 8 = .ok (.aload_n 0, 1) := by decide +kernel
theorem d9008_9 : decode (jm_b 9008) 9 = .ok (.getfield 21, 3) := by decide +kernel
theorem d9008_12 : decode (jm_b 9008) 12 = .ok (.iload 5, 2) := by decide +kernel
theorem d9008_14 : decode (jm_b 9008) 14 = .ok (.iaload, 1) := by decide +kernel
theorem d9008_15 : decode (jm_b 9008) 15 = .ok (.ifCond .ne 97, 3) := by decide +kernel
theorem d9008_18 : decode (jm_b 9008) 18 = .ok (.aload_n 0, 1) := by decide +kernel
theorem d9008_19 : decode (jm_b 9008) 19 = .ok (.getfield 12, 3) := by decide +kernel
theorem d9008_22 : decode (jm_b 9008) 22 = .ok (.aload_n 1, 1) := by decide +kernel
theorem d9008_23 : decode (jm_b 9008) 23 = .ok (.invokevirtual 29, 3) := by decide +kernel
theorem d9008_26 : decode (jm_b 9008) 26 = .ok (.aload_n 0, 1) := by decide +kernel
theorem d9008_27 : decode (jm_b 9008) 27 = .ok (.getfield 12, 3) := by decide +kernel
theorem d9008_30 : decode (jm_b 9008) 30 = .ok (.iconst 1, 1) := by decide +kernel
theorem d9008_31 : decode (jm_b 9008) 31 = .ok (.aload_n 0, 1) := by decide +kernel
theorem d9008_32 : decode (jm_b 9008) 32 = .ok (.getfield 25, 3) := by decide +kernel
theorem d9008_35 : decode (jm_b 9008) 35 = .ok (.getfield 64, 3) := by decide +kernel
theorem d9008_38 : decode (jm_b 9008) 38 = .ok (.getfield 82, 3) := by decide +kernel
theorem d9008_41 : decode (jm_b 9008) 41 = .ok (.ishl, 1) := by decide +kernel
theorem d9008_42 : decode (jm_b 9008) 42 = .ok (.iconst 1, 1) := by decide +kernel
theorem d9008_43 : decode (jm_b 9008) 43 = .ok (.isub, 1) := by decide +kernel
theorem d9008_44 : decode (jm_b 9008) 44 = .ok (.iconst 1, 1) := by decide +kernel
theorem d9008_45 : decode (jm_b 9008) 45 = .ok (.iload_n 3, 1) := by decide +kernel
theorem d9008_46 : decode (jm_b 9008) 46 = .ok (.ishl, 1) := by decide +kernel
theorem d9008_47 : decode (jm_b 9008) 47 = .ok (.iconst 1, 1) := by decide +kernel
theorem d9008_48 : decode (jm_b 9008) 48 = .ok (.iload_n 2, 1) := by decide +kernel
theorem d9008_49 : decode (jm_b 9008) 49 = .ok (.ishl, 1) := by decide +kernel
theorem d9008_50 : decode (jm_b 9008) 50 = .ok (.isub, 1) := by decide +kernel
theorem d9008_51 : decode (jm_b 9008) 51 = .ok (.iconst (-1), 1) := by decide +kernel
theorem d9008_52 : decode (jm_b 9008) 52 = .ok (.ixor, 1) := by decide +kernel
theorem d9008_53 : decode (jm_b 9008) 53 = .ok (.iand, 1) := by decide +kernel
theorem d9008_54 : decode (jm_b 9008) 54 = .ok (.putfield 61, 3) := by decide +kernel
theorem d9008_57 : decode (jm_b 9008) 57 = .ok (.iconst 0, 1) := by decide +kernel
theorem d9008_58 : decode (jm_b 9008) 58 = .ok (.istore 6, 2) := by decide +kernel
theorem d9008_60 : decode (jm_b 9008) 60 = .ok (.iconst 0, 1) := by decide +kernel
theorem d9008_61 : decode (jm_b 9008) 61 = .ok (.istore 7, 2) := by decide +kernel
theorem d9008_63 : decode (jm_b 9008) 63 = .ok (.iload 7, 2) := by decide +kernel
theorem d9008_65 : decode (jm_b 9008) 65 = .ok (.iload 4, 2) := by decide +kernel
theorem d9008_67 : decode (jm_b 9008) 67 = .ok (.if_icmp .ge 28, 3) := by decide +kernel
theorem d9008_70 : decode (jm_b 9008) 70 = .ok (.iload 6, 2) := by decide +kernel
theorem d9008_72 : decode (jm_b 9008) 72 = .ok (.ifCond .ne 23, 3) := by decide +kernel
theorem d9008_75 : decode (jm_b 9008) 75 = .ok (.aload_n 0, 1) := by decide +kernel
theorem d9008_76 : decode (jm_b 9008) 76 = .ok (.getfield 25, 3) := by decide +kernel
theorem d9008_79 : decode (jm_b 9008) 79 = .ok (.aload_n 0, 1) := by decide +kernel
theorem d9008_80 : decode (jm_b 9008) 80 = .ok (.getfield 12, 3) := by decide +kernel
theorem d9008_83 : decode (jm_b 9008) 83 = .ok (.iconst (-1), 1) := by decide +kernel
theorem d9008_84 : decode (jm_b 9008) 84 = .ok (.invokevirtual 35, 3) := by decide +kernel
theorem d9008_87 : decode (jm_b 9008) 87 = .ok (.istore 6, 2) := by decide +kernel
theorem d9008_89 : decode (jm_b 9008) 89 = .ok (.iinc 7 1, 3) := by decide +kernel
theorem d9008_92 : decode (jm_b 9008) 92 = .ok (.goto (-29), 3) := by decide +kernel
theorem d9008_95 : decode (jm_b 9008) 95 = .ok (.aload_n 0, 1) := by decide +kernel
theorem d9008_96 : decode (jm_b 9008) 96 = .ok (.getfield 21, 3) := by decide +kernel
theorem d9008_99 : decode (jm_b 9008) 99 = .ok (.iload 5, 2) := by decide +kernel
theorem d9008_101 : decode (jm_b 9008) 101 = .ok (.iload 6, 2) := by decide +kernel
theorem d9008_103 : decode (jm_b 9008) 103 = .ok (.ifCond .ne 7, 3) := by decide +kernel
theorem d9008_106 : decode (jm_b 9008) 106 = .ok (.iconst 1, 1) := by decide +kernel
theorem d9008_107 : decode (jm_b 9008) 107 = .ok (.goto 4, 3) := by decide +kernel
theorem d9008_110 : decode (jm_b 9008) 110 = .ok (.iconst 2, 1) := by decide +kernel
theorem d9008_111 : decode (jm_b 9008) 111 = .ok (.iastore, 1) := by decide +kernel
theorem d9008_112 : decode (jm_b 9008) 112 = .ok (.aload_n 0, 1) := by decide +kernel
theorem d9008_113 : decode (jm_b 9008) 113 = .ok (.getfield 21, 3) := by decide +kernel
theorem d9008_116 : decode (jm_b 9008) 116 = .ok (.iload 5, 2) := by decide +kernel
theorem d9008_118 : decode (jm_b 9008) 118 = .ok (.iaload, 1) := by decide +kernel
theorem d9008_119 : decode (jm_b 9008) 119 = .ok (.iconst 1, 1) := by decide +kernel
theorem d9008_120 : decode (jm_b 9008) 120 = .ok (.if_icmp .ne 7, 3) := by decide +kernel
theorem d9008_123 : decode (jm_b 9008) 123 = .ok (.iconst 1, 1) := by decide +kernel
theorem d9008_124 : decode (jm_b 9008) 124 = .ok (.goto 4, 3) := by decide +kernel
theorem d9008_127 : decode (jm_b 9008) 127 = .ok (.iconst 0, 1) := by decide +kernel
theorem d9008_128 : decode (jm_b 9008) 128 = .ok (.ireturn, 1) := by decide +kernel
theorem d35_0 : decode (jm_b 35) 0 = .ok (.aload_n 0, 1) := by decide +kernel
theorem d35_1 : decode (jm_b 35) 1 = .ok (.invokevirtual 169, 3) := by decide +kernel
theorem d35_4 : decode (jm_b 35) 4 = .ok (.ifCond .eq 12, 3) := by decide +kernel
theorem d35_7 : decode (jm_b 35) 7 = .ok (.iload_n 1, 1) := by decide +kernel
theorem d35_8 : decode (jm_b 35) 8 = .ok (.ifCond .lt 8, 3) := by decide +kernel
theorem d35_11 : decode (jm_b 35) 11 = .ok (.iload_n 1, 1) := by decide +kernel
theorem d35_12 : decode (jm_b 35) 12 = .ok (.iconst 1, 1) := by decide +kernel
theorem d35_13 : decode (jm_b 35) 13 = .ok (.if_icmp .le 5, 3) := by decide +kernel
theorem d35_16 : decode (jm_b 35) 16 = .ok (.iconst (-1), 1) := by decide +kernel
theorem d35_17 : decode (jm_b 35) 17 = .ok (.ireturn, 1) := by decide +kernel
theorem d35_18 : decode (jm_b 35) 18 = .ok (.iconst 0, 1) := by decide +kernel
theorem d35_19 : decode (jm_b 35) 19 = .ok (.istore_n 2, 1) := by decide +kernel
theorem d35_20 : decode (jm_b 35) 20 = .ok (.iconst 0, 1) := by decide +kernel
theorem d35_21 : decode (jm_b 35) 21 = .ok (.istore_n 3, 1) := by decide +kernel
theorem d35_22 : decode (jm_b 35) 22 = .ok (.iload_n 3, 1) := by decide +kernel
theorem d35_23 : decode (jm_b 35) 23 = .ok (.aload_n 0, 1) := by decide +kernel
theorem d35_24 : decode (jm_b 35) 24 = .ok (.getfield 41, 3) := by decide +kernel
theorem d35_27 : decode (jm_b 35) 27 = .ok (.getfield 143, 3) := by decide +kernel
theorem d35_30 : decode (jm_b 35) 30 = .ok (.getfield 293, 3) := by decide +kernel
theorem d35_33 : decode (jm_b 35) 33 = .ok (.if_icmp .ge 27, 3) := by decide +kernel
theorem d35_36 : decode (jm_b 35) 36 = .ok (.iload_n 2, 1) := by decide +kernel
theorem d35_37 : decode (jm_b 35) 37 = .ok (.aload_n 0, 1) := by decide +kernel
theorem d35_38 : decode (jm_b 35) 38 = .ok (.getfield 41, 3) := by decide +kernel
theorem d35_41 : decode (jm_b 35) 41 = .ok (.getfield 124, 3) := by decide +kernel
theorem d35_44 : decode (jm_b 35) 44 = .ok (.getfield 128, 3) := by decide +kernel
theorem d35_47 : decode (jm_b 35) 47 = .ok (.iload_n 3, 1) := by decide +kernel
theorem d35_48 : decode (jm_b 35) 48 = .ok (.iaload, 1) := by decide +kernel
theorem d35_49 : decode (jm_b 35) 49 = .ok (.bipush 20, 2) := by decide +kernel
theorem d35_51 : decode (jm_b 35) 51 = .ok (.iadd, 1) := by decide +kernel
theorem d35_52 : decode (jm_b 35) 52 = .ok (.iadd, 1) := by decide +kernel
theorem d35_53 : decode (jm_b 35) 53 = .ok (.istore_n 2, 1) := by decide +kernel
theorem d35_54 : decode (jm_b 35) 54 = .ok (.iinc 3 1, 3) := by decide +kernel
theorem d35_57 : decode (jm_b 35) 57 = .ok (.goto (-35), 3) := by decide +kernel
theorem d35_60 : decode (jm_b 35) 60 = .ok (.bipush 41, 2) := by decide +kernel
theorem d35_62 : decode (jm_b 35) 62 = .ok (.aload_n 0, 1) := by decide +kernel
theorem d35_63 : decode (jm_b 35) 63 = .ok (.getfield 41, 3) := by decide +kernel
theorem d35_66 : decode (jm_b 35) 66 = .ok (.getfield 143, 3) := by decide +kernel
theorem d35_69 : decode (jm_b 35) 69 = .ok (.getfield 293, 3) := by decide +kernel
theorem d35_72 : decode (jm_b 35) 72 = .ok (.imul, 1) := by decide +kernel
theorem d35_73 : decode (jm_b 35) 73 = .ok (.istore_n 3, 1) := by decide +kernel
theorem d35_74 : decode (jm_b 35) 74 = .ok (.iload_n 2, 1) := by decide +kernel
theorem d35_75 : decode (jm_b 35) 75 = .ok (.iload_n 3, 1) := by decide +kernel
theorem d35_76 : decode (jm_b 35) 76 = .ok (.invokestatic 295, 3) := by decide +kernel
theorem d35_79 : decode (jm_b 35) 79 = .ok (.iconst 1, 1) := by decide +kernel
theorem d35_80 : decode (jm_b 35) 80 = .ok (.invokestatic 209, 3) := by decide +kernel
theorem d35_83 : decode (jm_b 35) 83 = .ok (.istore 4, 2) := by decide +kernel
theorem d35_85 : decode (jm_b 35) 85 = .ok (.iload_n 1, 1) := by decide +kernel
theorem d35_86 : decode (jm_b 35) 86 = .ok (.ifCond .ne 7, 3) := by decide +kernel
theorem d35_89 : decode (jm_b 35) 89 = .ok (.iload_n 2, 1) := by decide +kernel
theorem d35_90 : decode (jm_b 35) 90 = .ok (.goto 4, 3) := by decide +kernel
theorem d35_93 : decode (jm_b 35) 93 = .ok (.iload_n 3, 1) := by decide +kernel
theorem d35_94 : decode (jm_b 35) 94 = .ok (.iload 4, 2) := by decide +kernel
theorem d35_96 : decode (jm_b 35) 96 = .ok (.idiv, 1) := by decide +kernel
theorem d35_97 : decode (jm_b 35) 97 = .ok (.ireturn, 1) := by decide +kernel
