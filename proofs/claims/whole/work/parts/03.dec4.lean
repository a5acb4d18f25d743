/-! decode rows (by program) -/
theorem d12027_0 : decode (jm_b 12027) 0 = .ok (.aload_n 0, 1) := by decide +kernel
theorem d12027_1 : decode (jm_b 12027) 1 = .ok (.invokevirtual 279, 3) := by decide +kernel
theorem d12027_4 : decode (jm_b 12027) 4 = .ok (.aload_n 0, 1) := by decide +kernel
theorem d12027_5 : decode (jm_b 12027) 5 = .ok (.getfield 214, 3) := by decide +kernel
theorem d12027_8 : decode (jm_b 12027) 8 = .ok (.ifCond .ne 59, 3) := by decide +kernel
theorem d12027_11 : decode (jm_b 12027) 11 = .ok (.aload_n 0, 1) := by decide +kernel
theorem d12027_12 : decode (jm_b 12027) 12 = .ok (.invokevirtual 220, 3) := by decide +kernel
theorem d12027_15 : decode (jm_b 12027) 15 = .ok (.bipush 43, 2) := by decide +kernel
theorem d12027_17 : decode (jm_b 12027) 17 = .ok (.if_icmp .eq 12, 3) := by decide +kernel
theorem d12027_20 : decode (jm_b 12027) 20 = .ok (.aload_n 0, 1) := by decide +kernel
theorem d12027_21 : decode (jm_b 12027) 21 = .ok (.invokevirtual 220, 3) := by decide +kernel
theorem d12027_24 : decode (jm_b 12027) 24 = .ok (.bipush 45, 2) := by decide +kernel
theorem d12027_26 : decode (jm_b 12027) 26 = .ok (.if_icmp .ne 41, 3) := by decide +kernel
theorem d12027_29 : decode (jm_b 12027) 29 = .ok (.aload_n 0, 1) := by decide +kernel
theorem d12027_30 : decode (jm_b 12027) 30 = .ok (.invokevirtual 220, 3) := by decide +kernel
theorem d12027_33 : decode (jm_b 12027) 33 = .ok (.bipush 43, 2) := by decide +kernel
theorem d12027_35 : decode (jm_b 12027) 35 = .ok (.if_icmp .ne 7, 3) := by decide +kernel
theorem d12027_38 : decode (jm_b 12027) 38 = .ok (.iconst 2, 1) := by decide +kernel
theorem d12027_39 : decode (jm_b 12027) 39 = .ok (.goto 4, 3) := by decide +kernel
theorem d12027_42 : decode (jm_b 12027) 42 = .ok (.iconst 3, 1) := by decide +kernel
theorem d12027_43 : decode (jm_b 12027) 43 = .ok (.istore_n 1, 1) := by decide +kernel
theorem d12027_44 : decode (jm_b 12027) 44 = .ok (.aload_n 0, 1) := by decide +kernel
theorem d12027_45 : decode (jm_b 12027) 45 = .ok (.dup, 1) := by decide +kernel
theorem d12027_46 : decode (jm_b 12027) 46 = .ok (.getfield 217, 3) := by decide +kernel
theorem d12027_49 : decode (jm_b 12027) 49 = .ok (.iconst 1, 1) := by decide +kernel
theorem d12027_50 : decode (jm_b 12027) 50 = .ok (.iadd, 1) := by decide +kernel
theorem d12027_51 : decode (jm_b 12027) 51 = .ok (.putfield 217, 3) := by decide +kernel
theorem d12027_54 : decode (jm_b 12027) 54 = .ok (.aload_n 0, 1) := by decide +kernel
theorem d12027_55 : decode (jm_b 12027) 55 = .ok (.invokevirtual 279, 3) := by decide +kernel
theorem d12027_58 : decode (jm_b 12027) 58 = .ok (.aload_n 0, 1) := by decide +kernel
theorem d12027_59 : decode (jm_b 12027) 59 = .ok (.iload_n 1, 1) := by decide +kernel
theorem d12027_60 : decode (jm_b 12027) 60 = .ok (.iconst 0, 1) := by decide +kernel
theorem d12027_61 : decode (jm_b 12027) 61 = .ok (.invokevirtual 269, 3) := by decide +kernel
theorem d12027_64 : decode (jm_b 12027) 64 = .ok (.goto (-60), 3) := by decide +kernel
theorem d12027_67 : decode (jm_b 12027) 67 = .ok (.return_, 1) := by decide +kernel
theorem d12028_0 : decode (jm_b 12028) 0 = .ok (.aload_n 0, 1) := by decide +kernel
theorem d12028_1 : decode (jm_b 12028) 1 = .ok (.invokevirtual 276, 3) := by decide +kernel
theorem d12028_4 : decode (jm_b 12028) 4 = .ok (.aload_n 0, 1) := by decide +kernel
theorem d12028_5 : decode (jm_b 12028) 5 = .ok (.invokevirtual 237, 3) := by decide +kernel
theorem d12028_8 : decode (jm_b 12028) 8 = .ok (.aload_n 0, 1) := by decide +kernel
theorem d12028_9 : decode (jm_b 12028) 9 = .ok (.getfield 214, 3) := by decide +kernel
theorem d12028_12 : decode (jm_b 12028) 12 = .ok (.ifCond .ne 88, 3) := by decide +kernel
theorem d12028_15 : decode (jm_b 12028) 15 = .ok (.aload_n 0, 1) := by decide +kernel
theorem d12028_16 : decode (jm_b 12028) 16 = .ok (.invokevirtual 220, 3) := by decide +kernel
theorem d12028_19 : decode (jm_b 12028) 19 = .ok (.bipush 42, 2) := by decide +kernel
theorem d12028_21 : decode (jm_b 12028) 21 = .ok (.if_icmp .eq 21, 3) := by decide +kernel
theorem d12028_24 : decode (jm_b 12028) 24 = .ok (.aload_n 0, 1) := by decide +kernel
theorem d12028_25 : decode (jm_b 12028) 25 = .ok (.invokevirtual 220, 3) := by decide +kernel
theorem d12028_28 : decode (jm_b 12028) 28 = .ok (.bipush 47, 2) := by decide +kernel
theorem d12028_30 : decode (jm_b 12028) 30 = .ok (.if_icmp .eq 12, 3) := by decide +kernel
theorem d12028_33 : decode (jm_b 12028) 33 = .ok (.aload_n 0, 1) := by decide +kernel
theorem d12028_34 : decode (jm_b 12028) 34 = .ok (.invokevirtual 220, 3) := by decide +kernel
theorem d12028_37 : decode (jm_b 12028) 37 = .ok (.bipush 37, 2) := by decide +kernel
theorem d12028_39 : decode (jm_b 12028) 39 = .ok (.if_icmp .ne 61, 3) := by decide +kernel
theorem d12028_42 : decode (jm_b 12028) 42 = .ok (.aload_n 0, 1) := by decide +kernel
theorem d12028_43 : decode (jm_b 12028) 43 = .ok (.invokevirtual 220, 3) := by decide +kernel
theorem d12028_46 : decode (jm_b 12028) 46 = .ok (.bipush 42, 2) := by decide +kernel
theorem d12028_48 : decode (jm_b 12028) 48 = .ok (.if_icmp .ne 8, 3) := by decide +kernel
theorem d12028_51 : decode (jm_b 12028) 51 = .ok (.bipush 13, 2) := by decide +kernel
theorem d12028_53 : decode (jm_b 12028) 53 = .ok (.goto 19, 3) := by decide +kernel
theorem d12028_56 : decode (jm_b 12028) 56 = .ok (.aload_n 0, 1) := by decide +kernel
theorem d12028_57 : decode (jm_b 12028) 57 = .ok (.invokevirtual 220, 3) := by decide +kernel
theorem d12028_60 : decode (jm_b 12028) 60 = .ok (.bipush 47, 2) := by decide +kernel
theorem d12028_62 : decode (jm_b 12028) 62 = .ok (.if_icmp .ne 8, 3) := by decide +kernel
theorem d12028_65 : decode (jm_b 12028) 65 = .ok (.bipush 14, 2) := by decide +kernel
theorem d12028_67 : decode (jm_b 12028) 67 = .ok (.goto 5, 3) := by decide +kernel
theorem d12028_70 : decode (jm_b 12028) 70 = .ok (.bipush 15, 2) := by decide +kernel
theorem d12028_72 : decode (jm_b 12028) 72 = .ok (.istore_n 1, 1) := by decide +kernel
theorem d12028_73 : decode (jm_b 12028) 73 = .ok (.aload_n 0, 1) := by decide +kernel
theorem d12028_74 : decode (jm_b 12028) 74 = .ok (.dup, 1) := by decide +kernel
theorem d12028_75 : decode (jm_b 12028) 75 = .ok (.getfield 217, 3) := by decide +kernel
theorem d12028_78 : decode (jm_b 12028) 78 = .ok (.iconst 1, 1) := by decide +kernel
theorem d12028_79 : decode (jm_b 12028) 79 = .ok (.iadd, 1) := by decide +kernel
theorem d12028_80 : decode (jm_b 12028) 80 = .ok (.putfield 217, 3) := by decide +kernel
theorem d12028_83 : decode (jm_b 12028) 83 = .ok (.aload_n 0, 1) := by decide +kernel
theorem d12028_84 : decode (jm_b 12028) 84 = .ok (.invokevirtual 276, 3) := by decide +kernel
theorem d12028_87 : decode (jm_b 12028) 87 = .ok (.aload_n 0, 1) := by decide +kernel
theorem d12028_88 : decode (jm_b 12028) 88 = .ok (.iload_n 1, 1) := by decide +kernel
theorem d12028_89 : decode (jm_b 12028) 89 = .ok (.iconst 0, 1) := by decide +kernel
theorem d12028_90 : decode (jm_b 12028) 90 = .ok (.invokevirtual 269, 3) := by decide +kernel
theorem d12028_93 : decode (jm_b 12028) 93 = .ok (.aload_n 0, 1) := by decide +kernel
theorem d12028_94 : decode (jm_b 12028) 94 = .ok (.invokevirtual 237, 3) := by decide +kernel
theorem d12028_97 : decode (jm_b 12028) 97 = .ok (.goto (-89), 3) := by decide +kernel
theorem d12028_100 : decode (jm_b 12028) 100 = .ok (.return_, 1) := by decide +kernel
theorem d12029_0 : decode (jm_b 12029) 0 = .ok (.aload_n 0, 1) := by decide +kernel
theorem d12029_1 : decode (jm_b 12029) 1 = .ok (.invokevirtual 237, 3) := by decide +kernel
theorem d12029_4 : decode (jm_b 12029) 4 = .ok (.aload_n 0, 1) := by decide +kernel
theorem d12029_5 : decode (jm_b 12029) 5 = .ok (.getfield 217, 3) := by decide +kernel
theorem d12029_8 : decode (jm_b 12029) 8 = .ok (.istore_n 1, 1) := by decide +kernel
theorem d12029_9 : decode (jm_b 12029) 9 = .ok (.aload_n 0, 1) := by decide +kernel
theorem d12029_10 : decode (jm_b 12029) 10 = .ok (.invokevirtual 257, 3) := by decide +kernel
theorem d12029_13 : decode (jm_b 12029) 13 = .ok (.ifCond .eq 23, 3) := by decide +kernel
theorem d12029_16 : decode (jm_b 12029) 16 = .ok (.aload_n 0, 1) := by decide +kernel
theorem d12029_17 : decode (jm_b 12029) 17 = .ok (.ldc_w 261, 3) := by decide +kernel
theorem d12029_20 : decode (jm_b 12029) 20 = .ok (.invokevirtual 262, 3) := by decide +kernel
theorem d12029_23 : decode (jm_b 12029) 23 = .ok (.istore_n 2, 1) := by decide +kernel
theorem d12029_24 : decode (jm_b 12029) 24 = .ok (.aload_n 0, 1) := by decide +kernel
theorem d12029_25 : decode (jm_b 12029) 25 = .ok (.iload_n 1, 1) := by decide +kernel
theorem d12029_26 : decode (jm_b 12029) 26 = .ok (.invokevirtual 266, 3) := by decide +kernel
theorem d12029_29 : decode (jm_b 12029) 29 = .ok (.aload_n 0, 1) := by decide +kernel
theorem d12029_30 : decode (jm_b 12029) 30 = .ok (.iconst 0, 1) := by decide +kernel
theorem d12029_31 : decode (jm_b 12029) 31 = .ok (.iload_n 2, 1) := by decide +kernel
theorem d12029_32 : decode (jm_b 12029) 32 = .ok (.invokevirtual 269, 3) := by decide +kernel
theorem d12029_35 : decode (jm_b 12029) 35 = .ok (.return_, 1) := by decide +kernel
theorem d12029_36 : decode (jm_b 12029) 36 = .ok (.iconst 0, 1) := by decide +kernel
theorem d12029_37 : decode (jm_b 12029) 37 = .ok (.istore_n 2, 1) := by decide +kernel
theorem d12029_38 : decode (jm_b 12029) 38 = .ok (.iload_n 2, 1) := by decide +kernel
theorem d12029_39 : decode (jm_b 12029) 39 = .ok (.aload_n 0, 1) := by decide +kernel
theorem d12029_40 : decode (jm_b 12029) 40 = .ok (.getfield 88, 3) := by decide +kernel
theorem d12029_43 : decode (jm_b 12029) 43 = .ok (.if_icmp .ge 20, 3) := by decide +kernel
theorem d12029_46 : decode (jm_b 12029) 46 = .ok (.aload_n 0, 1) := by decide +kernel
theorem d12029_47 : decode (jm_b 12029) 47 = .ok (.iload_n 2, 1) := by decide +kernel
theorem d12029_48 : decode (jm_b 12029) 48 = .ok (.invokestatic 272, 3) := by decide +kernel
theorem d12029_51 : decode (jm_b 12029) 51 = .ok (.invokevirtual 240, 3) := by decide +kernel
theorem d12029_54 : decode (jm_b 12029) 54 = .ok (.ifCond .ne 9, 3) := by decide +kernel
theorem d12029_57 : decode (jm_b 12029) 57 = .ok (.iinc 2 1, 3) := by decide +kernel
theorem d12029_60 : decode (jm_b 12029) 60 = .ok (.goto (-22), 3) := by decide +kernel
theorem d12029_63 : decode (jm_b 12029) 63 = .ok (.iload_n 2, 1) := by decide +kernel
theorem d12029_64 : decode (jm_b 12029) 64 = .ok (.aload_n 0, 1) := by decide +kernel
theorem d12029_65 : decode (jm_b 12029) 65 = .ok (.getfield 88, 3) := by decide +kernel
theorem d12029_68 : decode (jm_b 12029) 68 = .ok (.if_icmp .ne 10, 3) := by decide +kernel
theorem d12029_71 : decode (jm_b 12029) 71 = .ok (.aload_n 0, 1) := by decide +kernel
theorem d12029_72 : decode (jm_b 12029) 72 = .ok (.iconst 0, 1) := by decide +kernel
theorem d12029_73 : decode (jm_b 12029) 73 = .ok (.iload_n 1, 1) := by decide +kernel
theorem d12029_74 : decode (jm_b 12029) 74 = .ok (.invokevirtual 253, 3) := by decide +kernel
theorem d12029_77 : decode (jm_b 12029) 77 = .ok (.return_, 1) := by decide +kernel
theorem d12029_78 : decode (jm_b 12029) 78 = .ok (.aload_n 0, 1) := by decide +kernel
theorem d12029_79 : decode (jm_b 12029) 79 = .ok (.iload_n 1, 1) := by decide +kernel
theorem d12029_80 : decode (jm_b 12029) 80 = .ok (.invokevirtual 266, 3) := by decide +kernel
theorem d12029_83 : decode (jm_b 12029) 83 = .ok (.aload_n 0, 1) := by decide +kernel
theorem d12029_84 : decode (jm_b 12029) 84 = .ok (.dup, 1) := by decide +kernel
theorem d12029_85 : decode (jm_b 12029) 85 = .ok (.getfield 217, 3) := by decide +kernel
theorem d12029_88 : decode (jm_b 12029) 88 = .ok (.iload_n 2, 1) := by decide +kernel
theorem d12029_89 : decode (jm_b 12029) 89 = .ok (.invokestatic 272, 3) := by decide +kernel
theorem d12029_92 : decode (jm_b 12029) 92 = .ok (.invokevirtual 228, 3) := by decide +kernel
theorem d12029_95 : decode (jm_b 12029) 95 = .ok (.iadd, 1) := by decide +kernel
theorem d12029_96 : decode (jm_b 12029) 96 = .ok (.putfield 217, 3) := by decide +kernel
theorem d12029_99 : decode (jm_b 12029) 99 = .ok (.aload_n 0, 1) := by decide +kernel
theorem d12029_100 : decode (jm_b 12029) 100 = .ok (.iconst 1, 1) := by decide +kernel
theorem d12029_101 : decode (jm_b 12029) 101 = .ok (.iload_n 2, 1) := by decide +kernel
theorem d12029_102 : decode (jm_b 12029) 102 = .ok (.invokevirtual 269, 3) := by decide +kernel
theorem d12029_105 : decode (jm_b 12029) 105 = .ok (.return_, 1) := by decide +kernel
theorem d12030_0 : decode (jm_b 12030) 0 = .ok (.aload_n 0, 1) := by decide +kernel
theorem d12030_1 : decode (jm_b 12030) 1 = .ok (.getfield 250, 3) := by decide +kernel
theorem d12030_4 : decode (jm_b 12030) 4 = .ok (.bipush 60, 2) := by decide +kernel
theorem d12030_6 : decode (jm_b 12030) 6 = .ok (.if_icmp .ne 9, 3) := by decide +kernel
theorem d12030_9 : decode (jm_b 12030) 9 = .ok (.aload_n 0, 1) := by decide +kernel
theorem d12030_10 : decode (jm_b 12030) 10 = .ok (.iconst 3, 1) := by decide +kernel
theorem d12030_11 : decode (jm_b 12030) 11 = .ok (.iload_n 1, 1) := by decide +kernel
theorem d12030_12 : decode (jm_b 12030) 12 = .ok (.invokevirtual 253, 3) := by decide +kernel
theorem d12030_15 : decode (jm_b 12030) 15 = .ok (.aload_n 0, 1) := by decide +kernel
theorem d12030_16 : decode (jm_b 12030) 16 = .ok (.dup, 1) := by decide +kernel
theorem d12030_17 : decode (jm_b 12030) 17 = .ok (.getfield 250, 3) := by decide +kernel
theorem d12030_20 : decode (jm_b 12030) 20 = .ok (.iconst 1, 1) := by decide +kernel
theorem d12030_21 : decode (jm_b 12030) 21 = .ok (.iadd, 1) := by decide +kernel
theorem d12030_22 : decode (jm_b 12030) 22 = .ok (.putfield 250, 3) := by decide +kernel
theorem d12030_25 : decode (jm_b 12030) 25 = .ok (.return_, 1) := by decide +kernel
theorem d12031_0 : decode (jm_b 12031) 0 = .ok (.aload_n 0, 1) := by decide +kernel
theorem d12031_1 : decode (jm_b 12031) 1 = .ok (.getfield 214, 3) := by decide +kernel
theorem d12031_4 : decode (jm_b 12031) 4 = .ok (.ifCond .ne 51, 3) := by decide +kernel
theorem d12031_7 : decode (jm_b 12031) 7 = .ok (.aload_n 0, 1) := by decide +kernel
theorem d12031_8 : decode (jm_b 12031) 8 = .ok (.getfield 96, 3) := by decide +kernel
theorem d12031_11 : decode (jm_b 12031) 11 = .ok (.sipush 300, 3) := by decide +kernel
theorem d12031_14 : decode (jm_b 12031) 14 = .ok (.aload_n 0, 1) := by decide +kernel
theorem d12031_15 : decode (jm_b 12031) 15 = .ok (.getfield 244, 3) := by decide +kernel
theorem d12031_18 : decode (jm_b 12031) 18 = .ok (.imul, 1) := by decide +kernel
theorem d12031_19 : decode (jm_b 12031) 19 = .ok (.aload_n 0, 1) := by decide +kernel
theorem d12031_20 : decode (jm_b 12031) 20 = .ok (.getfield 247, 3) := by decide +kernel
theorem d12031_23 : decode (jm_b 12031) 23 = .ok (.iadd, 1) := by decide +kernel
theorem d12031_24 : decode (jm_b 12031) 24 = .ok (.iload_n 1, 1) := by decide +kernel
theorem d12031_25 : decode (jm_b 12031) 25 = .ok (.iastore, 1) := by decide +kernel
theorem d12031_26 : decode (jm_b 12031) 26 = .ok (.aload_n 0, 1) := by decide +kernel
theorem d12031_27 : decode (jm_b 12031) 27 = .ok (.getfield 99, 3) := by decide +kernel
theorem d12031_30 : decode (jm_b 12031) 30 = .ok (.sipush 300, 3) := by decide +kernel
theorem d12031_33 : decode (jm_b 12031) 33 = .ok (.aload_n 0, 1) := by decide +kernel
theorem d12031_34 : decode (jm_b 12031) 34 = .ok (.getfield 244, 3) := by decide +kernel
theorem d12031_37 : decode (jm_b 12031) 37 = .ok (.imul, 1) := by decide +kernel
theorem d12031_38 : decode (jm_b 12031) 38 = .ok (.aload_n 0, 1) := by decide +kernel
theorem d12031_39 : decode (jm_b 12031) 39 = .ok (.getfield 247, 3) := by decide +kernel
theorem d12031_42 : decode (jm_b 12031) 42 = .ok (.iadd, 1) := by decide +kernel
theorem d12031_43 : decode (jm_b 12031) 43 = .ok (.iload_n 2, 1) := by decide +kernel
theorem d12031_44 : decode (jm_b 12031) 44 = .ok (.iastore, 1) := by decide +kernel
theorem d12031_45 : decode (jm_b 12031) 45 = .ok (.aload_n 0, 1) := by decide +kernel
theorem d12031_46 : decode (jm_b 12031) 46 = .ok (.dup, 1) := by decide +kernel
theorem d12031_47 : decode (jm_b 12031) 47 = .ok (.getfield 247, 3) := by decide +kernel
theorem d12031_50 : decode (jm_b 12031) 50 = .ok (.iconst 1, 1) := by decide +kernel
theorem d12031_51 : decode (jm_b 12031) 51 = .ok (.iadd, 1) := by decide +kernel
theorem d12031_52 : decode (jm_b 12031) 52 = .ok (.putfield 247, 3) := by decide +kernel
theorem d12031_55 : decode (jm_b 12031) 55 = .ok (.return_, 1) := by decide +kernel
theorem d12032_0 : decode (jm_b 12032) 0 = .ok (.iload_n 0, 1) := by decide +kernel
theorem d12032_1 : decode (jm_b 12032) 1 = .ok (.tableswitch 92 0 10 #[59, 62, 65, 68, 71, 74, 77, 80, 83, 86, 89], 59) := by decide +kernel
theorem d12032_60 : decode (jm_b 12032) 60 = .ok (.ldc 192, 2) := by decide +kernel
theorem d12032_62 : decode (jm_b 12032) 62 = .ok (.areturn, 1) := by decide +kernel
theorem d12032_63 : decode (jm_b 12032) 63 = .ok (.ldc 194, 2) := by decide +kernel
theorem d12032_65 : decode (jm_b 12032) 65 = .ok (.areturn, 1) := by decide +kernel
theorem d12032_66 : decode (jm_b 12032) 66 = .ok (.ldc 195, 2) := by decide +kernel
theorem d12032_68 : decode (jm_b 12032) 68 = .ok (.areturn, 1) := by decide +kernel
theorem d12032_69 : decode (jm_b 12032) 69 = .ok (.ldc 196, 2) := by decide +kernel
theorem d12032_71 : decode (jm_b 12032) 71 = .ok (.areturn, 1) := by decide +kernel
theorem d12032_72 : decode (jm_b 12032) 72 = .ok (.ldc 198, 2) := by decide +kernel
theorem d12032_74 : decode (jm_b 12032) 74 = .ok (.areturn, 1) := by decide +kernel
theorem d12032_75 : decode (jm_b 12032) 75 = .ok (.ldc 200, 2) := by decide +kernel
theorem d12032_77 : decode (jm_b 12032) 77 = .ok (.areturn, 1) := by decide +kernel
theorem d12032_78 : decode (jm_b 12032) 78 = .ok (.ldc 202, 2) := by decide +kernel
theorem d12032_80 : decode (jm_b 12032) 80 = .ok (.areturn, 1) := by decide +kernel
theorem d12032_81 : decode (jm_b 12032) 81 = .ok (.ldc 204, 2) := by decide +kernel
theorem d12032_83 : decode (jm_b 12032) 83 = .ok (.areturn, 1) := by decide +kernel
theorem d12032_84 : decode (jm_b 12032) 84 = .ok (.ldc 206, 2) := by decide +kernel
theorem d12032_86 : decode (jm_b 12032) 86 = .ok (.areturn, 1) := by decide +kernel
theorem d12032_87 : decode (jm_b 12032) 87 = .ok (.ldc 208, 2) := by decide +kernel
theorem d12032_89 : decode (jm_b 12032) 89 = .ok (.areturn, 1) := by decide +kernel
theorem d12032_90 : decode (jm_b 12032) 90 = .ok (.ldc 210, 2) := by decide +kernel
theorem d12032_92 : decode (jm_b 12032) 92 = .ok (.areturn, 1) := by decide +kernel
theorem d12032_93 : decode (jm_b 12032) 93 = .ok (.ldc 212, 2) := by decide +kernel
theorem d12032_95 : decode (jm_b 12032) 95 = .ok (.areturn, 1) := by decide +kernel
theorem d12033_0 : decode (jm_b 12033) 0 = .ok (.aload_n 0, 1) := by decide +kernel
theorem d12033_1 : decode (jm_b 12033) 1 = .ok (.invokevirtual 237, 3) := by decide +kernel
theorem d12033_4 : decode (jm_b 12033) 4 = .ok (.aload_n 0, 1) := by decide +kernel
theorem d12033_5 : decode (jm_b 12033) 5 = .ok (.aload_n 1, 1) := by decide +kernel
theorem d12033_6 : decode (jm_b 12033) 6 = .ok (.invokevirtual 240, 3) := by decide +kernel
theorem d12033_9 : decode (jm_b 12033) 9 = .ok (.istore_n 2, 1) := by decide +kernel
theorem d12033_10 : decode (jm_b 12033) 10 = .ok (.aload_n 0, 1) := by decide +kernel
theorem d12033_11 : decode (jm_b 12033) 11 = .ok (.dup, 1) := by decide +kernel
theorem d12033_12 : decode (jm_b 12033) 12 = .ok (.getfield 217, 3) := by decide +kernel
theorem d12033_15 : decode (jm_b 12033) 15 = .ok (.iload_n 2, 1) := by decide +kernel
theorem d12033_16 : decode (jm_b 12033) 16 = .ok (.ifCond .eq 10, 3) := by decide +kernel
theorem d12033_19 : decode (jm_b 12033) 19 = .ok (.aload_n 1, 1) := by decide +kernel
theorem d12033_20 : decode (jm_b 12033) 20 = .ok (.invokevirtual 228, 3) := by decide +kernel
theorem d12033_23 : decode (jm_b 12033) 23 = .ok (.goto 4, 3) := by decide +kernel
theorem d12033_26 : decode (jm_b 12033) 26 = .ok (.iconst 0, 1) := by decide +kernel
theorem d12033_27 : decode (jm_b 12033) 27 = .ok (.iadd, 1) := by decide +kernel
theorem d12033_28 : decode (jm_b 12033) 28 = .ok (.putfield 217, 3) := by decide +kernel
theorem d12033_31 : decode (jm_b 12033) 31 = .ok (.iload_n 2, 1) := by decide +kernel
theorem d12033_32 : decode (jm_b 12033) 32 = .ok (.ireturn, 1) := by decide +kernel
theorem d12034_0 : decode (jm_b 12034) 0 = .ok (.aload_n 0, 1) := by decide +kernel
theorem d12034_1 : decode (jm_b 12034) 1 = .ok (.iconst 0, 1) := by decide +kernel
theorem d12034_2 : decode (jm_b 12034) 2 = .ok (.putfield 285, 3) := by decide +kernel
theorem d12034_5 : decode (jm_b 12034) 5 = .ok (.iconst 1, 1) := by decide +kernel
theorem d12034_6 : decode (jm_b 12034) 6 = .ok (.istore_n 1, 1) := by decide +kernel
theorem d12034_7 : decode (jm_b 12034) 7 = .ok (.iconst 1, 1) := by decide +kernel
theorem d12034_8 : decode (jm_b 12034) 8 = .ok (.istore_n 2, 1) := by decide +kernel
theorem d12034_9 : decode (jm_b 12034) 9 = .ok (.iload_n 2, 1) := by decide +kernel
theorem d12034_10 : decode (jm_b 12034) 10 = .ok (.ifCond .eq 192, 3) := by decide +kernel
theorem d12034_13 : decode (jm_b 12034) 13 = .ok (.aload_n 0, 1) := by decide +kernel
theorem d12034_14 : decode (jm_b 12034) 14 = .ok (.getfield 214, 3) := by decide +kernel
theorem d12034_17 : decode (jm_b 12034) 17 = .ok (.ifCond .ne 185, 3) := by decide +kernel
theorem d12034_20 : decode (jm_b 12034) 20 = .ok (.iload_n 1, 1) := by decide +kernel
theorem d12034_21 : decode (jm_b 12034) 21 = .ok (.ifCond .eq 19, 3) := by decide +kernel
theorem d12034_24 : decode (jm_b 12034) 24 = .ok (.aload_n 0, 1) := by decide +kernel
theorem d12034_25 : decode (jm_b 12034) 25 = .ok (.invokevirtual 302, 3) := by decide +kernel
theorem d12034_28 : decode (jm_b 12034) 28 = .ok (.ifCond .ne 7, 3) := by decide +kernel
theorem d12034_31 : decode (jm_b 12034) 31 = .ok (.iconst 1, 1) := by decide +kernel
theorem d12034_32 : decode (jm_b 12034) 32 = .ok (.goto 4, 3) := by decide +kernel
theorem d12034_35 : decode (jm_b 12034) 35 = .ok (.iconst 0, 1) := by decide +kernel
theorem d12034_36 : decode (jm_b 12034) 36 = .ok (.istore_n 1, 1) := by decide +kernel
theorem d12034_37 : decode (jm_b 12034) 37 = .ok (.goto (-28), 3) := by decide +kernel
theorem d12034_40 : decode (jm_b 12034) 40 = .ok (.aload_n 0, 1) := by decide +kernel
theorem d12034_41 : decode (jm_b 12034) 41 = .ok (.bipush 9, 2) := by decide +kernel
theorem d12034_43 : decode (jm_b 12034) 43 = .ok (.invokevirtual 305, 3) := by decide +kernel
theorem d12034_46 : decode (jm_b 12034) 46 = .ok (.aload_n 0, 1) := by decide +kernel
theorem d12034_47 : decode (jm_b 12034) 47 = .ok (.invokevirtual 237, 3) := by decide +kernel
theorem d12034_50 : decode (jm_b 12034) 50 = .ok (.aload_n 0, 1) := by decide +kernel
theorem d12034_51 : decode (jm_b 12034) 51 = .ok (.ldc_w 308, 3) := by decide +kernel
theorem d12034_54 : decode (jm_b 12034) 54 = .ok (.invokevirtual 240, 3) := by decide +kernel
theorem d12034_57 : decode (jm_b 12034) 57 = .ok (.istore_n 3, 1) := by decide +kernel
theorem d12034_58 : decode (jm_b 12034) 58 = .ok (.aload_n 0, 1) := by decide +kernel
theorem d12034_59 : decode (jm_b 12034) 59 = .ok (.ldc_w 310, 3) := by decide +kernel
theorem d12034_62 : decode (jm_b 12034) 62 = .ok (.invokevirtual 240, 3) := by decide +kernel
theorem d12034_65 : decode (jm_b 12034) 65 = .ok (.istore 4, 2) := by decide +kernel
theorem d12034_67 : decode (jm_b 12034) 67 = .ok (.aload_n 0, 1) := by decide +kernel
theorem d12034_68 : decode (jm_b 12034) 68 = .ok (.bipush 10, 2) := by decide +kernel
theorem d12034_70 : decode (jm_b 12034) 70 = .ok (.invokevirtual 305, 3) := by decide +kernel
theorem d12034_73 : decode (jm_b 12034) 73 = .ok (.iload_n 3, 1) := by decide +kernel
theorem d12034_74 : decode (jm_b 12034) 74 = .ok (.ifCond .ne 8, 3) := by decide +kernel
theorem d12034_77 : decode (jm_b 12034) 77 = .ok (.iload 4, 2) := by decide +kernel
theorem d12034_79 : decode (jm_b 12034) 79 = .ok (.ifCond .eq 52, 3) := by decide +kernel
theorem d12034_82 : decode (jm_b 12034) 82 = .ok (.iload 4, 2) := by decide +kernel
theorem d12034_84 : decode (jm_b 12034) 84 = .ok (.ifCond .eq 9, 3) := by decide +kernel
theorem d12034_87 : decode (jm_b 12034) 87 = .ok (.aload_n 0, 1) := by decide +kernel
theorem d12034_88 : decode (jm_b 12034) 88 = .ok (.bipush 11, 2) := by decide +kernel
theorem d12034_90 : decode (jm_b 12034) 90 = .ok (.invokevirtual 305, 3) := by decide +kernel
theorem d12034_93 : decode (jm_b 12034) 93 = .ok (.aload_n 0, 1) := by decide +kernel
theorem d12034_94 : decode (jm_b 12034) 94 = .ok (.iload_n 3, 1) := by decide +kernel
theorem d12034_95 : decode (jm_b 12034) 95 = .ok (.ifCond .eq 8, 3) := by decide +kernel
theorem d12034_98 : decode (jm_b 12034) 98 = .ok (.bipush 10, 2) := by decide +kernel
theorem d12034_100 : decode (jm_b 12034) 100 = .ok (.goto 5, 3) := by decide +kernel
theorem d12034_103 : decode (jm_b 12034) 103 = .ok (.bipush 11, 2) := by decide +kernel
theorem d12034_105 : decode (jm_b 12034) 105 = .ok (.invokevirtual 296, 3) := by decide +kernel
theorem d12034_108 : decode (jm_b 12034) 108 = .ok (.aload_n 0, 1) := by decide +kernel
theorem d12034_109 : decode (jm_b 12034) 109 = .ok (.dup, 1) := by decide +kernel
theorem d12034_110 : decode (jm_b 12034) 110 = .ok (.getfield 217, 3) := by decide +kernel
theorem d12034_113 : decode (jm_b 12034) 113 = .ok (.iload_n 3, 1) := by decide +kernel
theorem d12034_114 : decode (jm_b 12034) 114 = .ok (.ifCond .eq 7, 3) := by decide +kernel
theorem d12034_117 : decode (jm_b 12034) 117 = .ok (.iconst 3, 1) := by decide +kernel
theorem d12034_118 : decode (jm_b 12034) 118 = .ok (.goto 4, 3) := by decide +kernel
theorem d12034_121 : decode (jm_b 12034) 121 = .ok (.iconst 2, 1) := by decide +kernel
theorem d12034_122 : decode (jm_b 12034) 122 = .ok (.iadd, 1) := by decide +kernel
theorem d12034_123 : decode (jm_b 12034) 123 = .ok (.putfield 217, 3) := by decide +kernel
theorem d12034_126 : decode (jm_b 12034) 126 = .ok (.iconst 1, 1) := by decide +kernel
theorem d12034_127 : decode (jm_b 12034) 127 = .ok (.istore_n 1, 1) := by decide +kernel
theorem d12034_128 : decode (jm_b 12034) 128 = .ok (.goto 71, 3) := by decide +kernel
theorem d12034_131 : decode (jm_b 12034) 131 = .ok (.aload_n 0, 1) := by decide +kernel
theorem d12034_132 : decode (jm_b 12034) 132 = .ok (.bipush 11, 2) := by decide +kernel
theorem d12034_134 : decode (jm_b 12034) 134 = .ok (.invokevirtual 305, 3) := by decide +kernel
theorem d12034_137 : decode (jm_b 12034) 137 = .ok (.aload_n 0, 1) := by decide +kernel
theorem d12034_138 : decode (jm_b 12034) 138 = .ok (.invokevirtual 291, 3) := by decide +kernel
theorem d12034_141 : decode (jm_b 12034) 141 = .ok (.bipush 12, 2) := by decide +kernel
theorem d12034_143 : decode (jm_b 12034) 143 = .ok (.if_icmp .ne 54, 3) := by decide +kernel
theorem d12034_146 : decode (jm_b 12034) 146 = .ok (.aload_n 0, 1) := by decide +kernel
theorem d12034_147 : decode (jm_b 12034) 147 = .ok (.invokevirtual 220, 3) := by decide +kernel
theorem d12034_150 : decode (jm_b 12034) 150 = .ok (.bipush 93, 2) := by decide +kernel
theorem d12034_152 : decode (jm_b 12034) 152 = .ok (.if_icmp .eq 12, 3) := by decide +kernel
theorem d12034_155 : decode (jm_b 12034) 155 = .ok (.aload_n 0, 1) := by decide +kernel
theorem d12034_156 : decode (jm_b 12034) 156 = .ok (.iconst 0, 1) := by decide +kernel
theorem d12034_157 : decode (jm_b 12034) 157 = .ok (.aload_n 0, 1) := by decide +kernel
theorem d12034_158 : decode (jm_b 12034) 158 = .ok (.getfield 217, 3) := by decide +kernel
theorem d12034_161 : decode (jm_b 12034) 161 = .ok (.invokevirtual 253, 3) := by decide +kernel
theorem d12034_164 : decode (jm_b 12034) 164 = .ok (.aload_n 0, 1) := by decide +kernel
theorem d12034_165 : decode (jm_b 12034) 165 = .ok (.dup, 1) := by decide +kernel
theorem d12034_166 : decode (jm_b 12034) 166 = .ok (.getfield 217, 3) := by decide +kernel
theorem d12034_169 : decode (jm_b 12034) 169 = .ok (.iconst 1, 1) := by decide +kernel
theorem d12034_170 : decode (jm_b 12034) 170 = .ok (.iadd, 1) := by decide +kernel
theorem d12034_171 : decode (jm_b 12034) 171 = .ok (.putfield 217, 3) := by decide +kernel
theorem d12034_174 : decode (jm_b 12034) 174 = .ok (.aload_n 0, 1) := by decide +kernel
theorem d12034_175 : decode (jm_b 12034) 175 = .ok (.dup, 1) := by decide +kernel
theorem d12034_176 : decode (jm_b 12034) 176 = .ok (.getfield 285, 3) := by decide +kernel
theorem d12034_179 : decode (jm_b 12034) 179 = .ok (.iconst 1, 1) := by decide +kernel
theorem d12034_180 : decode (jm_b 12034) 180 = .ok (.isub, 1) := by decide +kernel
theorem d12034_181 : decode (jm_b 12034) 181 = .ok (.putfield 285, 3) := by decide +kernel
theorem d12034_184 : decode (jm_b 12034) 184 = .ok (.aload_n 0, 1) := by decide +kernel
theorem d12034_185 : decode (jm_b 12034) 185 = .ok (.dup, 1) := by decide +kernel
theorem d12034_186 : decode (jm_b 12034) 186 = .ok (.getfield 288, 3) := by decide +kernel
theorem d12034_189 : decode (jm_b 12034) 189 = .ok (.iconst 1, 1) := by decide +kernel
theorem d12034_190 : decode (jm_b 12034) 190 = .ok (.isub, 1) := by decide +kernel
theorem d12034_191 : decode (jm_b 12034) 191 = .ok (.putfield 288, 3) := by decide +kernel
theorem d12034_194 : decode (jm_b 12034) 194 = .ok (.goto 5, 3) := by decide +kernel
theorem d12034_197 : decode (jm_b 12034) 197 = .ok (.iconst 0, 1) := by decide +kernel
theorem d12034_198 : decode (jm_b 12034) 198 = .ok (.istore_n 2, 1) := by decide +kernel
theorem d12034_199 : decode (jm_b 12034) 199 = .ok (.goto (-190), 3) := by decide +kernel
theorem d12034_202 : decode (jm_b 12034) 202 = .ok (.return_, 1) := by decide +kernel
theorem d12035_0 : decode (jm_b 12035) 0 = .ok (.aload_n 0, 1) := by decide +kernel
theorem d12035_1 : decode (jm_b 12035) 1 = .ok (.invokevirtual 237, 3) := by decide +kernel
theorem d12035_4 : decode (jm_b 12035) 4 = .ok (.aload_n 0, 1) := by decide +kernel
theorem d12035_5 : decode (jm_b 12035) 5 = .ok (.ldc_w 294, 3) := by decide +kernel
theorem d12035_8 : decode (jm_b 12035) 8 = .ok (.invokevirtual 240, 3) := by decide +kernel
theorem d12035_11 : decode (jm_b 12035) 11 = .ok (.ifCond .eq 21, 3) := by decide +kernel
theorem d12035_14 : decode (jm_b 12035) 14 = .ok (.aload_n 0, 1) := by decide +kernel
theorem d12035_15 : decode (jm_b 12035) 15 = .ok (.bipush 9, 2) := by decide +kernel
theorem d12035_17 : decode (jm_b 12035) 17 = .ok (.invokevirtual 296, 3) := by decide +kernel
theorem d12035_20 : decode (jm_b 12035) 20 = .ok (.aload_n 0, 1) := by decide +kernel
theorem d12035_21 : decode (jm_b 12035) 21 = .ok (.dup, 1) := by decide +kernel
theorem d12035_22 : decode (jm_b 12035) 22 = .ok (.getfield 217, 3) := by decide +kernel
theorem d12035_25 : decode (jm_b 12035) 25 = .ok (.iconst 3, 1) := by decide +kernel
theorem d12035_26 : decode (jm_b 12035) 26 = .ok (.iadd, 1) := by decide +kernel
theorem d12035_27 : decode (jm_b 12035) 27 = .ok (.putfield 217, 3) := by decide +kernel
theorem d12035_30 : decode (jm_b 12035) 30 = .ok (.iconst 0, 1) := by decide +kernel
theorem d12035_31 : decode (jm_b 12035) 31 = .ok (.ireturn, 1) := by decide +kernel
theorem d12035_32 : decode (jm_b 12035) 32 = .ok (.aload_n 0, 1) := by decide +kernel
theorem d12035_33 : decode (jm_b 12035) 33 = .ok (.invokevirtual 220, 3) := by decide +kernel
theorem d12035_36 : decode (jm_b 12035) 36 = .ok (.bipush 91, 2) := by decide +kernel
theorem d12035_38 : decode (jm_b 12035) 38 = .ok (.if_icmp .ne 21, 3) := by decide +kernel
theorem d12035_41 : decode (jm_b 12035) 41 = .ok (.aload_n 0, 1) := by decide +kernel
theorem d12035_42 : decode (jm_b 12035) 42 = .ok (.bipush 12, 2) := by decide +kernel
theorem d12035_44 : decode (jm_b 12035) 44 = .ok (.invokevirtual 296, 3) := by decide +kernel
theorem d12035_47 : decode (jm_b 12035) 47 = .ok (.aload_n 0, 1) := by decide +kernel
theorem d12035_48 : decode (jm_b 12035) 48 = .ok (.dup, 1) := by decide +kernel
theorem d12035_49 : decode (jm_b 12035) 49 = .ok (.getfield 217, 3) := by decide +kernel
theorem d12035_52 : decode (jm_b 12035) 52 = .ok (.iconst 1, 1) := by decide +kernel
theorem d12035_53 : decode (jm_b 12035) 53 = .ok (.iadd, 1) := by decide +kernel
theorem d12035_54 : decode (jm_b 12035) 54 = .ok (.putfield 217, 3) := by decide +kernel
theorem d12035_57 : decode (jm_b 12035) 57 = .ok (.iconst 0, 1) := by decide +kernel
theorem d12035_58 : decode (jm_b 12035) 58 = .ok (.ireturn, 1) := by decide +kernel
theorem d12035_59 : decode (jm_b 12035) 59 = .ok (.aload_n 0, 1) := by decide +kernel
theorem d12035_60 : decode (jm_b 12035) 60 = .ok (.invokevirtual 299, 3) := by decide +kernel
theorem d12035_63 : decode (jm_b 12035) 63 = .ok (.iconst 1, 1) := by decide +kernel
theorem d12035_64 : decode (jm_b 12035) 64 = .ok (.ireturn, 1) := by decide +kernel
theorem d12036_0 : decode (jm_b 12036) 0 = .ok (.iload_n 1, 1) := by decide +kernel
theorem d12036_1 : decode (jm_b 12036) 1 = .ok (.bipush 9, 2) := by decide +kernel
theorem d12036_3 : decode (jm_b 12036) 3 = .ok (.if_icmp .eq 9, 3) := by decide +kernel
theorem d12036_6 : decode (jm_b 12036) 6 = .ok (.iload_n 1, 1) := by decide +kernel
theorem d12036_7 : decode (jm_b 12036) 7 = .ok (.bipush 12, 2) := by decide +kernel
theorem d12036_9 : decode (jm_b 12036) 9 = .ok (.if_icmp .ne 31, 3) := by decide +kernel
theorem d12036_12 : decode (jm_b 12036) 12 = .ok (.aload_n 0, 1) := by decide +kernel
theorem d12036_13 : decode (jm_b 12036) 13 = .ok (.getfield 288, 3) := by decide +kernel
theorem d12036_16 : decode (jm_b 12036) 16 = .ok (.bipush 10, 2) := by decide +kernel
theorem d12036_18 : decode (jm_b 12036) 18 = .ok (.if_icmp .ne 12, 3) := by decide +kernel
theorem d12036_21 : decode (jm_b 12036) 21 = .ok (.aload_n 0, 1) := by decide +kernel
theorem d12036_22 : decode (jm_b 12036) 22 = .ok (.iconst 2, 1) := by decide +kernel
theorem d12036_23 : decode (jm_b 12036) 23 = .ok (.aload_n 0, 1) := by decide +kernel
theorem d12036_24 : decode (jm_b 12036) 24 = .ok (.getfield 217, 3) := by decide +kernel
theorem d12036_27 : decode (jm_b 12036) 27 = .ok (.invokevirtual 253, 3) := by decide +kernel
theorem d12036_30 : decode (jm_b 12036) 30 = .ok (.aload_n 0, 1) := by decide +kernel
theorem d12036_31 : decode (jm_b 12036) 31 = .ok (.dup, 1) := by decide +kernel
theorem d12036_32 : decode (jm_b 12036) 32 = .ok (.getfield 288, 3) := by decide +kernel
theorem d12036_35 : decode (jm_b 12036) 35 = .ok (.iconst 1, 1) := by decide +kernel
theorem d12036_36 : decode (jm_b 12036) 36 = .ok (.iadd, 1) := by decide +kernel
theorem d12036_37 : decode (jm_b 12036) 37 = .ok (.putfield 288, 3) := by decide +kernel
theorem d12036_40 : decode (jm_b 12036) 40 = .ok (.aload_n 0, 1) := by decide +kernel
theorem d12036_41 : decode (jm_b 12036) 41 = .ok (.getfield 114, 3) := by decide +kernel
theorem d12036_44 : decode (jm_b 12036) 44 = .ok (.aload_n 0, 1) := by decide +kernel
theorem d12036_45 : decode (jm_b 12036) 45 = .ok (.getfield 285, 3) := by decide +kernel
theorem d12036_48 : decode (jm_b 12036) 48 = .ok (.iload_n 1, 1) := by decide +kernel
theorem d12036_49 : decode (jm_b 12036) 49 = .ok (.iastore, 1) := by decide +kernel
theorem d12036_50 : decode (jm_b 12036) 50 = .ok (.aload_n 0, 1) := by decide +kernel
theorem d12036_51 : decode (jm_b 12036) 51 = .ok (.dup, 1) := by decide +kernel
theorem d12036_52 : decode (jm_b 12036) 52 = .ok (.getfield 285, 3) := by decide +kernel
theorem d12036_55 : decode (jm_b 12036) 55 = .ok (.iconst 1, 1) := by decide +kernel
theorem d12036_56 : decode (jm_b 12036) 56 = .ok (.iadd, 1) := by decide +kernel
theorem d12036_57 : decode (jm_b 12036) 57 = .ok (.putfield 285, 3) := by decide +kernel
theorem d12036_60 : decode (jm_b 12036) 60 = .ok (.return_, 1) := by decide +kernel
theorem d12037_0 : decode (jm_b 12037) 0 = .ok (.aload_n 0, 1) := by decide +kernel
theorem d12037_1 : decode (jm_b 12037) 1 = .ok (.invokevirtual 282, 3) := by decide +kernel
theorem d12037_4 : decode (jm_b 12037) 4 = .ok (.aload_n 0, 1) := by decide +kernel
theorem d12037_5 : decode (jm_b 12037) 5 = .ok (.invokevirtual 220, 3) := by decide +kernel
theorem d12037_8 : decode (jm_b 12037) 8 = .ok (.istore_n 1, 1) := by decide +kernel
theorem d12037_9 : decode (jm_b 12037) 9 = .ok (.iload_n 1, 1) := by decide +kernel
theorem d12037_10 : decode (jm_b 12037) 10 = .ok (.bipush 60, 2) := by decide +kernel
theorem d12037_12 : decode (jm_b 12037) 12 = .ok (.if_icmp .eq 25, 3) := by decide +kernel
theorem d12037_15 : decode (jm_b 12037) 15 = .ok (.iload_n 1, 1) := by decide +kernel
theorem d12037_16 : decode (jm_b 12037) 16 = .ok (.bipush 61, 2) := by decide +kernel
theorem d12037_18 : decode (jm_b 12037) 18 = .ok (.if_icmp .eq 19, 3) := by decide +kernel
theorem d12037_21 : decode (jm_b 12037) 21 = .ok (.iload_n 1, 1) := by decide +kernel
theorem d12037_22 : decode (jm_b 12037) 22 = .ok (.bipush 62, 2) := by decide +kernel
theorem d12037_24 : decode (jm_b 12037) 24 = .ok (.if_icmp .eq 13, 3) := by decide +kernel
theorem d12037_27 : decode (jm_b 12037) 27 = .ok (.aload_n 0, 1) := by decide +kernel
theorem d12037_28 : decode (jm_b 12037) 28 = .ok (.iconst 0, 1) := by decide +kernel
theorem d12037_29 : decode (jm_b 12037) 29 = .ok (.aload_n 0, 1) := by decide +kernel
theorem d12037_30 : decode (jm_b 12037) 30 = .ok (.getfield 217, 3) := by decide +kernel
theorem d12037_33 : decode (jm_b 12037) 33 = .ok (.invokevirtual 253, 3) := by decide +kernel
theorem d12037_36 : decode (jm_b 12037) 36 = .ok (.return_, 1) := by decide +kernel
theorem d12037_37 : decode (jm_b 12037) 37 = .ok (.aload_n 0, 1) := by decide +kernel
theorem d12037_38 : decode (jm_b 12037) 38 = .ok (.aload_n 0, 1) := by decide +kernel
theorem d12037_39 : decode (jm_b 12037) 39 = .ok (.getfield 217, 3) := by decide +kernel
theorem d12037_42 : decode (jm_b 12037) 42 = .ok (.invokevirtual 266, 3) := by decide +kernel
theorem d12037_45 : decode (jm_b 12037) 45 = .ok (.aload_n 0, 1) := by decide +kernel
theorem d12037_46 : decode (jm_b 12037) 46 = .ok (.dup, 1) := by decide +kernel
theorem d12037_47 : decode (jm_b 12037) 47 = .ok (.getfield 217, 3) := by decide +kernel
theorem d12037_50 : decode (jm_b 12037) 50 = .ok (.iconst 1, 1) := by decide +kernel
theorem d12037_51 : decode (jm_b 12037) 51 = .ok (.iadd, 1) := by decide +kernel
theorem d12037_52 : decode (jm_b 12037) 52 = .ok (.putfield 217, 3) := by decide +kernel
theorem d12037_55 : decode (jm_b 12037) 55 = .ok (.iload_n 1, 1) := by decide +kernel
theorem d12037_56 : decode (jm_b 12037) 56 = .ok (.bipush 61, 2) := by decide +kernel
theorem d12037_58 : decode (jm_b 12037) 58 = .ok (.if_icmp .eq 16, 3) := by decide +kernel
theorem d12037_61 : decode (jm_b 12037) 61 = .ok (.aload_n 0, 1) := by decide +kernel
theorem d12037_62 : decode (jm_b 12037) 62 = .ok (.invokevirtual 220, 3) := by decide +kernel
theorem d12037_65 : decode (jm_b 12037) 65 = .ok (.bipush 61, 2) := by decide +kernel
theorem d12037_67 : decode (jm_b 12037) 67 = .ok (.if_icmp .ne 7, 3) := by decide +kernel
theorem d12037_70 : decode (jm_b 12037) 70 = .ok (.iconst 1, 1) := by decide +kernel
theorem d12037_71 : decode (jm_b 12037) 71 = .ok (.goto 4, 3) := by decide +kernel
theorem d12037_74 : decode (jm_b 12037) 74 = .ok (.iconst 0, 1) := by decide +kernel
theorem d12037_75 : decode (jm_b 12037) 75 = .ok (.istore_n 2, 1) := by decide +kernel
theorem d12037_76 : decode (jm_b 12037) 76 = .ok (.aload_n 0, 1) := by decide +kernel
theorem d12037_77 : decode (jm_b 12037) 77 = .ok (.dup, 1) := by decide +kernel
theorem d12037_78 : decode (jm_b 12037) 78 = .ok (.getfield 217, 3) := by decide +kernel
theorem d12037_81 : decode (jm_b 12037) 81 = .ok (.iload_n 2, 1) := by decide +kernel
theorem d12037_82 : decode (jm_b 12037) 82 = .ok (.ifCond .eq 7, 3) := by decide +kernel
theorem d12037_85 : decode (jm_b 12037) 85 = .ok (.iconst 1, 1) := by decide +kernel
theorem d12037_86 : decode (jm_b 12037) 86 = .ok (.goto 4, 3) := by decide +kernel
theorem d12037_89 : decode (jm_b 12037) 89 = .ok (.iconst 0, 1) := by decide +kernel
theorem d12037_90 : decode (jm_b 12037) 90 = .ok (.iadd, 1) := by decide +kernel
theorem d12037_91 : decode (jm_b 12037) 91 = .ok (.putfield 217, 3) := by decide +kernel
theorem d12037_94 : decode (jm_b 12037) 94 = .ok (.aload_n 0, 1) := by decide +kernel
theorem d12037_95 : decode (jm_b 12037) 95 = .ok (.invokevirtual 282, 3) := by decide +kernel
theorem d12037_98 : decode (jm_b 12037) 98 = .ok (.aload_n 0, 1) := by decide +kernel
theorem d12037_99 : decode (jm_b 12037) 99 = .ok (.iload_n 1, 1) := by decide +kernel
theorem d12037_100 : decode (jm_b 12037) 100 = .ok (.bipush 61, 2) := by decide +kernel
theorem d12037_102 : decode (jm_b 12037) 102 = .ok (.if_icmp .ne 8, 3) := by decide +kernel
theorem d12037_105 : decode (jm_b 12037) 105 = .ok (.bipush 6, 2) := by decide +kernel
theorem d12037_107 : decode (jm_b 12037) 107 = .ok (.goto 32, 3) := by decide +kernel
theorem d12037_110 : decode (jm_b 12037) 110 = .ok (.iload_n 1, 1) := by decide +kernel
theorem d12037_111 : decode (jm_b 12037) 111 = .ok (.bipush 60, 2) := by decide +kernel
theorem d12037_113 : decode (jm_b 12037) 113 = .ok (.if_icmp .ne 15, 3) := by decide +kernel
theorem d12037_116 : decode (jm_b 12037) 116 = .ok (.iload_n 2, 1) := by decide +kernel
theorem d12037_117 : decode (jm_b 12037) 117 = .ok (.ifCond .eq 7, 3) := by decide +kernel
theorem d12037_120 : decode (jm_b 12037) 120 = .ok (.iconst 5, 1) := by decide +kernel
theorem d12037_121 : decode (jm_b 12037) 121 = .ok (.goto 18, 3) := by decide +kernel
theorem d12037_124 : decode (jm_b 12037) 124 = .ok (.iconst 4, 1) := by decide +kernel
theorem d12037_125 : decode (jm_b 12037) 125 = .ok (.goto 14, 3) := by decide +kernel
theorem d12037_128 : decode (jm_b 12037) 128 = .ok (.iload_n 2, 1) := by decide +kernel
theorem d12037_129 : decode (jm_b 12037) 129 = .ok (.ifCond .eq 8, 3) := by decide +kernel
theorem d12037_132 : decode (jm_b 12037) 132 = .ok (.bipush 7, 2) := by decide +kernel
theorem d12037_134 : decode (jm_b 12037) 134 = .ok (.goto 5, 3) := by decide +kernel
theorem d12037_137 : decode (jm_b 12037) 137 = .ok (.bipush 8, 2) := by decide +kernel
theorem d12037_139 : decode (jm_b 12037) 139 = .ok (.iconst 0, 1) := by decide +kernel
theorem d12037_140 : decode (jm_b 12037) 140 = .ok (.invokevirtual 269, 3) := by decide +kernel
theorem d12037_143 : decode (jm_b 12037) 143 = .ok (.return_, 1) := by decide +kernel
theorem d12038_0 : decode (jm_b 12038) 0 = .ok (.aload_n 0, 1) := by decide +kernel
theorem d12038_1 : decode (jm_b 12038) 1 = .ok (.invokevirtual 291, 3) := by decide +kernel
theorem d12038_4 : decode (jm_b 12038) 4 = .ok (.iload_n 1, 1) := by decide +kernel
theorem d12038_5 : decode (jm_b 12038) 5 = .ok (.if_icmp .ne 49, 3) := by decide +kernel
theorem d12038_8 : decode (jm_b 12038) 8 = .ok (.aload_n 0, 1) := by decide +kernel
theorem d12038_9 : decode (jm_b 12038) 9 = .ok (.getfield 214, 3) := by decide +kernel
theorem d12038_12 : decode (jm_b 12038) 12 = .ok (.ifCond .ne 42, 3) := by decide +kernel
theorem d12038_15 : decode (jm_b 12038) 15 = .ok (.aload_n 0, 1) := by decide +kernel
theorem d12038_16 : decode (jm_b 12038) 16 = .ok (.iload_n 1, 1) := by decide +kernel
theorem d12038_17 : decode (jm_b 12038) 17 = .ok (.iconst 0, 1) := by decide +kernel
theorem d12038_18 : decode (jm_b 12038) 18 = .ok (.invokevirtual 269, 3) := by decide +kernel
theorem d12038_21 : decode (jm_b 12038) 21 = .ok (.aload_n 0, 1) := by decide +kernel
theorem d12038_22 : decode (jm_b 12038) 22 = .ok (.dup, 1) := by decide +kernel
theorem d12038_23 : decode (jm_b 12038) 23 = .ok (.getfield 285, 3) := by decide +kernel
theorem d12038_26 : decode (jm_b 12038) 26 = .ok (.iconst 1, 1) := by decide +kernel
theorem d12038_27 : decode (jm_b 12038) 27 = .ok (.isub, 1) := by decide +kernel
theorem d12038_28 : decode (jm_b 12038) 28 = .ok (.putfield 285, 3) := by decide +kernel
theorem d12038_31 : decode (jm_b 12038) 31 = .ok (.aload_n 0, 1) := by decide +kernel
theorem d12038_32 : decode (jm_b 12038) 32 = .ok (.dup, 1) := by decide +kernel
theorem d12038_33 : decode (jm_b 12038) 33 = .ok (.getfield 288, 3) := by decide +kernel
theorem d12038_36 : decode (jm_b 12038) 36 = .ok (.iload_n 1, 1) := by decide +kernel
theorem d12038_37 : decode (jm_b 12038) 37 = .ok (.bipush 9, 2) := by decide +kernel
theorem d12038_39 : decode (jm_b 12038) 39 = .ok (.if_icmp .ne 7, 3) := by decide +kernel
theorem d12038_42 : decode (jm_b 12038) 42 = .ok (.iconst 1, 1) := by decide +kernel
theorem d12038_43 : decode (jm_b 12038) 43 = .ok (.goto 4, 3) := by decide +kernel
theorem d12038_46 : decode (jm_b 12038) 46 = .ok (.iconst 0, 1) := by decide +kernel
theorem d12038_47 : decode (jm_b 12038) 47 = .ok (.isub, 1) := by decide +kernel
theorem d12038_48 : decode (jm_b 12038) 48 = .ok (.putfield 288, 3) := by decide +kernel
theorem d12038_51 : decode (jm_b 12038) 51 = .ok (.goto (-51), 3) := by decide +kernel
theorem d12038_54 : decode (jm_b 12038) 54 = .ok (.return_, 1) := by decide +kernel
theorem d12039_0 : decode (jm_b 12039) 0 = .ok (.aload_n 0, 1) := by decide +kernel
theorem d12039_1 : decode (jm_b 12039) 1 = .ok (.getfield 285, 3) := by decide +kernel
theorem d12039_4 : decode (jm_b 12039) 4 = .ok (.ifCond .ne 7, 3) := by decide +kernel
theorem d12039_7 : decode (jm_b 12039) 7 = .ok (.iconst (-1), 1) := by decide +kernel
theorem d12039_8 : decode (jm_b 12039) 8 = .ok (.goto 14, 3) := by decide +kernel
theorem d12039_11 : decode (jm_b 12039) 11 = .ok (.aload_n 0, 1) := by decide +kernel
theorem d12039_12 : decode (jm_b 12039) 12 = .ok (.getfield 114, 3) := by decide +kernel
theorem d12039_15 : decode (jm_b 12039) 15 = .ok (.aload_n 0, 1) := by decide +kernel
theorem d12039_16 : decode (jm_b 12039) 16 = .ok (.getfield 285, 3) := by decide +kernel
theorem d12039_19 : decode (jm_b 12039) 19 = .ok (.iconst 1, 1) := by decide +kernel
theorem d12039_20 : decode (jm_b 12039) 20 = .ok (.isub, 1) := by decide +kernel
theorem d12039_21 : decode (jm_b 12039) 21 = .ok (.iaload, 1) := by decide +kernel
theorem d12039_22 : decode (jm_b 12039) 22 = .ok (.ireturn, 1) := by decide +kernel
theorem d12040_0 : decode (jm_b 12040) 0 = .ok (.iload_n 1, 1) := by decide +kernel
theorem d12040_1 : decode (jm_b 12040) 1 = .ok (.i2l, 1) := by decide +kernel
theorem d12040_2 : decode (jm_b 12040) 2 = .ok (.ldc2_w 380, 3) := by decide +kernel
theorem d12040_5 : decode (jm_b 12040) 5 = .ok (.aload_n 0, 1) := by decide +kernel
theorem d12040_6 : decode (jm_b 12040) 6 = .ok (.getfield 374, 3) := by decide +kernel
theorem d12040_9 : decode (jm_b 12040) 9 = .ok (.iconst 1, 1) := by decide +kernel
theorem d12040_10 : decode (jm_b 12040) 10 = .ok (.isub, 1) := by decide +kernel
theorem d12040_11 : decode (jm_b 12040) 11 = .ok (.i2l, 1) := by decide +kernel
theorem d12040_12 : decode (jm_b 12040) 12 = .ok (.invokestatic 170, 3) := by decide +kernel
theorem d12040_15 : decode (jm_b 12040) 15 = .ok (.ifCond .ne 6, 3) := by decide +kernel
theorem d12040_18 : decode (jm_b 12040) 18 = .ok (.bipush (-2), 2) := by decide +kernel
theorem d12040_20 : decode (jm_b 12040) 20 = .ok (.ireturn, 1) := by decide +kernel
theorem d12040_21 : decode (jm_b 12040) 21 = .ok (.aload_n 0, 1) := by decide +kernel
theorem d12040_22 : decode (jm_b 12040) 22 = .ok (.getfield 9, 3) := by decide +kernel
theorem d12040_25 : decode (jm_b 12040) 25 = .ok (.bipush 8, 2) := by decide +kernel
theorem d12040_27 : decode (jm_b 12040) 27 = .ok (.iaload, 1) := by decide +kernel
theorem d12040_28 : decode (jm_b 12040) 28 = .ok (.istore_n 2, 1) := by decide +kernel
theorem d12040_29 : decode (jm_b 12040) 29 = .ok (.aload_n 0, 1) := by decide +kernel
theorem d12040_30 : decode (jm_b 12040) 30 = .ok (.getfield 9, 3) := by decide +kernel
theorem d12040_33 : decode (jm_b 12040) 33 = .ok (.bipush 8, 2) := by decide +kernel
theorem d12040_35 : decode (jm_b 12040) 35 = .ok (.iload_n 1, 1) := by decide +kernel
theorem d12040_36 : decode (jm_b 12040) 36 = .ok (.iastore, 1) := by decide +kernel
theorem d12040_37 : decode (jm_b 12040) 37 = .ok (.iload_n 2, 1) := by decide +kernel
theorem d12040_38 : decode (jm_b 12040) 38 = .ok (.ireturn, 1) := by decide +kernel
theorem d12041_0 : decode (jm_b 12041) 0 = .ok (.aload_n 0, 1) := by decide +kernel
theorem d12041_1 : decode (jm_b 12041) 1 = .ok (.iload_n 1, 1) := by decide +kernel
theorem d12041_2 : decode (jm_b 12041) 2 = .ok (.invokevirtual 178, 3) := by decide +kernel
theorem d12041_5 : decode (jm_b 12041) 5 = .ok (.ifCond .ne 6, 3) := by decide +kernel
theorem d12041_8 : decode (jm_b 12041) 8 = .ok (.bipush (-100), 2) := by decide +kernel
theorem d12041_10 : decode (jm_b 12041) 10 = .ok (.ireturn, 1) := by decide +kernel
theorem d12041_11 : decode (jm_b 12041) 11 = .ok (.iload_n 2, 1) := by decide +kernel
theorem d12041_12 : decode (jm_b 12041) 12 = .ok (.tableswitch 117 0 4 #[36, 43, 50, 57, 71], 36) := by decide +kernel
theorem d12041_48 : decode (jm_b 12041) 48 = .ok (.aload_n 0, 1) := by decide +kernel
theorem d12041_49 : decode (jm_b 12041) 49 = .ok (.getfield 13, 3) := by decide +kernel
theorem d12041_52 : decode (jm_b 12041) 52 = .ok (.iload_n 1, 1) := by decide +kernel
theorem d12041_53 : decode (jm_b 12041) 53 = .ok (.iaload, 1) := by decide +kernel
theorem d12041_54 : decode (jm_b 12041) 54 = .ok (.ireturn, 1) := by decide +kernel
theorem d12041_55 : decode (jm_b 12041) 55 = .ok (.aload_n 0, 1) := by decide +kernel
theorem d12041_56 : decode (jm_b 12041) 56 = .ok (.getfield 16, 3) := by decide +kernel
theorem d12041_59 : decode (jm_b 12041) 59 = .ok (.iload_n 1, 1) := by decide +kernel
theorem d12041_60 : decode (jm_b 12041) 60 = .ok (.iaload, 1) := by decide +kernel
theorem d12041_61 : decode (jm_b 12041) 61 = .ok (.ireturn, 1) := by decide +kernel
theorem d12041_62 : decode (jm_b 12041) 62 = .ok (.aload_n 0, 1) := by decide +kernel
theorem d12041_63 : decode (jm_b 12041) 63 = .ok (.getfield 19, 3) := by decide +kernel
theorem d12041_66 : decode (jm_b 12041) 66 = .ok (.iload_n 1, 1) := by decide +kernel
theorem d12041_67 : decode (jm_b 12041) 67 = .ok (.iaload, 1) := by decide +kernel
theorem d12041_68 : decode (jm_b 12041) 68 = .ok (.ireturn, 1) := by decide +kernel
theorem d12041_69 : decode (jm_b 12041) 69 = .ok (.aload_n 0, 1) := by decide +kernel
theorem d12041_70 : decode (jm_b 12041) 70 = .ok (.iload_n 1, 1) := by decide +kernel
theorem d12041_71 : decode (jm_b 12041) 71 = .ok (.invokevirtual 182, 3) := by decide +kernel
theorem d12041_74 : decode (jm_b 12041) 74 = .ok (.ifCond .eq 7, 3) := by decide +kernel
theorem d12041_77 : decode (jm_b 12041) 77 = .ok (.iconst 1, 1) := by decide +kernel
theorem d12041_78 : decode (jm_b 12041) 78 = .ok (.goto 4, 3) := by decide +kernel
theorem d12041_81 : decode (jm_b 12041) 81 = .ok (.iconst 0, 1) := by decide +kernel
theorem d12041_82 : decode (jm_b 12041) 82 = .ok (.ireturn, 1) := by decide +kernel
theorem d12041_83 : decode (jm_b 12041) 83 = .ok (.iconst 0, 1) := by decide +kernel
theorem d12041_84 : decode (jm_b 12041) 84 = .ok (.istore_n 3, 1) := by decide +kernel
theorem d12041_85 : decode (jm_b 12041) 85 = .ok (.iconst 0, 1) := by decide +kernel
theorem d12041_86 : decode (jm_b 12041) 86 = .ok (.istore 4, 2) := by decide +kernel
theorem d12041_88 : decode (jm_b 12041) 88 = .ok (.iload 4, 2) := by decide +kernel
theorem d12041_90 : decode (jm_b 12041) 90 = .ok (.aload_n 0, 1) := by decide +kernel
theorem d12041_91 : decode (jm_b 12041) 91 = .ok (.getfield 9, 3) := by decide +kernel
theorem d12041_94 : decode (jm_b 12041) 94 = .ok (.iconst 2, 1) := by decide +kernel
theorem d12041_95 : decode (jm_b 12041) 95 = .ok (.iaload, 1) := by decide +kernel
theorem d12041_96 : decode (jm_b 12041) 96 = .ok (.if_icmp .ge 31, 3) := by decide +kernel
theorem d12041_99 : decode (jm_b 12041) 99 = .ok (.iload_n 3, 1) := by decide +kernel
theorem d12041_100 : decode (jm_b 12041) 100 = .ok (.aload_n 0, 1) := by decide +kernel
theorem d12041_101 : decode (jm_b 12041) 101 = .ok (.getfield 25, 3) := by decide +kernel
theorem d12041_104 : decode (jm_b 12041) 104 = .ok (.iload 4, 2) := by decide +kernel
theorem d12041_106 : decode (jm_b 12041) 106 = .ok (.iaload, 1) := by decide +kernel
theorem d12041_107 : decode (jm_b 12041) 107 = .ok (.iload_n 1, 1) := by decide +kernel
theorem d12041_108 : decode (jm_b 12041) 108 = .ok (.if_icmp .ne 10, 3) := by decide +kernel
theorem d12041_111 : decode (jm_b 12041) 111 = .ok (.iconst 1, 1) := by decide +kernel
theorem d12041_112 : decode (jm_b 12041) 112 = .ok (.iload 4, 2) := by decide +kernel
theorem d12041_114 : decode (jm_b 12041) 114 = .ok (.ishl, 1) := by decide +kernel
theorem d12041_115 : decode (jm_b 12041) 115 = .ok (.goto 4, 3) := by decide +kernel
theorem d12041_118 : decode (jm_b 12041) 118 = .ok (.iconst 0, 1) := by decide +kernel
theorem d12041_119 : decode (jm_b 12041) 119 = .ok (.ior, 1) := by decide +kernel
theorem d12041_120 : decode (jm_b 12041) 120 = .ok (.istore_n 3, 1) := by decide +kernel
theorem d12041_121 : decode (jm_b 12041) 121 = .ok (.iinc 4 1, 3) := by decide +kernel
theorem d12041_124 : decode (jm_b 12041) 124 = .ok (.goto (-36), 3) := by decide +kernel
theorem d12041_127 : decode (jm_b 12041) 127 = .ok (.iload_n 3, 1) := by decide +kernel
theorem d12041_128 : decode (jm_b 12041) 128 = .ok (.ireturn, 1) := by decide +kernel
theorem d12041_129 : decode (jm_b 12041) 129 = .ok (.bipush (-100), 2) := by decide +kernel
theorem d12041_131 : decode (jm_b 12041) 131 = .ok (.ireturn, 1) := by decide +kernel
theorem d12042_0 : decode (jm_b 12042) 0 = .ok (.iload_n 1, 1) := by decide +kernel
theorem d12042_1 : decode (jm_b 12042) 1 = .ok (.i2l, 1) := by decide +kernel
theorem d12042_2 : decode (jm_b 12042) 2 = .ok (.lconst 0, 1) := by decide +kernel
theorem d12042_3 : decode (jm_b 12042) 3 = .ok (.aload_n 0, 1) := by decide +kernel
theorem d12042_4 : decode (jm_b 12042) 4 = .ok (.getfield 9, 3) := by decide +kernel
theorem d12042_7 : decode (jm_b 12042) 7 = .ok (.iconst 0, 1) := by decide +kernel
theorem d12042_8 : decode (jm_b 12042) 8 = .ok (.iaload, 1) := by decide +kernel
theorem d12042_9 : decode (jm_b 12042) 9 = .ok (.iconst 1, 1) := by decide +kernel
theorem d12042_10 : decode (jm_b 12042) 10 = .ok (.isub, 1) := by decide +kernel
theorem d12042_11 : decode (jm_b 12042) 11 = .ok (.i2l, 1) := by decide +kernel
theorem d12042_12 : decode (jm_b 12042) 12 = .ok (.invokestatic 170, 3) := by decide +kernel
theorem d12042_15 : decode (jm_b 12042) 15 = .ok (.ireturn, 1) := by decide +kernel
theorem d12043_0 : decode (jm_b 12043) 0 = .ok (.aload_n 0, 1) := by decide +kernel
theorem d12043_1 : decode (jm_b 12043) 1 = .ok (.getfield 9, 3) := by decide +kernel
theorem d12043_4 : decode (jm_b 12043) 4 = .ok (.iconst 4, 1) := by decide +kernel
theorem d12043_5 : decode (jm_b 12043) 5 = .ok (.iaload, 1) := by decide +kernel
theorem d12043_6 : decode (jm_b 12043) 6 = .ok (.iload_n 1, 1) := by decide +kernel
theorem d12043_7 : decode (jm_b 12043) 7 = .ok (.invokestatic 174, 3) := by decide +kernel
theorem d12043_10 : decode (jm_b 12043) 10 = .ok (.ireturn, 1) := by decide +kernel
theorem d12044_0 : decode (jm_b 12044) 0 = .ok (.iload_n 0, 1) := by decide +kernel
theorem d12044_1 : decode (jm_b 12044) 1 = .ok (.iload_n 1, 1) := by decide +kernel
theorem d12044_2 : decode (jm_b 12044) 2 = .ok (.ishr, 1) := by decide +kernel
theorem d12044_3 : decode (jm_b 12044) 3 = .ok (.iconst 1, 1) := by decide +kernel
theorem d12044_4 : decode (jm_b 12044) 4 = .ok (.iand, 1) := by decide +kernel
theorem d12044_5 : decode (jm_b 12044) 5 = .ok (.iconst 1, 1) := by decide +kernel
theorem d12044_6 : decode (jm_b 12044) 6 = .ok (.if_icmp .ne 7, 3) := by decide +kernel
theorem d12044_9 : decode (jm_b 12044) 9 = .ok (.iconst 1, 1) := by decide +kernel
theorem d12044_10 : decode (jm_b 12044) 10 = .ok (.goto 4, 3) := by decide +kernel
theorem d12044_13 : decode (jm_b 12044) 13 = .ok (.iconst 0, 1) := by decide +kernel
theorem d12044_14 : decode (jm_b 12044) 14 = .ok (.ireturn, 1) := by decide +kernel
theorem d12045_0 : decode (jm_b 12045) 0 = .ok (.aload_n 0, 1) := by decide +kernel
theorem d12045_1 : decode (jm_b 12045) 1 = .ok (.iload_n 1, 1) := by decide +kernel
theorem d12045_2 : decode (jm_b 12045) 2 = .ok (.invokevirtual 397, 3) := by decide +kernel
theorem d12045_5 : decode (jm_b 12045) 5 = .ok (.ifCond .ne 6, 3) := by decide +kernel
theorem d12045_8 : decode (jm_b 12045) 8 = .ok (.bipush (-100), 2) := by decide +kernel
theorem d12045_10 : decode (jm_b 12045) 10 = .ok (.ireturn, 1) := by decide +kernel
theorem d12045_11 : decode (jm_b 12045) 11 = .ok (.iload_n 2, 1) := by decide +kernel
theorem d12045_12 : decode (jm_b 12045) 12 = .ok (.tableswitch 70 0 4 #[36, 43, 50, 57, 63], 36) := by decide +kernel
theorem d12045_48 : decode (jm_b 12045) 48 = .ok (.aload_n 0, 1) := by decide +kernel
theorem d12045_49 : decode (jm_b 12045) 49 = .ok (.getfield 25, 3) := by decide +kernel
theorem d12045_52 : decode (jm_b 12045) 52 = .ok (.iload_n 1, 1) := by decide +kernel
theorem d12045_53 : decode (jm_b 12045) 53 = .ok (.iaload, 1) := by decide +kernel
theorem d12045_54 : decode (jm_b 12045) 54 = .ok (.ireturn, 1) := by decide +kernel
theorem d12045_55 : decode (jm_b 12045) 55 = .ok (.aload_n 0, 1) := by decide +kernel
theorem d12045_56 : decode (jm_b 12045) 56 = .ok (.getfield 28, 3) := by decide +kernel
theorem d12045_59 : decode (jm_b 12045) 59 = .ok (.iload_n 1, 1) := by decide +kernel
theorem d12045_60 : decode (jm_b 12045) 60 = .ok (.iaload, 1) := by decide +kernel
theorem d12045_61 : decode (jm_b 12045) 61 = .ok (.ireturn, 1) := by decide +kernel
theorem d12045_62 : decode (jm_b 12045) 62 = .ok (.aload_n 0, 1) := by decide +kernel
theorem d12045_63 : decode (jm_b 12045) 63 = .ok (.getfield 31, 3) := by decide +kernel
theorem d12045_66 : decode (jm_b 12045) 66 = .ok (.iload_n 1, 1) := by decide +kernel
theorem d12045_67 : decode (jm_b 12045) 67 = .ok (.iaload, 1) := by decide +kernel
theorem d12045_68 : decode (jm_b 12045) 68 = .ok (.ireturn, 1) := by decide +kernel
theorem d12045_69 : decode (jm_b 12045) 69 = .ok (.aload_n 0, 1) := by decide +kernel
theorem d12045_70 : decode (jm_b 12045) 70 = .ok (.iload_n 1, 1) := by decide +kernel
theorem d12045_71 : decode (jm_b 12045) 71 = .ok (.invokevirtual 394, 3) := by decide +kernel
theorem d12045_74 : decode (jm_b 12045) 74 = .ok (.ireturn, 1) := by decide +kernel
theorem d12045_75 : decode (jm_b 12045) 75 = .ok (.aload_n 0, 1) := by decide +kernel
theorem d12045_76 : decode (jm_b 12045) 76 = .ok (.getfield 34, 3) := by decide +kernel
theorem d12045_79 : decode (jm_b 12045) 79 = .ok (.iload_n 1, 1) := by decide +kernel
theorem d12045_80 : decode (jm_b 12045) 80 = .ok (.iaload, 1) := by decide +kernel
theorem d12045_81 : decode (jm_b 12045) 81 = .ok (.ireturn, 1) := by decide +kernel
theorem d12045_82 : decode (jm_b 12045) 82 = .ok (.bipush (-100), 2) := by decide +kernel
theorem d12045_84 : decode (jm_b 12045) 84 = .ok (.ireturn, 1) := by decide +kernel
theorem d12046_0 : decode (jm_b 12046) 0 = .ok (.iload_n 1, 1) := by decide +kernel
theorem d12046_1 : decode (jm_b 12046) 1 = .ok (.i2l, 1) := by decide +kernel
theorem d12046_2 : decode (jm_b 12046) 2 = .ok (.lconst 0, 1) := by decide +kernel
theorem d12046_3 : decode (jm_b 12046) 3 = .ok (.aload_n 0, 1) := by decide +kernel
theorem d12046_4 : decode (jm_b 12046) 4 = .ok (.getfield 9, 3) := by decide +kernel
theorem d12046_7 : decode (jm_b 12046) 7 = .ok (.iconst 2, 1) := by decide +kernel
theorem d12046_8 : decode (jm_b 12046) 8 = .ok (.iaload, 1) := by decide +kernel
theorem d12046_9 : decode (jm_b 12046) 9 = .ok (.iconst 1, 1) := by decide +kernel
theorem d12046_10 : decode (jm_b 12046) 10 = .ok (.isub, 1) := by decide +kernel
theorem d12046_11 : decode (jm_b 12046) 11 = .ok (.i2l, 1) := by decide +kernel
theorem d12046_12 : decode (jm_b 12046) 12 = .ok (.invokestatic 170, 3) := by decide +kernel
theorem d12046_15 : decode (jm_b 12046) 15 = .ok (.ireturn, 1) := by decide +kernel
theorem d12047_0 : decode (jm_b 12047) 0 = .ok (.aload_n 0, 1) := by decide +kernel
theorem d12047_1 : decode (jm_b 12047) 1 = .ok (.getfield 13, 3) := by decide +kernel
theorem d12047_4 : decode (jm_b 12047) 4 = .ok (.aload_n 0, 1) := by decide +kernel
theorem d12047_5 : decode (jm_b 12047) 5 = .ok (.getfield 25, 3) := by decide +kernel
theorem d12047_8 : decode (jm_b 12047) 8 = .ok (.iload_n 1, 1) := by decide +kernel
theorem d12047_9 : decode (jm_b 12047) 9 = .ok (.iaload, 1) := by decide +kernel
theorem d12047_10 : decode (jm_b 12047) 10 = .ok (.iaload, 1) := by decide +kernel
theorem d12047_11 : decode (jm_b 12047) 11 = .ok (.istore_n 2, 1) := by decide +kernel
theorem d12047_12 : decode (jm_b 12047) 12 = .ok (.aload_n 0, 1) := by decide +kernel
theorem d12047_13 : decode (jm_b 12047) 13 = .ok (.getfield 28, 3) := by decide +kernel
theorem d12047_16 : decode (jm_b 12047) 16 = .ok (.iload_n 1, 1) := by decide +kernel
theorem d12047_17 : decode (jm_b 12047) 17 = .ok (.iaload, 1) := by decide +kernel
theorem d12047_18 : decode (jm_b 12047) 18 = .ok (.iload_n 2, 1) := by decide +kernel
theorem d12047_19 : decode (jm_b 12047) 19 = .ok (.if_icmp .ge 7, 3) := by decide +kernel
theorem d12047_22 : decode (jm_b 12047) 22 = .ok (.iconst 0, 1) := by decide +kernel
theorem d12047_23 : decode (jm_b 12047) 23 = .ok (.goto 18, 3) := by decide +kernel
theorem d12047_26 : decode (jm_b 12047) 26 = .ok (.aload_n 0, 1) := by decide +kernel
theorem d12047_27 : decode (jm_b 12047) 27 = .ok (.getfield 28, 3) := by decide +kernel
theorem d12047_30 : decode (jm_b 12047) 30 = .ok (.iload_n 1, 1) := by decide +kernel
theorem d12047_31 : decode (jm_b 12047) 31 = .ok (.iaload, 1) := by decide +kernel
theorem d12047_32 : decode (jm_b 12047) 32 = .ok (.iload_n 2, 1) := by decide +kernel
theorem d12047_33 : decode (jm_b 12047) 33 = .ok (.if_icmp .le 7, 3) := by decide +kernel
theorem d12047_36 : decode (jm_b 12047) 36 = .ok (.iconst 1, 1) := by decide +kernel
theorem d12047_37 : decode (jm_b 12047) 37 = .ok (.goto 4, 3) := by decide +kernel
theorem d12047_40 : decode (jm_b 12047) 40 = .ok (.iconst 2, 1) := by decide +kernel
theorem d12047_41 : decode (jm_b 12047) 41 = .ok (.ireturn, 1) := by decide +kernel
theorem d12048_0 : decode (jm_b 12048) 0 = .ok (.aload_n 0, 1) := by decide +kernel
theorem d12048_1 : decode (jm_b 12048) 1 = .ok (.invokevirtual 400, 3) := by decide +kernel
theorem d12048_4 : decode (jm_b 12048) 4 = .ok (.ifCond .eq 15, 3) := by decide +kernel
theorem d12048_7 : decode (jm_b 12048) 7 = .ok (.iload_n 1, 1) := by decide +kernel
theorem d12048_8 : decode (jm_b 12048) 8 = .ok (.ifCond .lt 11, 3) := by decide +kernel
theorem d12048_11 : decode (jm_b 12048) 11 = .ok (.aload_n 0, 1) := by decide +kernel
theorem d12048_12 : decode (jm_b 12048) 12 = .ok (.iload_n 1, 1) := by decide +kernel
theorem d12048_13 : decode (jm_b 12048) 13 = .ok (.invokevirtual 403, 3) := by decide +kernel
theorem d12048_16 : decode (jm_b 12048) 16 = .ok (.goto 4, 3) := by decide +kernel
theorem d12048_19 : decode (jm_b 12048) 19 = .ok (.iconst (-1), 1) := by decide +kernel
theorem d12048_20 : decode (jm_b 12048) 20 = .ok (.ireturn, 1) := by decide +kernel
theorem d12049_0 : decode (jm_b 12049) 0 = .ok (.aload_n 0, 1) := by decide +kernel
theorem d12049_1 : decode (jm_b 12049) 1 = .ok (.getfield 9, 3) := by decide +kernel
theorem d12049_4 : decode (jm_b 12049) 4 = .ok (.iconst 0, 1) := by decide +kernel
theorem d12049_5 : decode (jm_b 12049) 5 = .ok (.iaload, 1) := by decide +kernel
theorem d12049_6 : decode (jm_b 12049) 6 = .ok (.ifCond .le 7, 3) := by decide +kernel
theorem d12049_9 : decode (jm_b 12049) 9 = .ok (.iconst 1, 1) := by decide +kernel
theorem d12049_10 : decode (jm_b 12049) 10 = .ok (.goto 4, 3) := by decide +kernel
theorem d12049_13 : decode (jm_b 12049) 13 = .ok (.iconst 0, 1) := by decide +kernel
theorem d12049_14 : decode (jm_b 12049) 14 = .ok (.ireturn, 1) := by decide +kernel
theorem d12050_0 : decode (jm_b 12050) 0 = .ok (.iload_n 1, 1) := by decide +kernel
theorem d12050_1 : decode (jm_b 12050) 1 = .ok (.bipush 100, 2) := by decide +kernel
theorem d12050_3 : decode (jm_b 12050) 3 = .ok (.if_icmp .ge 12, 3) := by decide +kernel
theorem d12050_6 : decode (jm_b 12050) 6 = .ok (.aload_n 0, 1) := by decide +kernel
theorem d12050_7 : decode (jm_b 12050) 7 = .ok (.getfield 22, 3) := by decide +kernel
theorem d12050_10 : decode (jm_b 12050) 10 = .ok (.iload_n 1, 1) := by decide +kernel
theorem d12050_11 : decode (jm_b 12050) 11 = .ok (.iaload, 1) := by decide +kernel
theorem d12050_12 : decode (jm_b 12050) 12 = .ok (.goto 4, 3) := by decide +kernel
theorem d12050_15 : decode (jm_b 12050) 15 = .ok (.iconst 0, 1) := by decide +kernel
theorem d12050_16 : decode (jm_b 12050) 16 = .ok (.ireturn, 1) := by decide +kernel
theorem d12051_0 : decode (jm_b 12051) 0 = .ok (.aload_n 0, 1) := by decide +kernel
theorem d12051_1 : decode (jm_b 12051) 1 = .ok (.getfield 361, 3) := by decide +kernel
theorem d12051_4 : decode (jm_b 12051) 4 = .ok (.ifCond .ne 6, 3) := by decide +kernel
theorem d12051_7 : decode (jm_b 12051) 7 = .ok (.bipush (-2), 2) := by decide +kernel
theorem d12051_9 : decode (jm_b 12051) 9 = .ok (.ireturn, 1) := by decide +kernel
theorem d12051_10 : decode (jm_b 12051) 10 = .ok (.aload_n 0, 1) := by decide +kernel
theorem d12051_11 : decode (jm_b 12051) 11 = .ok (.dup, 1) := by decide +kernel
theorem d12051_12 : decode (jm_b 12051) 12 = .ok (.getfield 361, 3) := by decide +kernel
theorem d12051_15 : decode (jm_b 12051) 15 = .ok (.iconst 1, 1) := by decide +kernel
theorem d12051_16 : decode (jm_b 12051) 16 = .ok (.isub, 1) := by decide +kernel
theorem d12051_17 : decode (jm_b 12051) 17 = .ok (.putfield 361, 3) := by decide +kernel
theorem d12051_20 : decode (jm_b 12051) 20 = .ok (.aload_n 0, 1) := by decide +kernel
theorem d12051_21 : decode (jm_b 12051) 21 = .ok (.aload_n 0, 1) := by decide +kernel
theorem d12051_22 : decode (jm_b 12051) 22 = .ok (.getfield 361, 3) := by decide +kernel
theorem d12051_25 : decode (jm_b 12051) 25 = .ok (.iconst 1, 1) := by decide +kernel
theorem d12051_26 : decode (jm_b 12051) 26 = .ok (.invokevirtual 456, 3) := by decide +kernel
theorem d12051_29 : decode (jm_b 12051) 29 = .ok (.aload_n 0, 1) := by decide +kernel
theorem d12051_30 : decode (jm_b 12051) 30 = .ok (.getfield 361, 3) := by decide +kernel
theorem d12051_33 : decode (jm_b 12051) 33 = .ok (.ireturn, 1) := by decide +kernel
theorem d12052_0 : decode (jm_b 12052) 0 = .ok (.aload_n 0, 1) := by decide +kernel
theorem d12052_1 : decode (jm_b 12052) 1 = .ok (.bipush 40, 2) := by decide +kernel
theorem d12052_3 : decode (jm_b 12052) 3 = .ok (.iload_n 1, 1) := by decide +kernel
theorem d12052_4 : decode (jm_b 12052) 4 = .ok (.imul, 1) := by decide +kernel
theorem d12052_5 : decode (jm_b 12052) 5 = .ok (.putfield 446, 3) := by decide +kernel
theorem d12052_8 : decode (jm_b 12052) 8 = .ok (.aload_n 0, 1) := by decide +kernel
theorem d12052_9 : decode (jm_b 12052) 9 = .ok (.iload_n 2, 1) := by decide +kernel
theorem d12052_10 : decode (jm_b 12052) 10 = .ok (.putfield 442, 3) := by decide +kernel
theorem d12052_13 : decode (jm_b 12052) 13 = .ok (.aload_n 0, 1) := by decide +kernel
theorem d12052_14 : decode (jm_b 12052) 14 = .ok (.getfield 9, 3) := by decide +kernel
theorem d12052_17 : decode (jm_b 12052) 17 = .ok (.iconst 4, 1) := by decide +kernel
theorem d12052_18 : decode (jm_b 12052) 18 = .ok (.aload_n 0, 1) := by decide +kernel
theorem d12052_19 : decode (jm_b 12052) 19 = .ok (.aload_n 0, 1) := by decide +kernel
theorem d12052_20 : decode (jm_b 12052) 20 = .ok (.getfield 9, 3) := by decide +kernel
theorem d12052_23 : decode (jm_b 12052) 23 = .ok (.iconst 4, 1) := by decide +kernel
theorem d12052_24 : decode (jm_b 12052) 24 = .ok (.iaload, 1) := by decide +kernel
theorem d12052_25 : decode (jm_b 12052) 25 = .ok (.invokevirtual 449, 3) := by decide +kernel
theorem d12052_28 : decode (jm_b 12052) 28 = .ok (.iastore, 1) := by decide +kernel
theorem d12052_29 : decode (jm_b 12052) 29 = .ok (.aload_n 0, 1) := by decide +kernel
theorem d12052_30 : decode (jm_b 12052) 30 = .ok (.getfield 9, 3) := by decide +kernel
theorem d12052_33 : decode (jm_b 12052) 33 = .ok (.iconst 5, 1) := by decide +kernel
theorem d12052_34 : decode (jm_b 12052) 34 = .ok (.aload_n 0, 1) := by decide +kernel
theorem d12052_35 : decode (jm_b 12052) 35 = .ok (.aload_n 0, 1) := by decide +kernel
theorem d12052_36 : decode (jm_b 12052) 36 = .ok (.getfield 9, 3) := by decide +kernel
theorem d12052_39 : decode (jm_b 12052) 39 = .ok (.iconst 5, 1) := by decide +kernel
theorem d12052_40 : decode (jm_b 12052) 40 = .ok (.iaload, 1) := by decide +kernel
theorem d12052_41 : decode (jm_b 12052) 41 = .ok (.invokevirtual 449, 3) := by decide +kernel
theorem d12052_44 : decode (jm_b 12052) 44 = .ok (.iastore, 1) := by decide +kernel
theorem d12052_45 : decode (jm_b 12052) 45 = .ok (.aload_n 0, 1) := by decide +kernel
theorem d12052_46 : decode (jm_b 12052) 46 = .ok (.aload_n 0, 1) := by decide +kernel
theorem d12052_47 : decode (jm_b 12052) 47 = .ok (.getfield 13, 3) := by decide +kernel
theorem d12052_50 : decode (jm_b 12052) 50 = .ok (.invokevirtual 452, 3) := by decide +kernel
theorem d12052_53 : decode (jm_b 12052) 53 = .ok (.aload_n 0, 1) := by decide +kernel
theorem d12052_54 : decode (jm_b 12052) 54 = .ok (.aload_n 0, 1) := by decide +kernel
theorem d12052_55 : decode (jm_b 12052) 55 = .ok (.getfield 16, 3) := by decide +kernel
theorem d12052_58 : decode (jm_b 12052) 58 = .ok (.invokevirtual 452, 3) := by decide +kernel
theorem d12052_61 : decode (jm_b 12052) 61 = .ok (.aload_n 0, 1) := by decide +kernel
theorem d12052_62 : decode (jm_b 12052) 62 = .ok (.aload_n 0, 1) := by decide +kernel
theorem d12052_63 : decode (jm_b 12052) 63 = .ok (.getfield 19, 3) := by decide +kernel
theorem d12052_66 : decode (jm_b 12052) 66 = .ok (.invokevirtual 452, 3) := by decide +kernel
theorem d12052_69 : decode (jm_b 12052) 69 = .ok (.aload_n 0, 1) := by decide +kernel
theorem d12052_70 : decode (jm_b 12052) 70 = .ok (.aload_n 0, 1) := by decide +kernel
theorem d12052_71 : decode (jm_b 12052) 71 = .ok (.getfield 34, 3) := by decide +kernel
theorem d12052_74 : decode (jm_b 12052) 74 = .ok (.invokevirtual 452, 3) := by decide +kernel
theorem d12052_77 : decode (jm_b 12052) 77 = .ok (.return_, 1) := by decide +kernel
theorem d12053_0 : decode (jm_b 12053) 0 = .ok (.aload_n 0, 1) := by decide +kernel
theorem d12053_1 : decode (jm_b 12053) 1 = .ok (.getfield 442, 3) := by decide +kernel
theorem d12053_4 : decode (jm_b 12053) 4 = .ok (.ifCond .eq 15, 3) := by decide +kernel
theorem d12053_7 : decode (jm_b 12053) 7 = .ok (.aload_n 0, 1) := by decide +kernel
theorem d12053_8 : decode (jm_b 12053) 8 = .ok (.getfield 130, 3) := by decide +kernel
theorem d12053_11 : decode (jm_b 12053) 11 = .ok (.aload_n 0, 1) := by decide +kernel
theorem d12053_12 : decode (jm_b 12053) 12 = .ok (.getfield 446, 3) := by decide +kernel
theorem d12053_15 : decode (jm_b 12053) 15 = .ok (.iaload, 1) := by decide +kernel
theorem d12053_16 : decode (jm_b 12053) 16 = .ok (.goto 4, 3) := by decide +kernel
theorem d12053_19 : decode (jm_b 12053) 19 = .ok (.iload_n 1, 1) := by decide +kernel
theorem d12053_20 : decode (jm_b 12053) 20 = .ok (.istore_n 2, 1) := by decide +kernel
theorem d12053_21 : decode (jm_b 12053) 21 = .ok (.aload_n 0, 1) := by decide +kernel
theorem d12053_22 : decode (jm_b 12053) 22 = .ok (.getfield 130, 3) := by decide +kernel
theorem d12053_25 : decode (jm_b 12053) 25 = .ok (.aload_n 0, 1) := by decide +kernel
theorem d12053_26 : decode (jm_b 12053) 26 = .ok (.getfield 446, 3) := by decide +kernel
theorem d12053_29 : decode (jm_b 12053) 29 = .ok (.iload_n 2, 1) := by decide +kernel
theorem d12053_30 : decode (jm_b 12053) 30 = .ok (.iastore, 1) := by decide +kernel
theorem d12053_31 : decode (jm_b 12053) 31 = .ok (.aload_n 0, 1) := by decide +kernel
theorem d12053_32 : decode (jm_b 12053) 32 = .ok (.dup, 1) := by decide +kernel
theorem d12053_33 : decode (jm_b 12053) 33 = .ok (.getfield 446, 3) := by decide +kernel
theorem d12053_36 : decode (jm_b 12053) 36 = .ok (.iconst 1, 1) := by decide +kernel
theorem d12053_37 : decode (jm_b 12053) 37 = .ok (.iadd, 1) := by decide +kernel
theorem d12053_38 : decode (jm_b 12053) 38 = .ok (.putfield 446, 3) := by decide +kernel
theorem d12053_41 : decode (jm_b 12053) 41 = .ok (.iload_n 2, 1) := by decide +kernel
theorem d12053_42 : decode (jm_b 12053) 42 = .ok (.ireturn, 1) := by decide +kernel
theorem d12054_0 : decode (jm_b 12054) 0 = .ok (.iconst 0, 1) := by decide +kernel
theorem d12054_1 : decode (jm_b 12054) 1 = .ok (.istore_n 2, 1) := by decide +kernel
theorem d12054_2 : decode (jm_b 12054) 2 = .ok (.iload_n 2, 1) := by decide +kernel
theorem d12054_3 : decode (jm_b 12054) 3 = .ok (.aload_n 1, 1) := by decide +kernel
theorem d12054_4 : decode (jm_b 12054) 4 = .ok (.arraylength, 1) := by decide +kernel
theorem d12054_5 : decode (jm_b 12054) 5 = .ok (.if_icmp .ge 19, 3) := by decide +kernel
theorem d12054_8 : decode (jm_b 12054) 8 = .ok (.aload_n 1, 1) := by decide +kernel
theorem d12054_9 : decode (jm_b 12054) 9 = .ok (.iload_n 2, 1) := by decide +kernel
theorem d12054_10 : decode (jm_b 12054) 10 = .ok (.aload_n 0, 1) := by decide +kernel
theorem d12054_11 : decode (jm_b 12054) 11 = .ok (.aload_n 1, 1) := by decide +kernel
theorem d12054_12 : decode (jm_b 12054) 12 = .ok (.iload_n 2, 1) := by decide +kernel
theorem d12054_13 : decode (jm_b 12054) 13 = .ok (.iaload, 1) := by decide +kernel
theorem d12054_14 : decode (jm_b 12054) 14 = .ok (.invokevirtual 449, 3) := by decide +kernel
theorem d12054_17 : decode (jm_b 12054) 17 = .ok (.iastore, 1) := by decide +kernel
theorem d12054_18 : decode (jm_b 12054) 18 = .ok (.iinc 2 1, 3) := by decide +kernel
theorem d12054_21 : decode (jm_b 12054) 21 = .ok (.goto (-19), 3) := by decide +kernel
theorem d12054_24 : decode (jm_b 12054) 24 = .ok (.return_, 1) := by decide +kernel
theorem d12055_0 : decode (jm_b 12055) 0 = .ok (.aload_n 0, 1) := by decide +kernel
theorem d12055_1 : decode (jm_b 12055) 1 = .ok (.invokevirtual 400, 3) := by decide +kernel
theorem d12055_4 : decode (jm_b 12055) 4 = .ok (.ifCond .eq 15, 3) := by decide +kernel
theorem d12055_7 : decode (jm_b 12055) 7 = .ok (.aload_n 0, 1) := by decide +kernel
theorem d12055_8 : decode (jm_b 12055) 8 = .ok (.getfield 9, 3) := by decide +kernel
theorem d12055_11 : decode (jm_b 12055) 11 = .ok (.iconst 5, 1) := by decide +kernel
theorem d12055_12 : decode (jm_b 12055) 12 = .ok (.iaload, 1) := by decide +kernel
theorem d12055_13 : decode (jm_b 12055) 13 = .ok (.sipush 999, 3) := by decide +kernel
theorem d12055_16 : decode (jm_b 12055) 16 = .ok (.if_icmp .ne 5, 3) := by decide +kernel
theorem d12055_19 : decode (jm_b 12055) 19 = .ok (.iconst (-1), 1) := by decide +kernel
theorem d12055_20 : decode (jm_b 12055) 20 = .ok (.ireturn, 1) := by decide +kernel
theorem d12055_21 : decode (jm_b 12055) 21 = .ok (.aload_n 0, 1) := by decide +kernel
theorem d12055_22 : decode (jm_b 12055) 22 = .ok (.invokevirtual 460, 3) := by decide +kernel
theorem d12055_25 : decode (jm_b 12055) 25 = .ok (.aload_n 0, 1) := by decide +kernel
theorem d12055_26 : decode (jm_b 12055) 26 = .ok (.invokevirtual 439, 3) := by decide +kernel
theorem d12055_29 : decode (jm_b 12055) 29 = .ok (.ireturn, 1) := by decide +kernel
theorem d12056_0 : decode (jm_b 12056) 0 = .ok (.aload_n 0, 1) := by decide +kernel
theorem d12056_1 : decode (jm_b 12056) 1 = .ok (.getfield 361, 3) := by decide +kernel
theorem d12056_4 : decode (jm_b 12056) 4 = .ok (.bipush 20, 2) := by decide +kernel
theorem d12056_6 : decode (jm_b 12056) 6 = .ok (.if_icmp .ne 44, 3) := by decide +kernel
theorem d12056_9 : decode (jm_b 12056) 9 = .ok (.bipush 40, 2) := by decide +kernel
theorem d12056_11 : decode (jm_b 12056) 11 = .ok (.istore_n 1, 1) := by decide +kernel
theorem d12056_12 : decode (jm_b 12056) 12 = .ok (.iload_n 1, 1) := by decide +kernel
theorem d12056_13 : decode (jm_b 12056) 13 = .ok (.sipush 800, 3) := by decide +kernel
theorem d12056_16 : decode (jm_b 12056) 16 = .ok (.if_icmp .ge 24, 3) := by decide +kernel
theorem d12056_19 : decode (jm_b 12056) 19 = .ok (.aload_n 0, 1) := by decide +kernel
theorem d12056_20 : decode (jm_b 12056) 20 = .ok (.getfield 130, 3) := by decide +kernel
theorem d12056_23 : decode (jm_b 12056) 23 = .ok (.iload_n 1, 1) := by decide +kernel
theorem d12056_24 : decode (jm_b 12056) 24 = .ok (.bipush 40, 2) := by decide +kernel
theorem d12056_26 : decode (jm_b 12056) 26 = .ok (.isub, 1) := by decide +kernel
theorem d12056_27 : decode (jm_b 12056) 27 = .ok (.aload_n 0, 1) := by decide +kernel
theorem d12056_28 : decode (jm_b 12056) 28 = .ok (.getfield 130, 3) := by decide +kernel
theorem d12056_31 : decode (jm_b 12056) 31 = .ok (.iload_n 1, 1) := by decide +kernel
theorem d12056_32 : decode (jm_b 12056) 32 = .ok (.iaload, 1) := by decide +kernel
theorem d12056_33 : decode (jm_b 12056) 33 = .ok (.iastore, 1) := by decide +kernel
theorem d12056_34 : decode (jm_b 12056) 34 = .ok (.iinc 1 1, 3) := by decide +kernel
theorem d12056_37 : decode (jm_b 12056) 37 = .ok (.goto (-25), 3) := by decide +kernel
theorem d12056_40 : decode (jm_b 12056) 40 = .ok (.aload_n 0, 1) := by decide +kernel
theorem d12056_41 : decode (jm_b 12056) 41 = .ok (.dup, 1) := by decide +kernel
theorem d12056_42 : decode (jm_b 12056) 42 = .ok (.getfield 361, 3) := by decide +kernel
theorem d12056_45 : decode (jm_b 12056) 45 = .ok (.iconst 1, 1) := by decide +kernel
theorem d12056_46 : decode (jm_b 12056) 46 = .ok (.isub, 1) := by decide +kernel
theorem d12056_47 : decode (jm_b 12056) 47 = .ok (.putfield 361, 3) := by decide +kernel
theorem d12056_50 : decode (jm_b 12056) 50 = .ok (.aload_n 0, 1) := by decide +kernel
theorem d12056_51 : decode (jm_b 12056) 51 = .ok (.aload_n 0, 1) := by decide +kernel
theorem d12056_52 : decode (jm_b 12056) 52 = .ok (.getfield 361, 3) := by decide +kernel
theorem d12056_55 : decode (jm_b 12056) 55 = .ok (.iconst 0, 1) := by decide +kernel
theorem d12056_56 : decode (jm_b 12056) 56 = .ok (.invokevirtual 456, 3) := by decide +kernel
theorem d12056_59 : decode (jm_b 12056) 59 = .ok (.aload_n 0, 1) := by decide +kernel
theorem d12056_60 : decode (jm_b 12056) 60 = .ok (.dup, 1) := by decide +kernel
theorem d12056_61 : decode (jm_b 12056) 61 = .ok (.getfield 361, 3) := by decide +kernel
theorem d12056_64 : decode (jm_b 12056) 64 = .ok (.iconst 1, 1) := by decide +kernel
theorem d12056_65 : decode (jm_b 12056) 65 = .ok (.iadd, 1) := by decide +kernel
theorem d12056_66 : decode (jm_b 12056) 66 = .ok (.putfield 361, 3) := by decide +kernel
theorem d12056_69 : decode (jm_b 12056) 69 = .ok (.return_, 1) := by decide +kernel
theorem d12057_0 : decode (jm_b 12057) 0 = .ok (.aload_n 0, 1) := by decide +kernel
theorem d12057_1 : decode (jm_b 12057) 1 = .ok (.aload_n 0, 1) := by decide +kernel
theorem d12057_2 : decode (jm_b 12057) 2 = .ok (.aload_n 0, 1) := by decide +kernel
theorem d12057_3 : decode (jm_b 12057) 3 = .ok (.getfield 9, 3) := by decide +kernel
theorem d12057_6 : decode (jm_b 12057) 6 = .ok (.iconst 5, 1) := by decide +kernel
theorem d12057_7 : decode (jm_b 12057) 7 = .ok (.iaload, 1) := by decide +kernel
theorem d12057_8 : decode (jm_b 12057) 8 = .ok (.invokevirtual 403, 3) := by decide +kernel
theorem d12057_11 : decode (jm_b 12057) 11 = .ok (.invokevirtual 436, 3) := by decide +kernel
theorem d12057_14 : decode (jm_b 12057) 14 = .ok (.ireturn, 1) := by decide +kernel
theorem d12058_0 : decode (jm_b 12058) 0 = .ok (.aload_n 0, 1) := by decide +kernel
theorem d12058_1 : decode (jm_b 12058) 1 = .ok (.invokevirtual 424, 3) := by decide +kernel
theorem d12058_4 : decode (jm_b 12058) 4 = .ok (.iconst 0, 1) := by decide +kernel
theorem d12058_5 : decode (jm_b 12058) 5 = .ok (.istore_n 2, 1) := by decide +kernel
theorem d12058_6 : decode (jm_b 12058) 6 = .ok (.iload_n 2, 1) := by decide +kernel
theorem d12058_7 : decode (jm_b 12058) 7 = .ok (.aload_n 0, 1) := by decide +kernel
theorem d12058_8 : decode (jm_b 12058) 8 = .ok (.getfield 9, 3) := by decide +kernel
theorem d12058_11 : decode (jm_b 12058) 11 = .ok (.iconst 0, 1) := by decide +kernel
theorem d12058_12 : decode (jm_b 12058) 12 = .ok (.iaload, 1) := by decide +kernel
theorem d12058_13 : decode (jm_b 12058) 13 = .ok (.if_icmp .ge 49, 3) := by decide +kernel
theorem d12058_16 : decode (jm_b 12058) 16 = .ok (.aload_n 0, 1) := by decide +kernel
theorem d12058_17 : decode (jm_b 12058) 17 = .ok (.iload_n 2, 1) := by decide +kernel
theorem d12058_18 : decode (jm_b 12058) 18 = .ok (.invokevirtual 182, 3) := by decide +kernel
theorem d12058_21 : decode (jm_b 12058) 21 = .ok (.ifCond .ne 35, 3) := by decide +kernel
theorem d12058_24 : decode (jm_b 12058) 24 = .ok (.aload_n 0, 1) := by decide +kernel
theorem d12058_25 : decode (jm_b 12058) 25 = .ok (.getfield 16, 3) := by decide +kernel
theorem d12058_28 : decode (jm_b 12058) 28 = .ok (.iload_n 2, 1) := by decide +kernel
theorem d12058_29 : decode (jm_b 12058) 29 = .ok (.aload_n 0, 1) := by decide +kernel
theorem d12058_30 : decode (jm_b 12058) 30 = .ok (.getfield 16, 3) := by decide +kernel
theorem d12058_33 : decode (jm_b 12058) 33 = .ok (.iload_n 2, 1) := by decide +kernel
theorem d12058_34 : decode (jm_b 12058) 34 = .ok (.iaload, 1) := by decide +kernel
theorem d12058_35 : decode (jm_b 12058) 35 = .ok (.iload_n 1, 1) := by decide +kernel
theorem d12058_36 : decode (jm_b 12058) 36 = .ok (.iadd, 1) := by decide +kernel
theorem d12058_37 : decode (jm_b 12058) 37 = .ok (.bipush 99, 2) := by decide +kernel
theorem d12058_39 : decode (jm_b 12058) 39 = .ok (.if_icmp .le 8, 3) := by decide +kernel
theorem d12058_42 : decode (jm_b 12058) 42 = .ok (.bipush 99, 2) := by decide +kernel
theorem d12058_44 : decode (jm_b 12058) 44 = .ok (.goto 11, 3) := by decide +kernel
theorem d12058_47 : decode (jm_b 12058) 47 = .ok (.aload_n 0, 1) := by decide +kernel
theorem d12058_48 : decode (jm_b 12058) 48 = .ok (.getfield 16, 3) := by decide +kernel
theorem d12058_51 : decode (jm_b 12058) 51 = .ok (.iload_n 2, 1) := by decide +kernel
theorem d12058_52 : decode (jm_b 12058) 52 = .ok (.iaload, 1) := by decide +kernel
theorem d12058_53 : decode (jm_b 12058) 53 = .ok (.iload_n 1, 1) := by decide +kernel
theorem d12058_54 : decode (jm_b 12058) 54 = .ok (.iadd, 1) := by decide +kernel
theorem d12058_55 : decode (jm_b 12058) 55 = .ok (.iastore, 1) := by decide +kernel
theorem d12058_56 : decode (jm_b 12058) 56 = .ok (.iinc 2 1, 3) := by decide +kernel
theorem d12058_59 : decode (jm_b 12058) 59 = .ok (.goto (-53), 3) := by decide +kernel
theorem d12058_62 : decode (jm_b 12058) 62 = .ok (.iconst 0, 1) := by decide +kernel
theorem d12058_63 : decode (jm_b 12058) 63 = .ok (.istore_n 2, 1) := by decide +kernel
theorem d12058_64 : decode (jm_b 12058) 64 = .ok (.iload_n 2, 1) := by decide +kernel
theorem d12058_65 : decode (jm_b 12058) 65 = .ok (.aload_n 0, 1) := by decide +kernel
theorem d12058_66 : decode (jm_b 12058) 66 = .ok (.getfield 9, 3) := by decide +kernel
theorem d12058_69 : decode (jm_b 12058) 69 = .ok (.iconst 0, 1) := by decide +kernel
theorem d12058_70 : decode (jm_b 12058) 70 = .ok (.iaload, 1) := by decide +kernel
theorem d12058_71 : decode (jm_b 12058) 71 = .ok (.if_icmp .ge 33, 3) := by decide +kernel
theorem d12058_74 : decode (jm_b 12058) 74 = .ok (.aload_n 0, 1) := by decide +kernel
theorem d12058_75 : decode (jm_b 12058) 75 = .ok (.getfield 124, 3) := by decide +kernel
theorem d12058_78 : decode (jm_b 12058) 78 = .ok (.iload_n 2, 1) := by decide +kernel
theorem d12058_79 : decode (jm_b 12058) 79 = .ok (.aload_n 0, 1) := by decide +kernel
theorem d12058_80 : decode (jm_b 12058) 80 = .ok (.iload_n 2, 1) := by decide +kernel
theorem d12058_81 : decode (jm_b 12058) 81 = .ok (.invokevirtual 182, 3) := by decide +kernel
theorem d12058_84 : decode (jm_b 12058) 84 = .ok (.ifCond .eq 7, 3) := by decide +kernel
theorem d12058_87 : decode (jm_b 12058) 87 = .ok (.iconst 0, 1) := by decide +kernel
theorem d12058_88 : decode (jm_b 12058) 88 = .ok (.goto 9, 3) := by decide +kernel
theorem d12058_91 : decode (jm_b 12058) 91 = .ok (.aload_n 0, 1) := by decide +kernel
theorem d12058_92 : decode (jm_b 12058) 92 = .ok (.iload_n 2, 1) := by decide +kernel
theorem d12058_93 : decode (jm_b 12058) 93 = .ok (.iload_n 1, 1) := by decide +kernel
theorem d12058_94 : decode (jm_b 12058) 94 = .ok (.invokevirtual 427, 3) := by decide +kernel
theorem d12058_97 : decode (jm_b 12058) 97 = .ok (.iastore, 1) := by decide +kernel
theorem d12058_98 : decode (jm_b 12058) 98 = .ok (.iinc 2 1, 3) := by decide +kernel
theorem d12058_101 : decode (jm_b 12058) 101 = .ok (.goto (-37), 3) := by decide +kernel
theorem d12058_104 : decode (jm_b 12058) 104 = .ok (.iconst 0, 1) := by decide +kernel
theorem d12058_105 : decode (jm_b 12058) 105 = .ok (.istore_n 2, 1) := by decide +kernel
theorem d12058_106 : decode (jm_b 12058) 106 = .ok (.iload_n 2, 1) := by decide +kernel
theorem d12058_107 : decode (jm_b 12058) 107 = .ok (.aload_n 0, 1) := by decide +kernel
theorem d12058_108 : decode (jm_b 12058) 108 = .ok (.getfield 9, 3) := by decide +kernel
theorem d12058_111 : decode (jm_b 12058) 111 = .ok (.iconst 0, 1) := by decide +kernel
theorem d12058_112 : decode (jm_b 12058) 112 = .ok (.iaload, 1) := by decide +kernel
theorem d12058_113 : decode (jm_b 12058) 113 = .ok (.if_icmp .ge 34, 3) := by decide +kernel
theorem d12058_116 : decode (jm_b 12058) 116 = .ok (.aload_n 0, 1) := by decide +kernel
theorem d12058_117 : decode (jm_b 12058) 117 = .ok (.getfield 13, 3) := by decide +kernel
theorem d12058_120 : decode (jm_b 12058) 120 = .ok (.iload_n 2, 1) := by decide +kernel
theorem d12058_121 : decode (jm_b 12058) 121 = .ok (.aload_n 0, 1) := by decide +kernel
theorem d12058_122 : decode (jm_b 12058) 122 = .ok (.getfield 13, 3) := by decide +kernel
theorem d12058_125 : decode (jm_b 12058) 125 = .ok (.iload_n 2, 1) := by decide +kernel
theorem d12058_126 : decode (jm_b 12058) 126 = .ok (.iaload, 1) := by decide +kernel
theorem d12058_127 : decode (jm_b 12058) 127 = .ok (.aload_n 0, 1) := by decide +kernel
theorem d12058_128 : decode (jm_b 12058) 128 = .ok (.getfield 124, 3) := by decide +kernel
theorem d12058_131 : decode (jm_b 12058) 131 = .ok (.iload_n 2, 1) := by decide +kernel
theorem d12058_132 : decode (jm_b 12058) 132 = .ok (.iaload, 1) := by decide +kernel
theorem d12058_133 : decode (jm_b 12058) 133 = .ok (.iadd, 1) := by decide +kernel
theorem d12058_134 : decode (jm_b 12058) 134 = .ok (.i2l, 1) := by decide +kernel
theorem d12058_135 : decode (jm_b 12058) 135 = .ok (.bipush 20, 2) := by decide +kernel
theorem d12058_137 : decode (jm_b 12058) 137 = .ok (.invokestatic 406, 3) := by decide +kernel
theorem d12058_140 : decode (jm_b 12058) 140 = .ok (.iastore, 1) := by decide +kernel
theorem d12058_141 : decode (jm_b 12058) 141 = .ok (.iinc 2 1, 3) := by decide +kernel
theorem d12058_144 : decode (jm_b 12058) 144 = .ok (.goto (-38), 3) := by decide +kernel
theorem d12058_147 : decode (jm_b 12058) 147 = .ok (.iconst 0, 1) := by decide +kernel
theorem d12058_148 : decode (jm_b 12058) 148 = .ok (.istore_n 2, 1) := by decide +kernel
theorem d12058_149 : decode (jm_b 12058) 149 = .ok (.iload_n 2, 1) := by decide +kernel
theorem d12058_150 : decode (jm_b 12058) 150 = .ok (.iconst 1, 1) := by decide +kernel
theorem d12058_151 : decode (jm_b 12058) 151 = .ok (.iadd, 1) := by decide +kernel
theorem d12058_152 : decode (jm_b 12058) 152 = .ok (.aload_n 0, 1) := by decide +kernel
theorem d12058_153 : decode (jm_b 12058) 153 = .ok (.getfield 9, 3) := by decide +kernel
theorem d12058_156 : decode (jm_b 12058) 156 = .ok (.iconst 0, 1) := by decide +kernel
theorem d12058_157 : decode (jm_b 12058) 157 = .ok (.iaload, 1) := by decide +kernel
theorem d12058_158 : decode (jm_b 12058) 158 = .ok (.if_icmp .ge 14, 3) := by decide +kernel
theorem d12058_161 : decode (jm_b 12058) 161 = .ok (.aload_n 0, 1) := by decide +kernel
theorem d12058_162 : decode (jm_b 12058) 162 = .ok (.iload_n 2, 1) := by decide +kernel
theorem d12058_163 : decode (jm_b 12058) 163 = .ok (.invokevirtual 430, 3) := by decide +kernel
theorem d12058_166 : decode (jm_b 12058) 166 = .ok (.iinc 2 1, 3) := by decide +kernel
theorem d12058_169 : decode (jm_b 12058) 169 = .ok (.goto (-20), 3) := by decide +kernel
theorem d12058_172 : decode (jm_b 12058) 172 = .ok (.aload_n 0, 1) := by decide +kernel
theorem d12058_173 : decode (jm_b 12058) 173 = .ok (.invokevirtual 433, 3) := by decide +kernel
theorem d12058_176 : decode (jm_b 12058) 176 = .ok (.istore_n 2, 1) := by decide +kernel
theorem d12058_177 : decode (jm_b 12058) 177 = .ok (.aload_n 0, 1) := by decide +kernel
theorem d12058_178 : decode (jm_b 12058) 178 = .ok (.getfield 9, 3) := by decide +kernel
theorem d12058_181 : decode (jm_b 12058) 181 = .ok (.iconst 5, 1) := by decide +kernel
theorem d12058_182 : decode (jm_b 12058) 182 = .ok (.dup2, 1) := by decide +kernel
theorem d12058_183 : decode (jm_b 12058) 183 = .ok (.iaload, 1) := by decide +kernel
theorem d12058_184 : decode (jm_b 12058) 184 = .ok (.iconst 1, 1) := by decide +kernel
theorem d12058_185 : decode (jm_b 12058) 185 = .ok (.iadd, 1) := by decide +kernel
theorem d12058_186 : decode (jm_b 12058) 186 = .ok (.iastore, 1) := by decide +kernel
theorem d12058_187 : decode (jm_b 12058) 187 = .ok (.iload_n 2, 1) := by decide +kernel
theorem d12058_188 : decode (jm_b 12058) 188 = .ok (.ireturn, 1) := by decide +kernel
theorem d12059_0 : decode (jm_b 12059) 0 = .ok (.iconst 0, 1) := by decide +kernel
theorem d12059_1 : decode (jm_b 12059) 1 = .ok (.istore_n 1, 1) := by decide +kernel
theorem d12059_2 : decode (jm_b 12059) 2 = .ok (.iload_n 1, 1) := by decide +kernel
theorem d12059_3 : decode (jm_b 12059) 3 = .ok (.aload_n 0, 1) := by decide +kernel
theorem d12059_4 : decode (jm_b 12059) 4 = .ok (.getfield 9, 3) := by decide +kernel
theorem d12059_7 : decode (jm_b 12059) 7 = .ok (.iconst 2, 1) := by decide +kernel
theorem d12059_8 : decode (jm_b 12059) 8 = .ok (.iaload, 1) := by decide +kernel
theorem d12059_9 : decode (jm_b 12059) 9 = .ok (.if_icmp .ge 20, 3) := by decide +kernel
theorem d12059_12 : decode (jm_b 12059) 12 = .ok (.aload_n 0, 1) := by decide +kernel
theorem d12059_13 : decode (jm_b 12059) 13 = .ok (.getfield 127, 3) := by decide +kernel
theorem d12059_16 : decode (jm_b 12059) 16 = .ok (.iload_n 1, 1) := by decide +kernel
theorem d12059_17 : decode (jm_b 12059) 17 = .ok (.aload_n 0, 1) := by decide +kernel
theorem d12059_18 : decode (jm_b 12059) 18 = .ok (.iload_n 1, 1) := by decide +kernel
theorem d12059_19 : decode (jm_b 12059) 19 = .ok (.invokevirtual 394, 3) := by decide +kernel
theorem d12059_22 : decode (jm_b 12059) 22 = .ok (.iastore, 1) := by decide +kernel
theorem d12059_23 : decode (jm_b 12059) 23 = .ok (.iinc 1 1, 3) := by decide +kernel
theorem d12059_26 : decode (jm_b 12059) 26 = .ok (.goto (-24), 3) := by decide +kernel
theorem d12059_29 : decode (jm_b 12059) 29 = .ok (.return_, 1) := by decide +kernel
theorem d12060_0 : decode (jm_b 12060) 0 = .ok (.aload_n 0, 1) := by decide +kernel
theorem d12060_1 : decode (jm_b 12060) 1 = .ok (.getfield 9, 3) := by decide +kernel
theorem d12060_4 : decode (jm_b 12060) 4 = .ok (.bipush 8, 2) := by decide +kernel
theorem d12060_6 : decode (jm_b 12060) 6 = .ok (.iaload, 1) := by decide +kernel
theorem d12060_7 : decode (jm_b 12060) 7 = .ok (.iconst (-1), 1) := by decide +kernel
theorem d12060_8 : decode (jm_b 12060) 8 = .ok (.if_icmp .ne 32, 3) := by decide +kernel
theorem d12060_11 : decode (jm_b 12060) 11 = .ok (.aload_n 0, 1) := by decide +kernel
theorem d12060_12 : decode (jm_b 12060) 12 = .ok (.getfield 16, 3) := by decide +kernel
theorem d12060_15 : decode (jm_b 12060) 15 = .ok (.iload_n 1, 1) := by decide +kernel
theorem d12060_16 : decode (jm_b 12060) 16 = .ok (.iaload, 1) := by decide +kernel
theorem d12060_17 : decode (jm_b 12060) 17 = .ok (.bipush 20, 2) := by decide +kernel
theorem d12060_19 : decode (jm_b 12060) 19 = .ok (.idiv, 1) := by decide +kernel
theorem d12060_20 : decode (jm_b 12060) 20 = .ok (.aload_n 0, 1) := by decide +kernel
theorem d12060_21 : decode (jm_b 12060) 21 = .ok (.getfield 9, 3) := by decide +kernel
theorem d12060_24 : decode (jm_b 12060) 24 = .ok (.iconst 1, 1) := by decide +kernel
theorem d12060_25 : decode (jm_b 12060) 25 = .ok (.iaload, 1) := by decide +kernel
theorem d12060_26 : decode (jm_b 12060) 26 = .ok (.iadd, 1) := by decide +kernel
theorem d12060_27 : decode (jm_b 12060) 27 = .ok (.aload_n 0, 1) := by decide +kernel
theorem d12060_28 : decode (jm_b 12060) 28 = .ok (.getfield 19, 3) := by decide +kernel
theorem d12060_31 : decode (jm_b 12060) 31 = .ok (.iload_n 1, 1) := by decide +kernel
theorem d12060_32 : decode (jm_b 12060) 32 = .ok (.iaload, 1) := by decide +kernel
theorem d12060_33 : decode (jm_b 12060) 33 = .ok (.isub, 1) := by decide +kernel
theorem d12060_34 : decode (jm_b 12060) 34 = .ok (.i2l, 1) := by decide +kernel
theorem d12060_35 : decode (jm_b 12060) 35 = .ok (.iconst 3, 1) := by decide +kernel
theorem d12060_36 : decode (jm_b 12060) 36 = .ok (.invokestatic 406, 3) := by decide +kernel
theorem d12060_39 : decode (jm_b 12060) 39 = .ok (.ireturn, 1) := by decide +kernel
theorem d12060_40 : decode (jm_b 12060) 40 = .ok (.aload_n 0, 1) := by decide +kernel
theorem d12060_41 : decode (jm_b 12060) 41 = .ok (.getfield 117, 3) := by decide +kernel
theorem d12060_44 : decode (jm_b 12060) 44 = .ok (.iconst 0, 1) := by decide +kernel
theorem d12060_45 : decode (jm_b 12060) 45 = .ok (.iload_n 1, 1) := by decide +kernel
theorem d12060_46 : decode (jm_b 12060) 46 = .ok (.i2l, 1) := by decide +kernel
theorem d12060_47 : decode (jm_b 12060) 47 = .ok (.lastore, 1) := by decide +kernel
theorem d12060_48 : decode (jm_b 12060) 48 = .ok (.aload_n 0, 1) := by decide +kernel
theorem d12060_49 : decode (jm_b 12060) 49 = .ok (.getfield 117, 3) := by decide +kernel
theorem d12060_52 : decode (jm_b 12060) 52 = .ok (.iconst 1, 1) := by decide +kernel
theorem d12060_53 : decode (jm_b 12060) 53 = .ok (.aload_n 0, 1) := by decide +kernel
theorem d12060_54 : decode (jm_b 12060) 54 = .ok (.getfield 13, 3) := by decide +kernel
theorem d12060_57 : decode (jm_b 12060) 57 = .ok (.iload_n 1, 1) := by decide +kernel
theorem d12060_58 : decode (jm_b 12060) 58 = .ok (.iaload, 1) := by decide +kernel
theorem d12060_59 : decode (jm_b 12060) 59 = .ok (.i2l, 1) := by decide +kernel
theorem d12060_60 : decode (jm_b 12060) 60 = .ok (.lastore, 1) := by decide +kernel
theorem d12060_61 : decode (jm_b 12060) 61 = .ok (.aload_n 0, 1) := by decide +kernel
theorem d12060_62 : decode (jm_b 12060) 62 = .ok (.getfield 117, 3) := by decide +kernel
theorem d12060_65 : decode (jm_b 12060) 65 = .ok (.iconst 2, 1) := by decide +kernel
theorem d12060_66 : decode (jm_b 12060) 66 = .ok (.aload_n 0, 1) := by decide +kernel
theorem d12060_67 : decode (jm_b 12060) 67 = .ok (.getfield 16, 3) := by decide +kernel
theorem d12060_70 : decode (jm_b 12060) 70 = .ok (.iload_n 1, 1) := by decide +kernel
theorem d12060_71 : decode (jm_b 12060) 71 = .ok (.iaload, 1) := by decide +kernel
theorem d12060_72 : decode (jm_b 12060) 72 = .ok (.i2l, 1) := by decide +kernel
theorem d12060_73 : decode (jm_b 12060) 73 = .ok (.lastore, 1) := by decide +kernel
theorem d12060_74 : decode (jm_b 12060) 74 = .ok (.aload_n 0, 1) := by decide +kernel
theorem d12060_75 : decode (jm_b 12060) 75 = .ok (.getfield 117, 3) := by decide +kernel
theorem d12060_78 : decode (jm_b 12060) 78 = .ok (.iconst 3, 1) := by decide +kernel
theorem d12060_79 : decode (jm_b 12060) 79 = .ok (.aload_n 0, 1) := by decide +kernel
theorem d12060_80 : decode (jm_b 12060) 80 = .ok (.getfield 19, 3) := by decide +kernel
theorem d12060_83 : decode (jm_b 12060) 83 = .ok (.iload_n 1, 1) := by decide +kernel
theorem d12060_84 : decode (jm_b 12060) 84 = .ok (.iaload, 1) := by decide +kernel
theorem d12060_85 : decode (jm_b 12060) 85 = .ok (.i2l, 1) := by decide +kernel
theorem d12060_86 : decode (jm_b 12060) 86 = .ok (.lastore, 1) := by decide +kernel
theorem d12060_87 : decode (jm_b 12060) 87 = .ok (.aload_n 0, 1) := by decide +kernel
theorem d12060_88 : decode (jm_b 12060) 88 = .ok (.getfield 117, 3) := by decide +kernel
theorem d12060_91 : decode (jm_b 12060) 91 = .ok (.iconst 4, 1) := by decide +kernel
theorem d12060_92 : decode (jm_b 12060) 92 = .ok (.aload_n 0, 1) := by decide +kernel
theorem d12060_93 : decode (jm_b 12060) 93 = .ok (.getfield 9, 3) := by decide +kernel
theorem d12060_96 : decode (jm_b 12060) 96 = .ok (.iconst 1, 1) := by decide +kernel
theorem d12060_97 : decode (jm_b 12060) 97 = .ok (.iaload, 1) := by decide +kernel
theorem d12060_98 : decode (jm_b 12060) 98 = .ok (.i2l, 1) := by decide +kernel
theorem d12060_99 : decode (jm_b 12060) 99 = .ok (.lastore, 1) := by decide +kernel
theorem d12060_100 : decode (jm_b 12060) 100 = .ok (.aload_n 0, 1) := by decide +kernel
theorem d12060_101 : decode (jm_b 12060) 101 = .ok (.getfield 117, 3) := by decide +kernel
theorem d12060_104 : decode (jm_b 12060) 104 = .ok (.iconst 5, 1) := by decide +kernel
theorem d12060_105 : decode (jm_b 12060) 105 = .ok (.iload_n 2, 1) := by decide +kernel
theorem d12060_106 : decode (jm_b 12060) 106 = .ok (.i2l, 1) := by decide +kernel
theorem d12060_107 : decode (jm_b 12060) 107 = .ok (.lastore, 1) := by decide +kernel
theorem d12060_108 : decode (jm_b 12060) 108 = .ok (.aload_n 0, 1) := by decide +kernel
theorem d12060_109 : decode (jm_b 12060) 109 = .ok (.getfield 117, 3) := by decide +kernel
theorem d12060_112 : decode (jm_b 12060) 112 = .ok (.bipush 6, 2) := by decide +kernel
theorem d12060_114 : decode (jm_b 12060) 114 = .ok (.aload_n 0, 1) := by decide +kernel
theorem d12060_115 : decode (jm_b 12060) 115 = .ok (.getfield 9, 3) := by decide +kernel
theorem d12060_118 : decode (jm_b 12060) 118 = .ok (.iconst 5, 1) := by decide +kernel
theorem d12060_119 : decode (jm_b 12060) 119 = .ok (.iaload, 1) := by decide +kernel
theorem d12060_120 : decode (jm_b 12060) 120 = .ok (.i2l, 1) := by decide +kernel
theorem d12060_121 : decode (jm_b 12060) 121 = .ok (.lastore, 1) := by decide +kernel
theorem d12060_122 : decode (jm_b 12060) 122 = .ok (.aload_n 0, 1) := by decide +kernel
theorem d12060_123 : decode (jm_b 12060) 123 = .ok (.getfield 117, 3) := by decide +kernel
theorem d12060_126 : decode (jm_b 12060) 126 = .ok (.bipush 7, 2) := by decide +kernel
theorem d12060_128 : decode (jm_b 12060) 128 = .ok (.aload_n 0, 1) := by decide +kernel
theorem d12060_129 : decode (jm_b 12060) 129 = .ok (.getfield 13, 3) := by decide +kernel
theorem d12060_132 : decode (jm_b 12060) 132 = .ok (.iload_n 1, 1) := by decide +kernel
theorem d12060_133 : decode (jm_b 12060) 133 = .ok (.ifCond .le 9, 3) := by decide +kernel
theorem d12060_136 : decode (jm_b 12060) 136 = .ok (.iload_n 1, 1) := by decide +kernel
theorem d12060_137 : decode (jm_b 12060) 137 = .ok (.iconst 1, 1) := by decide +kernel
theorem d12060_138 : decode (jm_b 12060) 138 = .ok (.isub, 1) := by decide +kernel
theorem d12060_139 : decode (jm_b 12060) 139 = .ok (.goto 4, 3) := by decide +kernel
theorem d12060_142 : decode (jm_b 12060) 142 = .ok (.iload_n 1, 1) := by decide +kernel
theorem d12060_143 : decode (jm_b 12060) 143 = .ok (.iaload, 1) := by decide +kernel
theorem d12060_144 : decode (jm_b 12060) 144 = .ok (.i2l, 1) := by decide +kernel
theorem d12060_145 : decode (jm_b 12060) 145 = .ok (.lastore, 1) := by decide +kernel
theorem d12060_146 : decode (jm_b 12060) 146 = .ok (.aload_n 0, 1) := by decide +kernel
theorem d12060_147 : decode (jm_b 12060) 147 = .ok (.getfield 117, 3) := by decide +kernel
theorem d12060_150 : decode (jm_b 12060) 150 = .ok (.bipush 8, 2) := by decide +kernel
theorem d12060_152 : decode (jm_b 12060) 152 = .ok (.aload_n 0, 1) := by decide +kernel
theorem d12060_153 : decode (jm_b 12060) 153 = .ok (.getfield 13, 3) := by decide +kernel
theorem d12060_156 : decode (jm_b 12060) 156 = .ok (.iload_n 1, 1) := by decide +kernel
theorem d12060_157 : decode (jm_b 12060) 157 = .ok (.iconst 1, 1) := by decide +kernel
theorem d12060_158 : decode (jm_b 12060) 158 = .ok (.iadd, 1) := by decide +kernel
theorem d12060_159 : decode (jm_b 12060) 159 = .ok (.aload_n 0, 1) := by decide +kernel
theorem d12060_160 : decode (jm_b 12060) 160 = .ok (.getfield 9, 3) := by decide +kernel
theorem d12060_163 : decode (jm_b 12060) 163 = .ok (.iconst 0, 1) := by decide +kernel
theorem d12060_164 : decode (jm_b 12060) 164 = .ok (.iaload, 1) := by decide +kernel
theorem d12060_165 : decode (jm_b 12060) 165 = .ok (.if_icmp .ge 9, 3) := by decide +kernel
theorem d12060_168 : decode (jm_b 12060) 168 = .ok (.iload_n 1, 1) := by decide +kernel
theorem d12060_169 : decode (jm_b 12060) 169 = .ok (.iconst 1, 1) := by decide +kernel
theorem d12060_170 : decode (jm_b 12060) 170 = .ok (.iadd, 1) := by decide +kernel
theorem d12060_171 : decode (jm_b 12060) 171 = .ok (.goto 4, 3) := by decide +kernel
theorem d12060_174 : decode (jm_b 12060) 174 = .ok (.iload_n 1, 1) := by decide +kernel
theorem d12060_175 : decode (jm_b 12060) 175 = .ok (.iaload, 1) := by decide +kernel
theorem d12060_176 : decode (jm_b 12060) 176 = .ok (.i2l, 1) := by decide +kernel
theorem d12060_177 : decode (jm_b 12060) 177 = .ok (.lastore, 1) := by decide +kernel
theorem d12060_178 : decode (jm_b 12060) 178 = .ok (.aload_n 0, 1) := by decide +kernel
theorem d12060_179 : decode (jm_b 12060) 179 = .ok (.getfield 117, 3) := by decide +kernel
theorem d12060_182 : decode (jm_b 12060) 182 = .ok (.bipush 9, 2) := by decide +kernel
theorem d12060_184 : decode (jm_b 12060) 184 = .ok (.aload_n 0, 1) := by decide +kernel
theorem d12060_185 : decode (jm_b 12060) 185 = .ok (.iload_n 1, 1) := by decide +kernel
theorem d12060_186 : decode (jm_b 12060) 186 = .ok (.iconst 0, 1) := by decide +kernel
theorem d12060_187 : decode (jm_b 12060) 187 = .ok (.invokevirtual 410, 3) := by decide +kernel
theorem d12060_190 : decode (jm_b 12060) 190 = .ok (.i2l, 1) := by decide +kernel
theorem d12060_191 : decode (jm_b 12060) 191 = .ok (.lastore, 1) := by decide +kernel
theorem d12060_192 : decode (jm_b 12060) 192 = .ok (.aload_n 0, 1) := by decide +kernel
theorem d12060_193 : decode (jm_b 12060) 193 = .ok (.getfield 117, 3) := by decide +kernel
theorem d12060_196 : decode (jm_b 12060) 196 = .ok (.bipush 10, 2) := by decide +kernel
theorem d12060_198 : decode (jm_b 12060) 198 = .ok (.aload_n 0, 1) := by decide +kernel
theorem d12060_199 : decode (jm_b 12060) 199 = .ok (.iload_n 1, 1) := by decide +kernel
theorem d12060_200 : decode (jm_b 12060) 200 = .ok (.iconst 1, 1) := by decide +kernel
theorem d12060_201 : decode (jm_b 12060) 201 = .ok (.invokevirtual 410, 3) := by decide +kernel
theorem d12060_204 : decode (jm_b 12060) 204 = .ok (.i2l, 1) := by decide +kernel
theorem d12060_205 : decode (jm_b 12060) 205 = .ok (.lastore, 1) := by decide +kernel
theorem d12060_206 : decode (jm_b 12060) 206 = .ok (.aload_n 0, 1) := by decide +kernel
theorem d12060_207 : decode (jm_b 12060) 207 = .ok (.getfield 117, 3) := by decide +kernel
theorem d12060_210 : decode (jm_b 12060) 210 = .ok (.bipush 11, 2) := by decide +kernel
theorem d12060_212 : decode (jm_b 12060) 212 = .ok (.aload_n 0, 1) := by decide +kernel
theorem d12060_213 : decode (jm_b 12060) 213 = .ok (.iload_n 1, 1) := by decide +kernel
theorem d12060_214 : decode (jm_b 12060) 214 = .ok (.invokevirtual 413, 3) := by decide +kernel
theorem d12060_217 : decode (jm_b 12060) 217 = .ok (.i2l, 1) := by decide +kernel
theorem d12060_218 : decode (jm_b 12060) 218 = .ok (.lastore, 1) := by decide +kernel
theorem d12060_219 : decode (jm_b 12060) 219 = .ok (.aload_n 0, 1) := by decide +kernel
theorem d12060_220 : decode (jm_b 12060) 220 = .ok (.invokevirtual 416, 3) := by decide +kernel
theorem d12060_223 : decode (jm_b 12060) 223 = .ok (.iconst 3, 1) := by decide +kernel
theorem d12060_224 : decode (jm_b 12060) 224 = .ok (.invokestatic 406, 3) := by decide +kernel
theorem d12060_227 : decode (jm_b 12060) 227 = .ok (.ireturn, 1) := by decide +kernel
theorem d12061_0 : decode (jm_b 12061) 0 = .ok (.lload_n 0, 1) := by decide +kernel
theorem d12061_1 : decode (jm_b 12061) 1 = .ok (.iload_n 2, 1) := by decide +kernel
theorem d12061_2 : decode (jm_b 12061) 2 = .ok (.ineg, 1) := by decide +kernel
theorem d12061_3 : decode (jm_b 12061) 3 = .ok (.i2l, 1) := by decide +kernel
theorem d12061_4 : decode (jm_b 12061) 4 = .ok (.lcmp, 1) := by decide +kernel
theorem d12061_5 : decode (jm_b 12061) 5 = .ok (.ifCond .ge 8, 3) := by decide +kernel
theorem d12061_8 : decode (jm_b 12061) 8 = .ok (.iload_n 2, 1) := by decide +kernel
theorem d12061_9 : decode (jm_b 12061) 9 = .ok (.ineg, 1) := by decide +kernel
theorem d12061_10 : decode (jm_b 12061) 10 = .ok (.goto 16, 3) := by decide +kernel
theorem d12061_13 : decode (jm_b 12061) 13 = .ok (.lload_n 0, 1) := by decide +kernel
theorem d12061_14 : decode (jm_b 12061) 14 = .ok (.iload_n 2, 1) := by decide +kernel
theorem d12061_15 : decode (jm_b 12061) 15 = .ok (.i2l, 1) := by decide +kernel
theorem d12061_16 : decode (jm_b 12061) 16 = .ok (.lcmp, 1) := by decide +kernel
theorem d12061_17 : decode (jm_b 12061) 17 = .ok (.ifCond .le 7, 3) := by decide +kernel
theorem d12061_20 : decode (jm_b 12061) 20 = .ok (.iload_n 2, 1) := by decide +kernel
theorem d12061_21 : decode (jm_b 12061) 21 = .ok (.goto 5, 3) := by decide +kernel
theorem d12061_24 : decode (jm_b 12061) 24 = .ok (.lload_n 0, 1) := by decide +kernel
theorem d12061_25 : decode (jm_b 12061) 25 = .ok (.l2i, 1) := by decide +kernel
theorem d12061_26 : decode (jm_b 12061) 26 = .ok (.ireturn, 1) := by decide +kernel
theorem d12062_0 : decode (jm_b 12062) 0 = .ok (.iconst 0, 1) := by decide +kernel
theorem d12062_1 : decode (jm_b 12062) 1 = .ok (.istore_n 3, 1) := by decide +kernel
theorem d12062_2 : decode (jm_b 12062) 2 = .ok (.iconst 0, 1) := by decide +kernel
theorem d12062_3 : decode (jm_b 12062) 3 = .ok (.istore 4, 2) := by decide +kernel
theorem d12062_5 : decode (jm_b 12062) 5 = .ok (.iload 4, 2) := by decide +kernel
theorem d12062_7 : decode (jm_b 12062) 7 = .ok (.aload_n 0, 1) := by decide +kernel
theorem d12062_8 : decode (jm_b 12062) 8 = .ok (.getfield 9, 3) := by decide +kernel
theorem d12062_11 : decode (jm_b 12062) 11 = .ok (.iconst 2, 1) := by decide +kernel
theorem d12062_12 : decode (jm_b 12062) 12 = .ok (.iaload, 1) := by decide +kernel
theorem d12062_13 : decode (jm_b 12062) 13 = .ok (.if_icmp .ge 38, 3) := by decide +kernel
theorem d12062_16 : decode (jm_b 12062) 16 = .ok (.iload_n 3, 1) := by decide +kernel
theorem d12062_17 : decode (jm_b 12062) 17 = .ok (.aload_n 0, 1) := by decide +kernel
theorem d12062_18 : decode (jm_b 12062) 18 = .ok (.getfield 25, 3) := by decide +kernel
theorem d12062_21 : decode (jm_b 12062) 21 = .ok (.iload 4, 2) := by decide +kernel
theorem d12062_23 : decode (jm_b 12062) 23 = .ok (.iaload, 1) := by decide +kernel
theorem d12062_24 : decode (jm_b 12062) 24 = .ok (.iload_n 1, 1) := by decide +kernel
theorem d12062_25 : decode (jm_b 12062) 25 = .ok (.if_icmp .ne 17, 3) := by decide +kernel
theorem d12062_28 : decode (jm_b 12062) 28 = .ok (.aload_n 0, 1) := by decide +kernel
theorem d12062_29 : decode (jm_b 12062) 29 = .ok (.iload 4, 2) := by decide +kernel
theorem d12062_31 : decode (jm_b 12062) 31 = .ok (.invokevirtual 394, 3) := by decide +kernel
theorem d12062_34 : decode (jm_b 12062) 34 = .ok (.iload_n 2, 1) := by decide +kernel
theorem d12062_35 : decode (jm_b 12062) 35 = .ok (.if_icmp .ne 7, 3) := by decide +kernel
theorem d12062_38 : decode (jm_b 12062) 38 = .ok (.iconst 1, 1) := by decide +kernel
theorem d12062_39 : decode (jm_b 12062) 39 = .ok (.goto 4, 3) := by decide +kernel
theorem d12062_42 : decode (jm_b 12062) 42 = .ok (.iconst 0, 1) := by decide +kernel
theorem d12062_43 : decode (jm_b 12062) 43 = .ok (.iadd, 1) := by decide +kernel
theorem d12062_44 : decode (jm_b 12062) 44 = .ok (.istore_n 3, 1) := by decide +kernel
theorem d12062_45 : decode (jm_b 12062) 45 = .ok (.iinc 4 1, 3) := by decide +kernel
theorem d12062_48 : decode (jm_b 12062) 48 = .ok (.goto (-43), 3) := by decide +kernel
theorem d12062_51 : decode (jm_b 12062) 51 = .ok (.iload_n 3, 1) := by decide +kernel
theorem d12062_52 : decode (jm_b 12062) 52 = .ok (.ireturn, 1) := by decide +kernel
theorem d12063_0 : decode (jm_b 12063) 0 = .ok (.iload_n 1, 1) := by decide +kernel
theorem d12063_1 : decode (jm_b 12063) 1 = .ok (.ifCond .le 17, 3) := by decide +kernel
theorem d12063_4 : decode (jm_b 12063) 4 = .ok (.aload_n 0, 1) := by decide +kernel
theorem d12063_5 : decode (jm_b 12063) 5 = .ok (.iload_n 1, 1) := by decide +kernel
theorem d12063_6 : decode (jm_b 12063) 6 = .ok (.iconst 1, 1) := by decide +kernel
theorem d12063_7 : decode (jm_b 12063) 7 = .ok (.isub, 1) := by decide +kernel
theorem d12063_8 : decode (jm_b 12063) 8 = .ok (.invokevirtual 182, 3) := by decide +kernel
theorem d12063_11 : decode (jm_b 12063) 11 = .ok (.ifCond .eq 7, 3) := by decide +kernel
theorem d12063_14 : decode (jm_b 12063) 14 = .ok (.iconst 1, 1) := by decide +kernel
theorem d12063_15 : decode (jm_b 12063) 15 = .ok (.goto 4, 3) := by decide +kernel
theorem d12063_18 : decode (jm_b 12063) 18 = .ok (.iconst 0, 1) := by decide +kernel
theorem d12063_19 : decode (jm_b 12063) 19 = .ok (.istore_n 2, 1) := by decide +kernel
theorem d12063_20 : decode (jm_b 12063) 20 = .ok (.iload_n 1, 1) := by decide +kernel
theorem d12063_21 : decode (jm_b 12063) 21 = .ok (.iconst 1, 1) := by decide +kernel
theorem d12063_22 : decode (jm_b 12063) 22 = .ok (.iadd, 1) := by decide +kernel
theorem d12063_23 : decode (jm_b 12063) 23 = .ok (.aload_n 0, 1) := by decide +kernel
theorem d12063_24 : decode (jm_b 12063) 24 = .ok (.getfield 9, 3) := by decide +kernel
theorem d12063_27 : decode (jm_b 12063) 27 = .ok (.iconst 0, 1) := by decide +kernel
theorem d12063_28 : decode (jm_b 12063) 28 = .ok (.iaload, 1) := by decide +kernel
theorem d12063_29 : decode (jm_b 12063) 29 = .ok (.if_icmp .ge 19, 3) := by decide +kernel
theorem d12063_32 : decode (jm_b 12063) 32 = .ok (.aload_n 0, 1) := by decide +kernel
theorem d12063_33 : decode (jm_b 12063) 33 = .ok (.iload_n 1, 1) := by decide +kernel
theorem d12063_34 : decode (jm_b 12063) 34 = .ok (.iconst 1, 1) := by decide +kernel
theorem d12063_35 : decode (jm_b 12063) 35 = .ok (.iadd, 1) := by decide +kernel
theorem d12063_36 : decode (jm_b 12063) 36 = .ok (.invokevirtual 182, 3) := by decide +kernel
theorem d12063_39 : decode (jm_b 12063) 39 = .ok (.ifCond .eq 9, 3) := by decide +kernel
theorem d12063_42 : decode (jm_b 12063) 42 = .ok (.iload_n 2, 1) := by decide +kernel
theorem d12063_43 : decode (jm_b 12063) 43 = .ok (.iconst 1, 1) := by decide +kernel
theorem d12063_44 : decode (jm_b 12063) 44 = .ok (.iadd, 1) := by decide +kernel
theorem d12063_45 : decode (jm_b 12063) 45 = .ok (.goto 4, 3) := by decide +kernel
theorem d12063_48 : decode (jm_b 12063) 48 = .ok (.iload_n 2, 1) := by decide +kernel
theorem d12063_49 : decode (jm_b 12063) 49 = .ok (.ireturn, 1) := by decide +kernel
theorem d12064_0 : decode (jm_b 12064) 0 = .ok (.aload_n 0, 1) := by decide +kernel
theorem d12064_1 : decode (jm_b 12064) 1 = .ok (.getfield 9, 3) := by decide +kernel
theorem d12064_4 : decode (jm_b 12064) 4 = .ok (.bipush 8, 2) := by decide +kernel
theorem d12064_6 : decode (jm_b 12064) 6 = .ok (.iaload, 1) := by decide +kernel
theorem d12064_7 : decode (jm_b 12064) 7 = .ok (.istore_n 1, 1) := by decide +kernel
theorem d12064_8 : decode (jm_b 12064) 8 = .ok (.bipush 12, 2) := by decide +kernel
theorem d12064_10 : decode (jm_b 12064) 10 = .ok (.iload_n 1, 1) := by decide +kernel
theorem d12064_11 : decode (jm_b 12064) 11 = .ok (.imul, 1) := by decide +kernel
theorem d12064_12 : decode (jm_b 12064) 12 = .ok (.istore_n 2, 1) := by decide +kernel
theorem d12064_13 : decode (jm_b 12064) 13 = .ok (.iload_n 2, 1) := by decide +kernel
theorem d12064_14 : decode (jm_b 12064) 14 = .ok (.bipush 12, 2) := by decide +kernel
theorem d12064_16 : decode (jm_b 12064) 16 = .ok (.iload_n 1, 1) := by decide +kernel
theorem d12064_17 : decode (jm_b 12064) 17 = .ok (.imul, 1) := by decide +kernel
theorem d12064_18 : decode (jm_b 12064) 18 = .ok (.aload_n 0, 1) := by decide +kernel
theorem d12064_19 : decode (jm_b 12064) 19 = .ok (.getfield 102, 3) := by decide +kernel
theorem d12064_22 : decode (jm_b 12064) 22 = .ok (.iload_n 1, 1) := by decide +kernel
theorem d12064_23 : decode (jm_b 12064) 23 = .ok (.iaload, 1) := by decide +kernel
theorem d12064_24 : decode (jm_b 12064) 24 = .ok (.iadd, 1) := by decide +kernel
theorem d12064_25 : decode (jm_b 12064) 25 = .ok (.if_icmp .ge 64, 3) := by decide +kernel
theorem d12064_28 : decode (jm_b 12064) 28 = .ok (.aload_n 0, 1) := by decide +kernel
theorem d12064_29 : decode (jm_b 12064) 29 = .ok (.getfield 108, 3) := by decide +kernel
theorem d12064_32 : decode (jm_b 12064) 32 = .ok (.iload_n 2, 1) := by decide +kernel
theorem d12064_33 : decode (jm_b 12064) 33 = .ok (.iaload, 1) := by decide +kernel
theorem d12064_34 : decode (jm_b 12064) 34 = .ok (.aload_n 0, 1) := by decide +kernel
theorem d12064_35 : decode (jm_b 12064) 35 = .ok (.getfield 111, 3) := by decide +kernel
theorem d12064_38 : decode (jm_b 12064) 38 = .ok (.iload_n 2, 1) := by decide +kernel
theorem d12064_39 : decode (jm_b 12064) 39 = .ok (.iaload, 1) := by decide +kernel
theorem d12064_40 : decode (jm_b 12064) 40 = .ok (.if_icmp .eq 25, 3) := by decide +kernel
theorem d12064_43 : decode (jm_b 12064) 43 = .ok (.aload_n 0, 1) := by decide +kernel
theorem d12064_44 : decode (jm_b 12064) 44 = .ok (.iload_n 1, 1) := by decide +kernel
theorem d12064_45 : decode (jm_b 12064) 45 = .ok (.aload_n 0, 1) := by decide +kernel
theorem d12064_46 : decode (jm_b 12064) 46 = .ok (.getfield 108, 3) := by decide +kernel
theorem d12064_49 : decode (jm_b 12064) 49 = .ok (.iload_n 2, 1) := by decide +kernel
theorem d12064_50 : decode (jm_b 12064) 50 = .ok (.iaload, 1) := by decide +kernel
theorem d12064_51 : decode (jm_b 12064) 51 = .ok (.aload_n 0, 1) := by decide +kernel
theorem d12064_52 : decode (jm_b 12064) 52 = .ok (.getfield 111, 3) := by decide +kernel
theorem d12064_55 : decode (jm_b 12064) 55 = .ok (.iload_n 2, 1) := by decide +kernel
theorem d12064_56 : decode (jm_b 12064) 56 = .ok (.iaload, 1) := by decide +kernel
theorem d12064_57 : decode (jm_b 12064) 57 = .ok (.invokevirtual 382, 3) := by decide +kernel
theorem d12064_60 : decode (jm_b 12064) 60 = .ok (.lconst 1, 1) := by decide +kernel
theorem d12064_61 : decode (jm_b 12064) 61 = .ok (.lcmp, 1) := by decide +kernel
theorem d12064_62 : decode (jm_b 12064) 62 = .ok (.ifCond .ne 21, 3) := by decide +kernel
theorem d12064_65 : decode (jm_b 12064) 65 = .ok (.aload_n 0, 1) := by decide +kernel
theorem d12064_66 : decode (jm_b 12064) 66 = .ok (.iload_n 1, 1) := by decide +kernel
theorem d12064_67 : decode (jm_b 12064) 67 = .ok (.aload_n 0, 1) := by decide +kernel
theorem d12064_68 : decode (jm_b 12064) 68 = .ok (.getfield 105, 3) := by decide +kernel
theorem d12064_71 : decode (jm_b 12064) 71 = .ok (.iload_n 2, 1) := by decide +kernel
theorem d12064_72 : decode (jm_b 12064) 72 = .ok (.iaload, 1) := by decide +kernel
theorem d12064_73 : decode (jm_b 12064) 73 = .ok (.aload_n 0, 1) := by decide +kernel
theorem d12064_74 : decode (jm_b 12064) 74 = .ok (.getfield 108, 3) := by decide +kernel
theorem d12064_77 : decode (jm_b 12064) 77 = .ok (.iload_n 2, 1) := by decide +kernel
theorem d12064_78 : decode (jm_b 12064) 78 = .ok (.iaload, 1) := by decide +kernel
theorem d12064_79 : decode (jm_b 12064) 79 = .ok (.invokevirtual 382, 3) := by decide +kernel
theorem d12064_82 : decode (jm_b 12064) 82 = .ok (.lreturn, 1) := by decide +kernel
theorem d12064_83 : decode (jm_b 12064) 83 = .ok (.iinc 2 1, 3) := by decide +kernel
theorem d12064_86 : decode (jm_b 12064) 86 = .ok (.goto (-73), 3) := by decide +kernel
theorem d12064_89 : decode (jm_b 12064) 89 = .ok (.lconst 0, 1) := by decide +kernel
theorem d12064_90 : decode (jm_b 12064) 90 = .ok (.lreturn, 1) := by decide +kernel
theorem d12065_0 : decode (jm_b 12065) 0 = .ok (.iconst 0, 1) := by decide +kernel
theorem d12065_1 : decode (jm_b 12065) 1 = .ok (.istore 4, 2) := by decide +kernel
theorem d12065_3 : decode (jm_b 12065) 3 = .ok (.iload_n 2, 1) := by decide +kernel
theorem d12065_4 : decode (jm_b 12065) 4 = .ok (.istore 5, 2) := by decide +kernel
theorem d12065_6 : decode (jm_b 12065) 6 = .ok (.iload 5, 2) := by decide +kernel
theorem d12065_8 : decode (jm_b 12065) 8 = .ok (.iload_n 3, 1) := by decide +kernel
theorem d12065_9 : decode (jm_b 12065) 9 = .ok (.if_icmp .ge 144, 3) := by decide +kernel
theorem d12065_12 : decode (jm_b 12065) 12 = .ok (.aload_n 0, 1) := by decide +kernel
theorem d12065_13 : decode (jm_b 12065) 13 = .ok (.getfield 96, 3) := by decide +kernel
theorem d12065_16 : decode (jm_b 12065) 16 = .ok (.sipush 300, 3) := by decide +kernel
theorem d12065_19 : decode (jm_b 12065) 19 = .ok (.iload_n 1, 1) := by decide +kernel
theorem d12065_20 : decode (jm_b 12065) 20 = .ok (.imul, 1) := by decide +kernel
theorem d12065_21 : decode (jm_b 12065) 21 = .ok (.iload 5, 2) := by decide +kernel
theorem d12065_23 : decode (jm_b 12065) 23 = .ok (.iadd, 1) := by decide +kernel
theorem d12065_24 : decode (jm_b 12065) 24 = .ok (.iaload, 1) := by decide +kernel
theorem d12065_25 : decode (jm_b 12065) 25 = .ok (.istore 6, 2) := by decide +kernel
theorem d12065_27 : decode (jm_b 12065) 27 = .ok (.aload_n 0, 1) := by decide +kernel
theorem d12065_28 : decode (jm_b 12065) 28 = .ok (.getfield 99, 3) := by decide +kernel
theorem d12065_31 : decode (jm_b 12065) 31 = .ok (.sipush 300, 3) := by decide +kernel
theorem d12065_34 : decode (jm_b 12065) 34 = .ok (.iload_n 1, 1) := by decide +kernel
theorem d12065_35 : decode (jm_b 12065) 35 = .ok (.imul, 1) := by decide +kernel
theorem d12065_36 : decode (jm_b 12065) 36 = .ok (.iload 5, 2) := by decide +kernel
theorem d12065_38 : decode (jm_b 12065) 38 = .ok (.iadd, 1) := by decide +kernel
theorem d12065_39 : decode (jm_b 12065) 39 = .ok (.iaload, 1) := by decide +kernel
theorem d12065_40 : decode (jm_b 12065) 40 = .ok (.istore 7, 2) := by decide +kernel
theorem d12065_42 : decode (jm_b 12065) 42 = .ok (.iload 6, 2) := by decide +kernel
theorem d12065_44 : decode (jm_b 12065) 44 = .ok (.ifCond .eq 9, 3) := by decide +kernel
theorem d12065_47 : decode (jm_b 12065) 47 = .ok (.iload 6, 2) := by decide +kernel
theorem d12065_49 : decode (jm_b 12065) 49 = .ok (.iconst 1, 1) := by decide +kernel
theorem d12065_50 : decode (jm_b 12065) 50 = .ok (.if_icmp .ne 34, 3) := by decide +kernel
theorem d12065_53 : decode (jm_b 12065) 53 = .ok (.aload_n 0, 1) := by decide +kernel
theorem d12065_54 : decode (jm_b 12065) 54 = .ok (.getfield 121, 3) := by decide +kernel
theorem d12065_57 : decode (jm_b 12065) 57 = .ok (.iload 4, 2) := by decide +kernel
theorem d12065_59 : decode (jm_b 12065) 59 = .ok (.iload 6, 2) := by decide +kernel
theorem d12065_61 : decode (jm_b 12065) 61 = .ok (.ifCond .ne 9, 3) := by decide +kernel
theorem d12065_64 : decode (jm_b 12065) 64 = .ok (.iload 7, 2) := by decide +kernel
theorem d12065_66 : decode (jm_b 12065) 66 = .ok (.i2l, 1) := by decide +kernel
theorem d12065_67 : decode (jm_b 12065) 67 = .ok (.goto 10, 3) := by decide +kernel
theorem d12065_70 : decode (jm_b 12065) 70 = .ok (.aload_n 0, 1) := by decide +kernel
theorem d12065_71 : decode (jm_b 12065) 71 = .ok (.getfield 117, 3) := by decide +kernel
theorem d12065_74 : decode (jm_b 12065) 74 = .ok (.iload 7, 2) := by decide +kernel
theorem d12065_76 : decode (jm_b 12065) 76 = .ok (.laload, 1) := by decide +kernel
theorem d12065_77 : decode (jm_b 12065) 77 = .ok (.lastore, 1) := by decide +kernel
theorem d12065_78 : decode (jm_b 12065) 78 = .ok (.iinc 4 1, 3) := by decide +kernel
theorem d12065_81 : decode (jm_b 12065) 81 = .ok (.goto 66, 3) := by decide +kernel
theorem d12065_84 : decode (jm_b 12065) 84 = .ok (.iload 6, 2) := by decide +kernel
theorem d12065_86 : decode (jm_b 12065) 86 = .ok (.bipush 9, 2) := by decide +kernel
theorem d12065_88 : decode (jm_b 12065) 88 = .ok (.if_icmp .ne 26, 3) := by decide +kernel
theorem d12065_91 : decode (jm_b 12065) 91 = .ok (.aload_n 0, 1) := by decide +kernel
theorem d12065_92 : decode (jm_b 12065) 92 = .ok (.getfield 121, 3) := by decide +kernel
theorem d12065_95 : decode (jm_b 12065) 95 = .ok (.iload 4, 2) := by decide +kernel
theorem d12065_97 : decode (jm_b 12065) 97 = .ok (.iconst 1, 1) := by decide +kernel
theorem d12065_98 : decode (jm_b 12065) 98 = .ok (.isub, 1) := by decide +kernel
theorem d12065_99 : decode (jm_b 12065) 99 = .ok (.lconst 1, 1) := by decide +kernel
theorem d12065_100 : decode (jm_b 12065) 100 = .ok (.aload_n 0, 1) := by decide +kernel
theorem d12065_101 : decode (jm_b 12065) 101 = .ok (.getfield 121, 3) := by decide +kernel
theorem d12065_104 : decode (jm_b 12065) 104 = .ok (.iload 4, 2) := by decide +kernel
theorem d12065_106 : decode (jm_b 12065) 106 = .ok (.iconst 1, 1) := by decide +kernel
theorem d12065_107 : decode (jm_b 12065) 107 = .ok (.isub, 1) := by decide +kernel
theorem d12065_108 : decode (jm_b 12065) 108 = .ok (.laload, 1) := by decide +kernel
theorem d12065_109 : decode (jm_b 12065) 109 = .ok (.lsub, 1) := by decide +kernel
theorem d12065_110 : decode (jm_b 12065) 110 = .ok (.lastore, 1) := by decide +kernel
theorem d12065_111 : decode (jm_b 12065) 111 = .ok (.goto 36, 3) := by decide +kernel
theorem d12065_114 : decode (jm_b 12065) 114 = .ok (.iinc 4 (-1), 3) := by decide +kernel
theorem d12065_117 : decode (jm_b 12065) 117 = .ok (.aload_n 0, 1) := by decide +kernel
theorem d12065_118 : decode (jm_b 12065) 118 = .ok (.getfield 121, 3) := by decide +kernel
theorem d12065_121 : decode (jm_b 12065) 121 = .ok (.iload 4, 2) := by decide +kernel
theorem d12065_123 : decode (jm_b 12065) 123 = .ok (.iconst 1, 1) := by decide +kernel
theorem d12065_124 : decode (jm_b 12065) 124 = .ok (.isub, 1) := by decide +kernel
theorem d12065_125 : decode (jm_b 12065) 125 = .ok (.iload 6, 2) := by decide +kernel
theorem d12065_127 : decode (jm_b 12065) 127 = .ok (.aload_n 0, 1) := by decide +kernel
theorem d12065_128 : decode (jm_b 12065) 128 = .ok (.getfield 121, 3) := by decide +kernel
theorem d12065_131 : decode (jm_b 12065) 131 = .ok (.iload 4, 2) := by decide +kernel
theorem d12065_133 : decode (jm_b 12065) 133 = .ok (.iconst 1, 1) := by decide +kernel
theorem d12065_134 : decode (jm_b 12065) 134 = .ok (.isub, 1) := by decide +kernel
theorem d12065_135 : decode (jm_b 12065) 135 = .ok (.laload, 1) := by decide +kernel
theorem d12065_136 : decode (jm_b 12065) 136 = .ok (.aload_n 0, 1) := by decide +kernel
theorem d12065_137 : decode (jm_b 12065) 137 = .ok (.getfield 121, 3) := by decide +kernel
theorem d12065_140 : decode (jm_b 12065) 140 = .ok (.iload 4, 2) := by decide +kernel
theorem d12065_142 : decode (jm_b 12065) 142 = .ok (.laload, 1) := by decide +kernel
theorem d12065_143 : decode (jm_b 12065) 143 = .ok (.invokestatic 390, 3) := by decide +kernel
theorem d12065_146 : decode (jm_b 12065) 146 = .ok (.lastore, 1) := by decide +kernel
theorem d12065_147 : decode (jm_b 12065) 147 = .ok (.iinc 5 1, 3) := by decide +kernel
theorem d12065_150 : decode (jm_b 12065) 150 = .ok (.goto (-144), 3) := by decide +kernel
theorem d12065_153 : decode (jm_b 12065) 153 = .ok (.aload_n 0, 1) := by decide +kernel
theorem d12065_154 : decode (jm_b 12065) 154 = .ok (.getfield 121, 3) := by decide +kernel
theorem d12065_157 : decode (jm_b 12065) 157 = .ok (.iconst 0, 1) := by decide +kernel
theorem d12065_158 : decode (jm_b 12065) 158 = .ok (.laload, 1) := by decide +kernel
theorem d12065_159 : decode (jm_b 12065) 159 = .ok (.lreturn, 1) := by decide +kernel
theorem d12066_0 : decode (jm_b 12066) 0 = .ok (.iload_n 0, 1) := by decide +kernel
theorem d12066_1 : decode (jm_b 12066) 1 = .ok (.tableswitch 190 2 15 #[71, 75, 111, 126, 141, 156, 171, 190, 186, 190, 190, 79, 83, 97], 71) := by decide +kernel
theorem d12066_72 : decode (jm_b 12066) 72 = .ok (.lload_n 1, 1) := by decide +kernel
theorem d12066_73 : decode (jm_b 12066) 73 = .ok (.lload_n 3, 1) := by decide +kernel
theorem d12066_74 : decode (jm_b 12066) 74 = .ok (.ladd, 1) := by decide +kernel
theorem d12066_75 : decode (jm_b 12066) 75 = .ok (.lreturn, 1) := by decide +kernel
theorem d12066_76 : decode (jm_b 12066) 76 = .ok (.lload_n 1, 1) := by decide +kernel
theorem d12066_77 : decode (jm_b 12066) 77 = .ok (.lload_n 3, 1) := by decide +kernel
theorem d12066_78 : decode (jm_b 12066) 78 = .ok (.lsub, 1) := by decide +kernel
theorem d12066_79 : decode (jm_b 12066) 79 = .ok (.lreturn, 1) := by decide +kernel
theorem d12066_80 : decode (jm_b 12066) 80 = .ok (.lload_n 1, 1) := by decide +kernel
theorem d12066_81 : decode (jm_b 12066) 81 = .ok (.lload_n 3, 1) := by decide +kernel
theorem d12066_82 : decode (jm_b 12066) 82 = .ok (.lmul, 1) := by decide +kernel
theorem d12066_83 : decode (jm_b 12066) 83 = .ok (.lreturn, 1) := by decide +kernel
theorem d12066_84 : decode (jm_b 12066) 84 = .ok (.lload_n 3, 1) := by decide +kernel
theorem d12066_85 : decode (jm_b 12066) 85 = .ok (.lconst 0, 1) := by decide +kernel
theorem d12066_86 : decode (jm_b 12066) 86 = .ok (.lcmp, 1) := by decide +kernel
theorem d12066_87 : decode (jm_b 12066) 87 = .ok (.ifCond .ne 7, 3) := by decide +kernel
theorem d12066_90 : decode (jm_b 12066) 90 = .ok (.lconst 0, 1) := by decide +kernel
theorem d12066_91 : decode (jm_b 12066) 91 = .ok (.goto 6, 3) := by decide +kernel
theorem d12066_94 : decode (jm_b 12066) 94 = .ok (.lload_n 1, 1) := by decide +kernel
theorem d12066_95 : decode (jm_b 12066) 95 = .ok (.lload_n 3, 1) := by decide +kernel
theorem d12066_96 : decode (jm_b 12066) 96 = .ok (.ldiv, 1) := by decide +kernel
theorem d12066_97 : decode (jm_b 12066) 97 = .ok (.lreturn, 1) := by decide +kernel
theorem d12066_98 : decode (jm_b 12066) 98 = .ok (.lload_n 3, 1) := by decide +kernel
theorem d12066_99 : decode (jm_b 12066) 99 = .ok (.lconst 0, 1) := by decide +kernel
theorem d12066_100 : decode (jm_b 12066) 100 = .ok (.lcmp, 1) := by decide +kernel
theorem d12066_101 : decode (jm_b 12066) 101 = .ok (.ifCond .ne 7, 3) := by decide +kernel
theorem d12066_104 : decode (jm_b 12066) 104 = .ok (.lconst 0, 1) := by decide +kernel
theorem d12066_105 : decode (jm_b 12066) 105 = .ok (.goto 6, 3) := by decide +kernel
theorem d12066_108 : decode (jm_b 12066) 108 = .ok (.lload_n 1, 1) := by decide +kernel
theorem d12066_109 : decode (jm_b 12066) 109 = .ok (.lload_n 3, 1) := by decide +kernel
theorem d12066_110 : decode (jm_b 12066) 110 = .ok (.lrem, 1) := by decide +kernel
theorem d12066_111 : decode (jm_b 12066) 111 = .ok (.lreturn, 1) := by decide +kernel
theorem d12066_112 : decode (jm_b 12066) 112 = .ok (.lload_n 1, 1) := by decide +kernel
theorem d12066_113 : decode (jm_b 12066) 113 = .ok (.lload_n 3, 1) := by decide +kernel
theorem d12066_114 : decode (jm_b 12066) 114 = .ok (.lcmp, 1) := by decide +kernel
theorem d12066_115 : decode (jm_b 12066) 115 = .ok (.ifCond .ge 7, 3) := by decide +kernel
theorem d12066_118 : decode (jm_b 12066) 118 = .ok (.iconst 1, 1) := by decide +kernel
theorem d12066_119 : decode (jm_b 12066) 119 = .ok (.goto 4, 3) := by decide +kernel
theorem d12066_122 : decode (jm_b 12066) 122 = .ok (.iconst 0, 1) := by decide +kernel
theorem d12066_123 : decode (jm_b 12066) 123 = .ok (.invokestatic 386, 3) := by decide +kernel
theorem d12066_126 : decode (jm_b 12066) 126 = .ok (.lreturn, 1) := by decide +kernel
theorem d12066_127 : decode (jm_b 12066) 127 = .ok (.lload_n 1, 1) := by decide +kernel
theorem d12066_128 : decode (jm_b 12066) 128 = .ok (.lload_n 3, 1) := by decide +kernel
theorem d12066_129 : decode (jm_b 12066) 129 = .ok (.lcmp, 1) := by decide +kernel
theorem d12066_130 : decode (jm_b 12066) 130 = .ok (.ifCond .gt 7, 3) := by decide +kernel
theorem d12066_133 : decode (jm_b 12066) 133 = .ok (.iconst 1, 1) := by decide +kernel
theorem d12066_134 : decode (jm_b 12066) 134 = .ok (.goto 4, 3) := by decide +kernel
theorem d12066_137 : decode (jm_b 12066) 137 = .ok (.iconst 0, 1) := by decide +kernel
theorem d12066_138 : decode (jm_b 12066) 138 = .ok (.invokestatic 386, 3) := by decide +kernel
theorem d12066_141 : decode (jm_b 12066) 141 = .ok (.lreturn, 1) := by decide +kernel
theorem d12066_142 : decode (jm_b 12066) 142 = .ok (.lload_n 1, 1) := by decide +kernel
theorem d12066_143 : decode (jm_b 12066) 143 = .ok (.lload_n 3, 1) := by decide +kernel
theorem d12066_144 : decode (jm_b 12066) 144 = .ok (.lcmp, 1) := by decide +kernel
theorem d12066_145 : decode (jm_b 12066) 145 = .ok (.ifCond .ne 7, 3) := by decide +kernel
theorem d12066_148 : decode (jm_b 12066) 148 = .ok (.iconst 1, 1) := by decide +kernel
theorem d12066_149 : decode (jm_b 12066) 149 = .ok (.goto 4, 3) := by decide +kernel
theorem d12066_152 : decode (jm_b 12066) 152 = .ok (.iconst 0, 1) := by decide +kernel
theorem d12066_153 : decode (jm_b 12066) 153 = .ok (.invokestatic 386, 3) := by decide +kernel
theorem d12066_156 : decode (jm_b 12066) 156 = .ok (.lreturn, 1) := by decide +kernel
theorem d12066_157 : decode (jm_b 12066) 157 = .ok (.lload_n 1, 1) := by decide +kernel
theorem d12066_158 : decode (jm_b 12066) 158 = .ok (.lload_n 3, 1) := by decide +kernel
theorem d12066_159 : decode (jm_b 12066) 159 = .ok (.lcmp, 1) := by decide +kernel
theorem d12066_160 : decode (jm_b 12066) 160 = .ok (.ifCond .lt 7, 3) := by decide +kernel
theorem d12066_163 : decode (jm_b 12066) 163 = .ok (.iconst 1, 1) := by decide +kernel
theorem d12066_164 : decode (jm_b 12066) 164 = .ok (.goto 4, 3) := by decide +kernel
theorem d12066_167 : decode (jm_b 12066) 167 = .ok (.iconst 0, 1) := by decide +kernel
theorem d12066_168 : decode (jm_b 12066) 168 = .ok (.invokestatic 386, 3) := by decide +kernel
theorem d12066_171 : decode (jm_b 12066) 171 = .ok (.lreturn, 1) := by decide +kernel
theorem d12066_172 : decode (jm_b 12066) 172 = .ok (.lload_n 1, 1) := by decide +kernel
theorem d12066_173 : decode (jm_b 12066) 173 = .ok (.lload_n 3, 1) := by decide +kernel
theorem d12066_174 : decode (jm_b 12066) 174 = .ok (.lcmp, 1) := by decide +kernel
theorem d12066_175 : decode (jm_b 12066) 175 = .ok (.ifCond .le 7, 3) := by decide +kernel
theorem d12066_178 : decode (jm_b 12066) 178 = .ok (.iconst 1, 1) := by decide +kernel
theorem d12066_179 : decode (jm_b 12066) 179 = .ok (.goto 4, 3) := by decide +kernel
theorem d12066_182 : decode (jm_b 12066) 182 = .ok (.iconst 0, 1) := by decide +kernel
theorem d12066_183 : decode (jm_b 12066) 183 = .ok (.invokestatic 386, 3) := by decide +kernel
theorem d12066_186 : decode (jm_b 12066) 186 = .ok (.lreturn, 1) := by decide +kernel
theorem d12066_187 : decode (jm_b 12066) 187 = .ok (.lload_n 1, 1) := by decide +kernel
theorem d12066_188 : decode (jm_b 12066) 188 = .ok (.lload_n 3, 1) := by decide +kernel
theorem d12066_189 : decode (jm_b 12066) 189 = .ok (.land, 1) := by decide +kernel
theorem d12066_190 : decode (jm_b 12066) 190 = .ok (.lreturn, 1) := by decide +kernel
theorem d12066_191 : decode (jm_b 12066) 191 = .ok (.lload_n 1, 1) := by decide +kernel
theorem d12066_192 : decode (jm_b 12066) 192 = .ok (.lload_n 3, 1) := by decide +kernel
theorem d12066_193 : decode (jm_b 12066) 193 = .ok (.lor, 1) := by decide +kernel
theorem d12066_194 : decode (jm_b 12066) 194 = .ok (.lreturn, 1) := by decide +kernel
