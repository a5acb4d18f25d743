/-! decode rows (by program) -/
theorem d12067_0 : decode (jm_b 12067) 0 = .ok (.iload_n 0, 1) := by decide +kernel
theorem d12067_1 : decode (jm_b 12067) 1 = .ok (.ifCond .eq 7, 3) := by decide +kernel
theorem d12067_4 : decode (jm_b 12067) 4 = .ok (.lconst 1, 1) := by decide +kernel
theorem d12067_5 : decode (jm_b 12067) 5 = .ok (.goto 4, 3) := by decide +kernel
theorem d12067_8 : decode (jm_b 12067) 8 = .ok (.lconst 0, 1) := by decide +kernel
theorem d12067_9 : decode (jm_b 12067) 9 = .ok (.lreturn, 1) := by decide +kernel
theorem d12068_0 : decode (jm_b 12068) 0 = .ok (.aload_n 0, 1) := by decide +kernel
theorem d12068_1 : decode (jm_b 12068) 1 = .ok (.getfield 13, 3) := by decide +kernel
theorem d12068_4 : decode (jm_b 12068) 4 = .ok (.iload_n 1, 1) := by decide +kernel
theorem d12068_5 : decode (jm_b 12068) 5 = .ok (.iaload, 1) := by decide +kernel
theorem d12068_6 : decode (jm_b 12068) 6 = .ok (.aload_n 0, 1) := by decide +kernel
theorem d12068_7 : decode (jm_b 12068) 7 = .ok (.getfield 13, 3) := by decide +kernel
theorem d12068_10 : decode (jm_b 12068) 10 = .ok (.iload_n 1, 1) := by decide +kernel
theorem d12068_11 : decode (jm_b 12068) 11 = .ok (.iconst 1, 1) := by decide +kernel
theorem d12068_12 : decode (jm_b 12068) 12 = .ok (.iadd, 1) := by decide +kernel
theorem d12068_13 : decode (jm_b 12068) 13 = .ok (.iaload, 1) := by decide +kernel
theorem d12068_14 : decode (jm_b 12068) 14 = .ok (.isub, 1) := by decide +kernel
theorem d12068_15 : decode (jm_b 12068) 15 = .ok (.istore_n 2, 1) := by decide +kernel
theorem d12068_16 : decode (jm_b 12068) 16 = .ok (.iload_n 2, 1) := by decide +kernel
theorem d12068_17 : decode (jm_b 12068) 17 = .ok (.i2l, 1) := by decide +kernel
theorem d12068_18 : decode (jm_b 12068) 18 = .ok (.ldc2_w 420, 3) := by decide +kernel
theorem d12068_21 : decode (jm_b 12068) 21 = .ok (.ldc2_w 422, 3) := by decide +kernel
theorem d12068_24 : decode (jm_b 12068) 24 = .ok (.invokestatic 170, 3) := by decide +kernel
theorem d12068_27 : decode (jm_b 12068) 27 = .ok (.ifCond .eq 4, 3) := by decide +kernel
theorem d12068_30 : decode (jm_b 12068) 30 = .ok (.return_, 1) := by decide +kernel
theorem d12068_31 : decode (jm_b 12068) 31 = .ok (.iload_n 2, 1) := by decide +kernel
theorem d12068_32 : decode (jm_b 12068) 32 = .ok (.ifCond .le 7, 3) := by decide +kernel
theorem d12068_35 : decode (jm_b 12068) 35 = .ok (.iconst 1, 1) := by decide +kernel
theorem d12068_36 : decode (jm_b 12068) 36 = .ok (.goto 4, 3) := by decide +kernel
theorem d12068_39 : decode (jm_b 12068) 39 = .ok (.iconst (-1), 1) := by decide +kernel
theorem d12068_40 : decode (jm_b 12068) 40 = .ok (.istore_n 3, 1) := by decide +kernel
theorem d12068_41 : decode (jm_b 12068) 41 = .ok (.aload_n 0, 1) := by decide +kernel
theorem d12068_42 : decode (jm_b 12068) 42 = .ok (.getfield 13, 3) := by decide +kernel
theorem d12068_45 : decode (jm_b 12068) 45 = .ok (.iload_n 1, 1) := by decide +kernel
theorem d12068_46 : decode (jm_b 12068) 46 = .ok (.dup2, 1) := by decide +kernel
theorem d12068_47 : decode (jm_b 12068) 47 = .ok (.iaload, 1) := by decide +kernel
theorem d12068_48 : decode (jm_b 12068) 48 = .ok (.aload_n 0, 1) := by decide +kernel
theorem d12068_49 : decode (jm_b 12068) 49 = .ok (.iload_n 1, 1) := by decide +kernel
theorem d12068_50 : decode (jm_b 12068) 50 = .ok (.invokevirtual 182, 3) := by decide +kernel
theorem d12068_53 : decode (jm_b 12068) 53 = .ok (.ifCond .eq 7, 3) := by decide +kernel
theorem d12068_56 : decode (jm_b 12068) 56 = .ok (.iconst 0, 1) := by decide +kernel
theorem d12068_57 : decode (jm_b 12068) 57 = .ok (.goto 4, 3) := by decide +kernel
theorem d12068_60 : decode (jm_b 12068) 60 = .ok (.iload_n 3, 1) := by decide +kernel
theorem d12068_61 : decode (jm_b 12068) 61 = .ok (.isub, 1) := by decide +kernel
theorem d12068_62 : decode (jm_b 12068) 62 = .ok (.iastore, 1) := by decide +kernel
theorem d12068_63 : decode (jm_b 12068) 63 = .ok (.aload_n 0, 1) := by decide +kernel
theorem d12068_64 : decode (jm_b 12068) 64 = .ok (.getfield 13, 3) := by decide +kernel
theorem d12068_67 : decode (jm_b 12068) 67 = .ok (.iload_n 1, 1) := by decide +kernel
theorem d12068_68 : decode (jm_b 12068) 68 = .ok (.iconst 1, 1) := by decide +kernel
theorem d12068_69 : decode (jm_b 12068) 69 = .ok (.iadd, 1) := by decide +kernel
theorem d12068_70 : decode (jm_b 12068) 70 = .ok (.dup2, 1) := by decide +kernel
theorem d12068_71 : decode (jm_b 12068) 71 = .ok (.iaload, 1) := by decide +kernel
theorem d12068_72 : decode (jm_b 12068) 72 = .ok (.aload_n 0, 1) := by decide +kernel
theorem d12068_73 : decode (jm_b 12068) 73 = .ok (.iload_n 1, 1) := by decide +kernel
theorem d12068_74 : decode (jm_b 12068) 74 = .ok (.iconst 1, 1) := by decide +kernel
theorem d12068_75 : decode (jm_b 12068) 75 = .ok (.iadd, 1) := by decide +kernel
theorem d12068_76 : decode (jm_b 12068) 76 = .ok (.invokevirtual 182, 3) := by decide +kernel
theorem d12068_79 : decode (jm_b 12068) 79 = .ok (.ifCond .eq 7, 3) := by decide +kernel
theorem d12068_82 : decode (jm_b 12068) 82 = .ok (.iconst 0, 1) := by decide +kernel
theorem d12068_83 : decode (jm_b 12068) 83 = .ok (.goto 4, 3) := by decide +kernel
theorem d12068_86 : decode (jm_b 12068) 86 = .ok (.iload_n 3, 1) := by decide +kernel
theorem d12068_87 : decode (jm_b 12068) 87 = .ok (.iadd, 1) := by decide +kernel
theorem d12068_88 : decode (jm_b 12068) 88 = .ok (.iastore, 1) := by decide +kernel
theorem d12068_89 : decode (jm_b 12068) 89 = .ok (.return_, 1) := by decide +kernel
theorem d12069_0 : decode (jm_b 12069) 0 = .ok (.iconst 0, 1) := by decide +kernel
theorem d12069_1 : decode (jm_b 12069) 1 = .ok (.istore_n 1, 1) := by decide +kernel
theorem d12069_2 : decode (jm_b 12069) 2 = .ok (.iconst 0, 1) := by decide +kernel
theorem d12069_3 : decode (jm_b 12069) 3 = .ok (.istore_n 2, 1) := by decide +kernel
theorem d12069_4 : decode (jm_b 12069) 4 = .ok (.iload_n 2, 1) := by decide +kernel
theorem d12069_5 : decode (jm_b 12069) 5 = .ok (.aload_n 0, 1) := by decide +kernel
theorem d12069_6 : decode (jm_b 12069) 6 = .ok (.getfield 9, 3) := by decide +kernel
theorem d12069_9 : decode (jm_b 12069) 9 = .ok (.iconst 2, 1) := by decide +kernel
theorem d12069_10 : decode (jm_b 12069) 10 = .ok (.iaload, 1) := by decide +kernel
theorem d12069_11 : decode (jm_b 12069) 11 = .ok (.if_icmp .ge 36, 3) := by decide +kernel
theorem d12069_14 : decode (jm_b 12069) 14 = .ok (.aload_n 0, 1) := by decide +kernel
theorem d12069_15 : decode (jm_b 12069) 15 = .ok (.iload_n 2, 1) := by decide +kernel
theorem d12069_16 : decode (jm_b 12069) 16 = .ok (.invokevirtual 394, 3) := by decide +kernel
theorem d12069_19 : decode (jm_b 12069) 19 = .ok (.aload_n 0, 1) := by decide +kernel
theorem d12069_20 : decode (jm_b 12069) 20 = .ok (.getfield 127, 3) := by decide +kernel
theorem d12069_23 : decode (jm_b 12069) 23 = .ok (.iload_n 2, 1) := by decide +kernel
theorem d12069_24 : decode (jm_b 12069) 24 = .ok (.iaload, 1) := by decide +kernel
theorem d12069_25 : decode (jm_b 12069) 25 = .ok (.if_icmp .eq 16, 3) := by decide +kernel
theorem d12069_28 : decode (jm_b 12069) 28 = .ok (.aload_n 0, 1) := by decide +kernel
theorem d12069_29 : decode (jm_b 12069) 29 = .ok (.getfield 34, 3) := by decide +kernel
theorem d12069_32 : decode (jm_b 12069) 32 = .ok (.iload_n 2, 1) := by decide +kernel
theorem d12069_33 : decode (jm_b 12069) 33 = .ok (.dup2, 1) := by decide +kernel
theorem d12069_34 : decode (jm_b 12069) 34 = .ok (.iaload, 1) := by decide +kernel
theorem d12069_35 : decode (jm_b 12069) 35 = .ok (.iconst 1, 1) := by decide +kernel
theorem d12069_36 : decode (jm_b 12069) 36 = .ok (.iadd, 1) := by decide +kernel
theorem d12069_37 : decode (jm_b 12069) 37 = .ok (.iastore, 1) := by decide +kernel
theorem d12069_38 : decode (jm_b 12069) 38 = .ok (.iinc 1 1, 3) := by decide +kernel
theorem d12069_41 : decode (jm_b 12069) 41 = .ok (.iinc 2 1, 3) := by decide +kernel
theorem d12069_44 : decode (jm_b 12069) 44 = .ok (.goto (-40), 3) := by decide +kernel
theorem d12069_47 : decode (jm_b 12069) 47 = .ok (.iload_n 1, 1) := by decide +kernel
theorem d12069_48 : decode (jm_b 12069) 48 = .ok (.ireturn, 1) := by decide +kernel
theorem d12070_0 : decode (jm_b 12070) 0 = .ok (.aload_n 0, 1) := by decide +kernel
theorem d12070_1 : decode (jm_b 12070) 1 = .ok (.iload_n 1, 1) := by decide +kernel
theorem d12070_2 : decode (jm_b 12070) 2 = .ok (.invokevirtual 463, 3) := by decide +kernel
theorem d12070_5 : decode (jm_b 12070) 5 = .ok (.ifCond .eq 21, 3) := by decide +kernel
theorem d12070_8 : decode (jm_b 12070) 8 = .ok (.iload_n 2, 1) := by decide +kernel
theorem d12070_9 : decode (jm_b 12070) 9 = .ok (.i2l, 1) := by decide +kernel
theorem d12070_10 : decode (jm_b 12070) 10 = .ok (.ldc2_w 466, 3) := by decide +kernel
theorem d12070_13 : decode (jm_b 12070) 13 = .ok (.ldc2_w 468, 3) := by decide +kernel
theorem d12070_16 : decode (jm_b 12070) 16 = .ok (.invokestatic 170, 3) := by decide +kernel
theorem d12070_19 : decode (jm_b 12070) 19 = .ok (.ifCond .eq 7, 3) := by decide +kernel
theorem d12070_22 : decode (jm_b 12070) 22 = .ok (.iload_n 2, 1) := by decide +kernel
theorem d12070_23 : decode (jm_b 12070) 23 = .ok (.ifCond .ne 6, 3) := by decide +kernel
theorem d12070_26 : decode (jm_b 12070) 26 = .ok (.bipush (-100), 2) := by decide +kernel
theorem d12070_28 : decode (jm_b 12070) 28 = .ok (.ireturn, 1) := by decide +kernel
theorem d12070_29 : decode (jm_b 12070) 29 = .ok (.aload_n 0, 1) := by decide +kernel
theorem d12070_30 : decode (jm_b 12070) 30 = .ok (.invokevirtual 460, 3) := by decide +kernel
theorem d12070_33 : decode (jm_b 12070) 33 = .ok (.aload_n 0, 1) := by decide +kernel
theorem d12070_34 : decode (jm_b 12070) 34 = .ok (.invokevirtual 424, 3) := by decide +kernel
theorem d12070_37 : decode (jm_b 12070) 37 = .ok (.aload_n 0, 1) := by decide +kernel
theorem d12070_38 : decode (jm_b 12070) 38 = .ok (.iload_n 1, 1) := by decide +kernel
theorem d12070_39 : decode (jm_b 12070) 39 = .ok (.iload_n 2, 1) := by decide +kernel
theorem d12070_40 : decode (jm_b 12070) 40 = .ok (.invokevirtual 470, 3) := by decide +kernel
theorem d12070_43 : decode (jm_b 12070) 43 = .ok (.aload_n 0, 1) := by decide +kernel
theorem d12070_44 : decode (jm_b 12070) 44 = .ok (.invokevirtual 433, 3) := by decide +kernel
theorem d12070_47 : decode (jm_b 12070) 47 = .ok (.pop, 1) := by decide +kernel
theorem d12070_48 : decode (jm_b 12070) 48 = .ok (.aload_n 0, 1) := by decide +kernel
theorem d12070_49 : decode (jm_b 12070) 49 = .ok (.getfield 13, 3) := by decide +kernel
theorem d12070_52 : decode (jm_b 12070) 52 = .ok (.iload_n 1, 1) := by decide +kernel
theorem d12070_53 : decode (jm_b 12070) 53 = .ok (.iaload, 1) := by decide +kernel
theorem d12070_54 : decode (jm_b 12070) 54 = .ok (.ireturn, 1) := by decide +kernel
theorem d12071_0 : decode (jm_b 12071) 0 = .ok (.aload_n 0, 1) := by decide +kernel
theorem d12071_1 : decode (jm_b 12071) 1 = .ok (.iload_n 1, 1) := by decide +kernel
theorem d12071_2 : decode (jm_b 12071) 2 = .ok (.invokevirtual 178, 3) := by decide +kernel
theorem d12071_5 : decode (jm_b 12071) 5 = .ok (.ifCond .eq 15, 3) := by decide +kernel
theorem d12071_8 : decode (jm_b 12071) 8 = .ok (.aload_n 0, 1) := by decide +kernel
theorem d12071_9 : decode (jm_b 12071) 9 = .ok (.iload_n 1, 1) := by decide +kernel
theorem d12071_10 : decode (jm_b 12071) 10 = .ok (.invokevirtual 182, 3) := by decide +kernel
theorem d12071_13 : decode (jm_b 12071) 13 = .ok (.ifCond .ne 7, 3) := by decide +kernel
theorem d12071_16 : decode (jm_b 12071) 16 = .ok (.iconst 1, 1) := by decide +kernel
theorem d12071_17 : decode (jm_b 12071) 17 = .ok (.goto 4, 3) := by decide +kernel
theorem d12071_20 : decode (jm_b 12071) 20 = .ok (.iconst 0, 1) := by decide +kernel
theorem d12071_21 : decode (jm_b 12071) 21 = .ok (.ireturn, 1) := by decide +kernel
theorem d12072_0 : decode (jm_b 12072) 0 = .ok (.aload_n 0, 1) := by decide +kernel
theorem d12072_1 : decode (jm_b 12072) 1 = .ok (.getfield 13, 3) := by decide +kernel
theorem d12072_4 : decode (jm_b 12072) 4 = .ok (.iload_n 1, 1) := by decide +kernel
theorem d12072_5 : decode (jm_b 12072) 5 = .ok (.aload_n 0, 1) := by decide +kernel
theorem d12072_6 : decode (jm_b 12072) 6 = .ok (.getfield 13, 3) := by decide +kernel
theorem d12072_9 : decode (jm_b 12072) 9 = .ok (.iload_n 1, 1) := by decide +kernel
theorem d12072_10 : decode (jm_b 12072) 10 = .ok (.iaload, 1) := by decide +kernel
theorem d12072_11 : decode (jm_b 12072) 11 = .ok (.iload_n 2, 1) := by decide +kernel
theorem d12072_12 : decode (jm_b 12072) 12 = .ok (.iadd, 1) := by decide +kernel
theorem d12072_13 : decode (jm_b 12072) 13 = .ok (.i2l, 1) := by decide +kernel
theorem d12072_14 : decode (jm_b 12072) 14 = .ok (.bipush 20, 2) := by decide +kernel
theorem d12072_16 : decode (jm_b 12072) 16 = .ok (.invokestatic 406, 3) := by decide +kernel
theorem d12072_19 : decode (jm_b 12072) 19 = .ok (.iastore, 1) := by decide +kernel
theorem d12072_20 : decode (jm_b 12072) 20 = .ok (.return_, 1) := by decide +kernel
theorem d12073_0 : decode (jm_b 12073) 0 = .ok (.aload_n 0, 1) := by decide +kernel
theorem d12073_1 : decode (jm_b 12073) 1 = .ok (.iload_n 1, 1) := by decide +kernel
theorem d12073_2 : decode (jm_b 12073) 2 = .ok (.invokevirtual 178, 3) := by decide +kernel
theorem d12073_5 : decode (jm_b 12073) 5 = .ok (.ifCond .eq 14, 3) := by decide +kernel
theorem d12073_8 : decode (jm_b 12073) 8 = .ok (.aload_n 0, 1) := by decide +kernel
theorem d12073_9 : decode (jm_b 12073) 9 = .ok (.getfield 19, 3) := by decide +kernel
theorem d12073_12 : decode (jm_b 12073) 12 = .ok (.iload_n 1, 1) := by decide +kernel
theorem d12073_13 : decode (jm_b 12073) 13 = .ok (.iaload, 1) := by decide +kernel
theorem d12073_14 : decode (jm_b 12073) 14 = .ok (.bipush 9, 2) := by decide +kernel
theorem d12073_16 : decode (jm_b 12073) 16 = .ok (.if_icmp .ne 5, 3) := by decide +kernel
theorem d12073_19 : decode (jm_b 12073) 19 = .ok (.iconst (-1), 1) := by decide +kernel
theorem d12073_20 : decode (jm_b 12073) 20 = .ok (.ireturn, 1) := by decide +kernel
theorem d12073_21 : decode (jm_b 12073) 21 = .ok (.aload_n 0, 1) := by decide +kernel
theorem d12073_22 : decode (jm_b 12073) 22 = .ok (.invokevirtual 460, 3) := by decide +kernel
theorem d12073_25 : decode (jm_b 12073) 25 = .ok (.aload_n 0, 1) := by decide +kernel
theorem d12073_26 : decode (jm_b 12073) 26 = .ok (.getfield 19, 3) := by decide +kernel
theorem d12073_29 : decode (jm_b 12073) 29 = .ok (.iload_n 1, 1) := by decide +kernel
theorem d12073_30 : decode (jm_b 12073) 30 = .ok (.dup2, 1) := by decide +kernel
theorem d12073_31 : decode (jm_b 12073) 31 = .ok (.iaload, 1) := by decide +kernel
theorem d12073_32 : decode (jm_b 12073) 32 = .ok (.iconst 1, 1) := by decide +kernel
theorem d12073_33 : decode (jm_b 12073) 33 = .ok (.iadd, 1) := by decide +kernel
theorem d12073_34 : decode (jm_b 12073) 34 = .ok (.iastore, 1) := by decide +kernel
theorem d12073_35 : decode (jm_b 12073) 35 = .ok (.aload_n 0, 1) := by decide +kernel
theorem d12073_36 : decode (jm_b 12073) 36 = .ok (.getfield 19, 3) := by decide +kernel
theorem d12073_39 : decode (jm_b 12073) 39 = .ok (.iload_n 1, 1) := by decide +kernel
theorem d12073_40 : decode (jm_b 12073) 40 = .ok (.iaload, 1) := by decide +kernel
theorem d12073_41 : decode (jm_b 12073) 41 = .ok (.ireturn, 1) := by decide +kernel
theorem d12074_0 : decode (jm_b 12074) 0 = .ok (.aload_n 0, 1) := by decide +kernel
theorem d12074_1 : decode (jm_b 12074) 1 = .ok (.iload_n 1, 1) := by decide +kernel
theorem d12074_2 : decode (jm_b 12074) 2 = .ok (.invokevirtual 463, 3) := by decide +kernel
theorem d12074_5 : decode (jm_b 12074) 5 = .ok (.ifCond .ne 5, 3) := by decide +kernel
theorem d12074_8 : decode (jm_b 12074) 8 = .ok (.iconst (-1), 1) := by decide +kernel
theorem d12074_9 : decode (jm_b 12074) 9 = .ok (.ireturn, 1) := by decide +kernel
theorem d12074_10 : decode (jm_b 12074) 10 = .ok (.aload_n 0, 1) := by decide +kernel
theorem d12074_11 : decode (jm_b 12074) 11 = .ok (.invokevirtual 460, 3) := by decide +kernel
theorem d12074_14 : decode (jm_b 12074) 14 = .ok (.aload_n 0, 1) := by decide +kernel
theorem d12074_15 : decode (jm_b 12074) 15 = .ok (.getfield 19, 3) := by decide +kernel
theorem d12074_18 : decode (jm_b 12074) 18 = .ok (.iload_n 1, 1) := by decide +kernel
theorem d12074_19 : decode (jm_b 12074) 19 = .ok (.aload_n 0, 1) := by decide +kernel
theorem d12074_20 : decode (jm_b 12074) 20 = .ok (.getfield 19, 3) := by decide +kernel
theorem d12074_23 : decode (jm_b 12074) 23 = .ok (.iload_n 1, 1) := by decide +kernel
theorem d12074_24 : decode (jm_b 12074) 24 = .ok (.iaload, 1) := by decide +kernel
theorem d12074_25 : decode (jm_b 12074) 25 = .ok (.ifCond .le 14, 3) := by decide +kernel
theorem d12074_28 : decode (jm_b 12074) 28 = .ok (.aload_n 0, 1) := by decide +kernel
theorem d12074_29 : decode (jm_b 12074) 29 = .ok (.getfield 19, 3) := by decide +kernel
theorem d12074_32 : decode (jm_b 12074) 32 = .ok (.iload_n 1, 1) := by decide +kernel
theorem d12074_33 : decode (jm_b 12074) 33 = .ok (.iaload, 1) := by decide +kernel
theorem d12074_34 : decode (jm_b 12074) 34 = .ok (.iconst 1, 1) := by decide +kernel
theorem d12074_35 : decode (jm_b 12074) 35 = .ok (.isub, 1) := by decide +kernel
theorem d12074_36 : decode (jm_b 12074) 36 = .ok (.goto 4, 3) := by decide +kernel
theorem d12074_39 : decode (jm_b 12074) 39 = .ok (.iconst 0, 1) := by decide +kernel
theorem d12074_40 : decode (jm_b 12074) 40 = .ok (.iastore, 1) := by decide +kernel
theorem d12074_41 : decode (jm_b 12074) 41 = .ok (.aload_n 0, 1) := by decide +kernel
theorem d12074_42 : decode (jm_b 12074) 42 = .ok (.getfield 16, 3) := by decide +kernel
theorem d12074_45 : decode (jm_b 12074) 45 = .ok (.iload_n 1, 1) := by decide +kernel
theorem d12074_46 : decode (jm_b 12074) 46 = .ok (.aload_n 0, 1) := by decide +kernel
theorem d12074_47 : decode (jm_b 12074) 47 = .ok (.getfield 16, 3) := by decide +kernel
theorem d12074_50 : decode (jm_b 12074) 50 = .ok (.iload_n 1, 1) := by decide +kernel
theorem d12074_51 : decode (jm_b 12074) 51 = .ok (.iaload, 1) := by decide +kernel
theorem d12074_52 : decode (jm_b 12074) 52 = .ok (.bipush 10, 2) := by decide +kernel
theorem d12074_54 : decode (jm_b 12074) 54 = .ok (.iadd, 1) := by decide +kernel
theorem d12074_55 : decode (jm_b 12074) 55 = .ok (.bipush 99, 2) := by decide +kernel
theorem d12074_57 : decode (jm_b 12074) 57 = .ok (.if_icmp .le 8, 3) := by decide +kernel
theorem d12074_60 : decode (jm_b 12074) 60 = .ok (.bipush 99, 2) := by decide +kernel
theorem d12074_62 : decode (jm_b 12074) 62 = .ok (.goto 12, 3) := by decide +kernel
theorem d12074_65 : decode (jm_b 12074) 65 = .ok (.aload_n 0, 1) := by decide +kernel
theorem d12074_66 : decode (jm_b 12074) 66 = .ok (.getfield 16, 3) := by decide +kernel
theorem d12074_69 : decode (jm_b 12074) 69 = .ok (.iload_n 1, 1) := by decide +kernel
theorem d12074_70 : decode (jm_b 12074) 70 = .ok (.iaload, 1) := by decide +kernel
theorem d12074_71 : decode (jm_b 12074) 71 = .ok (.bipush 10, 2) := by decide +kernel
theorem d12074_73 : decode (jm_b 12074) 73 = .ok (.iadd, 1) := by decide +kernel
theorem d12074_74 : decode (jm_b 12074) 74 = .ok (.iastore, 1) := by decide +kernel
theorem d12074_75 : decode (jm_b 12074) 75 = .ok (.aload_n 0, 1) := by decide +kernel
theorem d12074_76 : decode (jm_b 12074) 76 = .ok (.getfield 16, 3) := by decide +kernel
theorem d12074_79 : decode (jm_b 12074) 79 = .ok (.iload_n 1, 1) := by decide +kernel
theorem d12074_80 : decode (jm_b 12074) 80 = .ok (.iaload, 1) := by decide +kernel
theorem d12074_81 : decode (jm_b 12074) 81 = .ok (.ireturn, 1) := by decide +kernel
theorem d12075_0 : decode (jm_b 12075) 0 = .ok (.aload_n 0, 1) := by decide +kernel
theorem d12075_1 : decode (jm_b 12075) 1 = .ok (.iload_n 1, 1) := by decide +kernel
theorem d12075_2 : decode (jm_b 12075) 2 = .ok (.invokevirtual 463, 3) := by decide +kernel
theorem d12075_5 : decode (jm_b 12075) 5 = .ok (.ifCond .eq 25, 3) := by decide +kernel
theorem d12075_8 : decode (jm_b 12075) 8 = .ok (.iload_n 2, 1) := by decide +kernel
theorem d12075_9 : decode (jm_b 12075) 9 = .ok (.i2l, 1) := by decide +kernel
theorem d12075_10 : decode (jm_b 12075) 10 = .ok (.lconst 1, 1) := by decide +kernel
theorem d12075_11 : decode (jm_b 12075) 11 = .ok (.ldc2_w 473, 3) := by decide +kernel
theorem d12075_14 : decode (jm_b 12075) 14 = .ok (.invokestatic 170, 3) := by decide +kernel
theorem d12075_17 : decode (jm_b 12075) 17 = .ok (.ifCond .eq 13, 3) := by decide +kernel
theorem d12075_20 : decode (jm_b 12075) 20 = .ok (.aload_n 0, 1) := by decide +kernel
theorem d12075_21 : decode (jm_b 12075) 21 = .ok (.getfield 16, 3) := by decide +kernel
theorem d12075_24 : decode (jm_b 12075) 24 = .ok (.iload_n 1, 1) := by decide +kernel
theorem d12075_25 : decode (jm_b 12075) 25 = .ok (.iaload, 1) := by decide +kernel
theorem d12075_26 : decode (jm_b 12075) 26 = .ok (.iload_n 2, 1) := by decide +kernel
theorem d12075_27 : decode (jm_b 12075) 27 = .ok (.if_icmp .ge 5, 3) := by decide +kernel
theorem d12075_30 : decode (jm_b 12075) 30 = .ok (.iconst (-1), 1) := by decide +kernel
theorem d12075_31 : decode (jm_b 12075) 31 = .ok (.ireturn, 1) := by decide +kernel
theorem d12075_32 : decode (jm_b 12075) 32 = .ok (.aload_n 0, 1) := by decide +kernel
theorem d12075_33 : decode (jm_b 12075) 33 = .ok (.invokevirtual 460, 3) := by decide +kernel
theorem d12075_36 : decode (jm_b 12075) 36 = .ok (.aload_n 0, 1) := by decide +kernel
theorem d12075_37 : decode (jm_b 12075) 37 = .ok (.getfield 16, 3) := by decide +kernel
theorem d12075_40 : decode (jm_b 12075) 40 = .ok (.iload_n 1, 1) := by decide +kernel
theorem d12075_41 : decode (jm_b 12075) 41 = .ok (.dup2, 1) := by decide +kernel
theorem d12075_42 : decode (jm_b 12075) 42 = .ok (.iaload, 1) := by decide +kernel
theorem d12075_43 : decode (jm_b 12075) 43 = .ok (.iload_n 2, 1) := by decide +kernel
theorem d12075_44 : decode (jm_b 12075) 44 = .ok (.isub, 1) := by decide +kernel
theorem d12075_45 : decode (jm_b 12075) 45 = .ok (.iastore, 1) := by decide +kernel
theorem d12075_46 : decode (jm_b 12075) 46 = .ok (.aload_n 0, 1) := by decide +kernel
theorem d12075_47 : decode (jm_b 12075) 47 = .ok (.getfield 16, 3) := by decide +kernel
theorem d12075_50 : decode (jm_b 12075) 50 = .ok (.iload_n 1, 1) := by decide +kernel
theorem d12075_51 : decode (jm_b 12075) 51 = .ok (.iaload, 1) := by decide +kernel
theorem d12075_52 : decode (jm_b 12075) 52 = .ok (.ireturn, 1) := by decide +kernel
theorem d12076_0 : decode (jm_b 12076) 0 = .ok (.aload_n 0, 1) := by decide +kernel
theorem d12076_1 : decode (jm_b 12076) 1 = .ok (.iload_n 1, 1) := by decide +kernel
theorem d12076_2 : decode (jm_b 12076) 2 = .ok (.invokevirtual 463, 3) := by decide +kernel
theorem d12076_5 : decode (jm_b 12076) 5 = .ok (.ifCond .ne 5, 3) := by decide +kernel
theorem d12076_8 : decode (jm_b 12076) 8 = .ok (.iconst 0, 1) := by decide +kernel
theorem d12076_9 : decode (jm_b 12076) 9 = .ok (.ireturn, 1) := by decide +kernel
theorem d12076_10 : decode (jm_b 12076) 10 = .ok (.aload_n 0, 1) := by decide +kernel
theorem d12076_11 : decode (jm_b 12076) 11 = .ok (.invokevirtual 460, 3) := by decide +kernel
theorem d12076_14 : decode (jm_b 12076) 14 = .ok (.aload_n 0, 1) := by decide +kernel
theorem d12076_15 : decode (jm_b 12076) 15 = .ok (.getfield 9, 3) := by decide +kernel
theorem d12076_18 : decode (jm_b 12076) 18 = .ok (.iconst 4, 1) := by decide +kernel
theorem d12076_19 : decode (jm_b 12076) 19 = .ok (.dup2, 1) := by decide +kernel
theorem d12076_20 : decode (jm_b 12076) 20 = .ok (.iaload, 1) := by decide +kernel
theorem d12076_21 : decode (jm_b 12076) 21 = .ok (.iconst 1, 1) := by decide +kernel
theorem d12076_22 : decode (jm_b 12076) 22 = .ok (.iload_n 1, 1) := by decide +kernel
theorem d12076_23 : decode (jm_b 12076) 23 = .ok (.ishl, 1) := by decide +kernel
theorem d12076_24 : decode (jm_b 12076) 24 = .ok (.ior, 1) := by decide +kernel
theorem d12076_25 : decode (jm_b 12076) 25 = .ok (.iastore, 1) := by decide +kernel
theorem d12076_26 : decode (jm_b 12076) 26 = .ok (.iconst 1, 1) := by decide +kernel
theorem d12076_27 : decode (jm_b 12076) 27 = .ok (.ireturn, 1) := by decide +kernel
theorem d12077_0 : decode (jm_b 12077) 0 = .ok (.aload_n 0, 1) := by decide +kernel
theorem d12077_1 : decode (jm_b 12077) 1 = .ok (.iload_n 1, 1) := by decide +kernel
theorem d12077_2 : decode (jm_b 12077) 2 = .ok (.invokevirtual 178, 3) := by decide +kernel
theorem d12077_5 : decode (jm_b 12077) 5 = .ok (.ifCond .eq 27, 3) := by decide +kernel
theorem d12077_8 : decode (jm_b 12077) 8 = .ok (.iload_n 2, 1) := by decide +kernel
theorem d12077_9 : decode (jm_b 12077) 9 = .ok (.i2l, 1) := by decide +kernel
theorem d12077_10 : decode (jm_b 12077) 10 = .ok (.lconst 0, 1) := by decide +kernel
theorem d12077_11 : decode (jm_b 12077) 11 = .ok (.ldc2_w 478, 3) := by decide +kernel
theorem d12077_14 : decode (jm_b 12077) 14 = .ok (.invokestatic 170, 3) := by decide +kernel
theorem d12077_17 : decode (jm_b 12077) 17 = .ok (.ifCond .eq 15, 3) := by decide +kernel
theorem d12077_20 : decode (jm_b 12077) 20 = .ok (.iload_n 3, 1) := by decide +kernel
theorem d12077_21 : decode (jm_b 12077) 21 = .ok (.i2l, 1) := by decide +kernel
theorem d12077_22 : decode (jm_b 12077) 22 = .ok (.lconst 0, 1) := by decide +kernel
theorem d12077_23 : decode (jm_b 12077) 23 = .ok (.ldc2_w 480, 3) := by decide +kernel
theorem d12077_26 : decode (jm_b 12077) 26 = .ok (.invokestatic 170, 3) := by decide +kernel
theorem d12077_29 : decode (jm_b 12077) 29 = .ok (.ifCond .ne 6, 3) := by decide +kernel
theorem d12077_32 : decode (jm_b 12077) 32 = .ok (.bipush (-100), 2) := by decide +kernel
theorem d12077_34 : decode (jm_b 12077) 34 = .ok (.ireturn, 1) := by decide +kernel
theorem d12077_35 : decode (jm_b 12077) 35 = .ok (.aload_n 0, 1) := by decide +kernel
theorem d12077_36 : decode (jm_b 12077) 36 = .ok (.invokevirtual 482, 3) := by decide +kernel
theorem d12077_39 : decode (jm_b 12077) 39 = .ok (.aload_n 0, 1) := by decide +kernel
theorem d12077_40 : decode (jm_b 12077) 40 = .ok (.iload_n 2, 1) := by decide +kernel
theorem d12077_41 : decode (jm_b 12077) 41 = .ok (.invokevirtual 485, 3) := by decide +kernel
theorem d12077_44 : decode (jm_b 12077) 44 = .ok (.pop, 1) := by decide +kernel
theorem d12077_45 : decode (jm_b 12077) 45 = .ok (.iload_n 3, 1) := by decide +kernel
theorem d12077_46 : decode (jm_b 12077) 46 = .ok (.ifCond .ne 12, 3) := by decide +kernel
theorem d12077_49 : decode (jm_b 12077) 49 = .ok (.aload_n 0, 1) := by decide +kernel
theorem d12077_50 : decode (jm_b 12077) 50 = .ok (.getfield 13, 3) := by decide +kernel
theorem d12077_53 : decode (jm_b 12077) 53 = .ok (.iload_n 1, 1) := by decide +kernel
theorem d12077_54 : decode (jm_b 12077) 54 = .ok (.iaload, 1) := by decide +kernel
theorem d12077_55 : decode (jm_b 12077) 55 = .ok (.goto 22, 3) := by decide +kernel
theorem d12077_58 : decode (jm_b 12077) 58 = .ok (.iload_n 3, 1) := by decide +kernel
theorem d12077_59 : decode (jm_b 12077) 59 = .ok (.iconst 1, 1) := by decide +kernel
theorem d12077_60 : decode (jm_b 12077) 60 = .ok (.if_icmp .ne 12, 3) := by decide +kernel
theorem d12077_63 : decode (jm_b 12077) 63 = .ok (.aload_n 0, 1) := by decide +kernel
theorem d12077_64 : decode (jm_b 12077) 64 = .ok (.getfield 16, 3) := by decide +kernel
theorem d12077_67 : decode (jm_b 12077) 67 = .ok (.iload_n 1, 1) := by decide +kernel
theorem d12077_68 : decode (jm_b 12077) 68 = .ok (.iaload, 1) := by decide +kernel
theorem d12077_69 : decode (jm_b 12077) 69 = .ok (.goto 8, 3) := by decide +kernel
theorem d12077_72 : decode (jm_b 12077) 72 = .ok (.aload_n 0, 1) := by decide +kernel
theorem d12077_73 : decode (jm_b 12077) 73 = .ok (.iconst 1, 1) := by decide +kernel
theorem d12077_74 : decode (jm_b 12077) 74 = .ok (.invokevirtual 488, 3) := by decide +kernel
theorem d12077_77 : decode (jm_b 12077) 77 = .ok (.istore 4, 2) := by decide +kernel
theorem d12077_79 : decode (jm_b 12077) 79 = .ok (.aload_n 0, 1) := by decide +kernel
theorem d12077_80 : decode (jm_b 12077) 80 = .ok (.invokevirtual 491, 3) := by decide +kernel
theorem d12077_83 : decode (jm_b 12077) 83 = .ok (.iload 4, 2) := by decide +kernel
theorem d12077_85 : decode (jm_b 12077) 85 = .ok (.ireturn, 1) := by decide +kernel
theorem d12078_0 : decode (jm_b 12078) 0 = .ok (.aload_n 0, 1) := by decide +kernel
theorem d12078_1 : decode (jm_b 12078) 1 = .ok (.iconst 4, 1) := by decide +kernel
theorem d12078_2 : decode (jm_b 12078) 2 = .ok (.iconst 0, 1) := by decide +kernel
theorem d12078_3 : decode (jm_b 12078) 3 = .ok (.invokevirtual 475, 3) := by decide +kernel
theorem d12078_6 : decode (jm_b 12078) 6 = .ok (.return_, 1) := by decide +kernel
theorem d12079_0 : decode (jm_b 12079) 0 = .ok (.aload_n 0, 1) := by decide +kernel
theorem d12079_1 : decode (jm_b 12079) 1 = .ok (.sipush 1100, 3) := by decide +kernel
theorem d12079_4 : decode (jm_b 12079) 4 = .ok (.iload_n 1, 1) := by decide +kernel
theorem d12079_5 : decode (jm_b 12079) 5 = .ok (.imul, 1) := by decide +kernel
theorem d12079_6 : decode (jm_b 12079) 6 = .ok (.putfield 567, 3) := by decide +kernel
theorem d12079_9 : decode (jm_b 12079) 9 = .ok (.aload_n 0, 1) := by decide +kernel
theorem d12079_10 : decode (jm_b 12079) 10 = .ok (.iload_n 2, 1) := by decide +kernel
theorem d12079_11 : decode (jm_b 12079) 11 = .ok (.putfield 564, 3) := by decide +kernel
theorem d12079_14 : decode (jm_b 12079) 14 = .ok (.aload_n 0, 1) := by decide +kernel
theorem d12079_15 : decode (jm_b 12079) 15 = .ok (.aload_n 0, 1) := by decide +kernel
theorem d12079_16 : decode (jm_b 12079) 16 = .ok (.getfield 9, 3) := by decide +kernel
theorem d12079_19 : decode (jm_b 12079) 19 = .ok (.invokevirtual 570, 3) := by decide +kernel
theorem d12079_22 : decode (jm_b 12079) 22 = .ok (.aload_n 0, 1) := by decide +kernel
theorem d12079_23 : decode (jm_b 12079) 23 = .ok (.aload_n 0, 1) := by decide +kernel
theorem d12079_24 : decode (jm_b 12079) 24 = .ok (.getfield 13, 3) := by decide +kernel
theorem d12079_27 : decode (jm_b 12079) 27 = .ok (.invokevirtual 570, 3) := by decide +kernel
theorem d12079_30 : decode (jm_b 12079) 30 = .ok (.aload_n 0, 1) := by decide +kernel
theorem d12079_31 : decode (jm_b 12079) 31 = .ok (.aload_n 0, 1) := by decide +kernel
theorem d12079_32 : decode (jm_b 12079) 32 = .ok (.getfield 16, 3) := by decide +kernel
theorem d12079_35 : decode (jm_b 12079) 35 = .ok (.invokevirtual 570, 3) := by decide +kernel
theorem d12079_38 : decode (jm_b 12079) 38 = .ok (.aload_n 0, 1) := by decide +kernel
theorem d12079_39 : decode (jm_b 12079) 39 = .ok (.aload_n 0, 1) := by decide +kernel
theorem d12079_40 : decode (jm_b 12079) 40 = .ok (.getfield 19, 3) := by decide +kernel
theorem d12079_43 : decode (jm_b 12079) 43 = .ok (.invokevirtual 570, 3) := by decide +kernel
theorem d12079_46 : decode (jm_b 12079) 46 = .ok (.aload_n 0, 1) := by decide +kernel
theorem d12079_47 : decode (jm_b 12079) 47 = .ok (.aload_n 0, 1) := by decide +kernel
theorem d12079_48 : decode (jm_b 12079) 48 = .ok (.getfield 34, 3) := by decide +kernel
theorem d12079_51 : decode (jm_b 12079) 51 = .ok (.invokevirtual 570, 3) := by decide +kernel
theorem d12079_54 : decode (jm_b 12079) 54 = .ok (.iload_n 1, 1) := by decide +kernel
theorem d12079_55 : decode (jm_b 12079) 55 = .ok (.iconst 4, 1) := by decide +kernel
theorem d12079_56 : decode (jm_b 12079) 56 = .ok (.if_icmp .ne 4, 3) := by decide +kernel
theorem d12079_59 : decode (jm_b 12079) 59 = .ok (.return_, 1) := by decide +kernel
theorem d12079_60 : decode (jm_b 12079) 60 = .ok (.aload_n 0, 1) := by decide +kernel
theorem d12079_61 : decode (jm_b 12079) 61 = .ok (.getfield 133, 3) := by decide +kernel
theorem d12079_64 : decode (jm_b 12079) 64 = .ok (.iconst 0, 1) := by decide +kernel
theorem d12079_65 : decode (jm_b 12079) 65 = .ok (.aload_n 0, 1) := by decide +kernel
theorem d12079_66 : decode (jm_b 12079) 66 = .ok (.getfield 361, 3) := by decide +kernel
theorem d12079_69 : decode (jm_b 12079) 69 = .ok (.iastore, 1) := by decide +kernel
theorem d12079_70 : decode (jm_b 12079) 70 = .ok (.aload_n 0, 1) := by decide +kernel
theorem d12079_71 : decode (jm_b 12079) 71 = .ok (.aload_n 0, 1) := by decide +kernel
theorem d12079_72 : decode (jm_b 12079) 72 = .ok (.getfield 133, 3) := by decide +kernel
theorem d12079_75 : decode (jm_b 12079) 75 = .ok (.invokevirtual 570, 3) := by decide +kernel
theorem d12079_78 : decode (jm_b 12079) 78 = .ok (.aload_n 0, 1) := by decide +kernel
theorem d12079_79 : decode (jm_b 12079) 79 = .ok (.aload_n 0, 1) := by decide +kernel
theorem d12079_80 : decode (jm_b 12079) 80 = .ok (.getfield 133, 3) := by decide +kernel
theorem d12079_83 : decode (jm_b 12079) 83 = .ok (.iconst 0, 1) := by decide +kernel
theorem d12079_84 : decode (jm_b 12079) 84 = .ok (.iaload, 1) := by decide +kernel
theorem d12079_85 : decode (jm_b 12079) 85 = .ok (.putfield 361, 3) := by decide +kernel
theorem d12079_88 : decode (jm_b 12079) 88 = .ok (.aload_n 0, 1) := by decide +kernel
theorem d12079_89 : decode (jm_b 12079) 89 = .ok (.aload_n 0, 1) := by decide +kernel
theorem d12079_90 : decode (jm_b 12079) 90 = .ok (.getfield 22, 3) := by decide +kernel
theorem d12079_93 : decode (jm_b 12079) 93 = .ok (.invokevirtual 570, 3) := by decide +kernel
theorem d12079_96 : decode (jm_b 12079) 96 = .ok (.aload_n 0, 1) := by decide +kernel
theorem d12079_97 : decode (jm_b 12079) 97 = .ok (.aload_n 0, 1) := by decide +kernel
theorem d12079_98 : decode (jm_b 12079) 98 = .ok (.getfield 25, 3) := by decide +kernel
theorem d12079_101 : decode (jm_b 12079) 101 = .ok (.invokevirtual 570, 3) := by decide +kernel
theorem d12079_104 : decode (jm_b 12079) 104 = .ok (.aload_n 0, 1) := by decide +kernel
theorem d12079_105 : decode (jm_b 12079) 105 = .ok (.aload_n 0, 1) := by decide +kernel
theorem d12079_106 : decode (jm_b 12079) 106 = .ok (.getfield 28, 3) := by decide +kernel
theorem d12079_109 : decode (jm_b 12079) 109 = .ok (.invokevirtual 570, 3) := by decide +kernel
theorem d12079_112 : decode (jm_b 12079) 112 = .ok (.aload_n 0, 1) := by decide +kernel
theorem d12079_113 : decode (jm_b 12079) 113 = .ok (.aload_n 0, 1) := by decide +kernel
theorem d12079_114 : decode (jm_b 12079) 114 = .ok (.getfield 31, 3) := by decide +kernel
theorem d12079_117 : decode (jm_b 12079) 117 = .ok (.invokevirtual 570, 3) := by decide +kernel
theorem d12079_120 : decode (jm_b 12079) 120 = .ok (.aload_n 0, 1) := by decide +kernel
theorem d12079_121 : decode (jm_b 12079) 121 = .ok (.aload_n 0, 1) := by decide +kernel
theorem d12079_122 : decode (jm_b 12079) 122 = .ok (.getfield 37, 3) := by decide +kernel
theorem d12079_125 : decode (jm_b 12079) 125 = .ok (.invokevirtual 570, 3) := by decide +kernel
theorem d12079_128 : decode (jm_b 12079) 128 = .ok (.aload_n 0, 1) := by decide +kernel
theorem d12079_129 : decode (jm_b 12079) 129 = .ok (.aload_n 0, 1) := by decide +kernel
theorem d12079_130 : decode (jm_b 12079) 130 = .ok (.getfield 40, 3) := by decide +kernel
theorem d12079_133 : decode (jm_b 12079) 133 = .ok (.invokevirtual 570, 3) := by decide +kernel
theorem d12079_136 : decode (jm_b 12079) 136 = .ok (.aload_n 0, 1) := by decide +kernel
theorem d12079_137 : decode (jm_b 12079) 137 = .ok (.aload_n 0, 1) := by decide +kernel
theorem d12079_138 : decode (jm_b 12079) 138 = .ok (.getfield 43, 3) := by decide +kernel
theorem d12079_141 : decode (jm_b 12079) 141 = .ok (.invokevirtual 570, 3) := by decide +kernel
theorem d12079_144 : decode (jm_b 12079) 144 = .ok (.aload_n 0, 1) := by decide +kernel
theorem d12079_145 : decode (jm_b 12079) 145 = .ok (.aload_n 0, 1) := by decide +kernel
theorem d12079_146 : decode (jm_b 12079) 146 = .ok (.getfield 46, 3) := by decide +kernel
theorem d12079_149 : decode (jm_b 12079) 149 = .ok (.invokevirtual 570, 3) := by decide +kernel
theorem d12079_152 : decode (jm_b 12079) 152 = .ok (.aload_n 0, 1) := by decide +kernel
theorem d12079_153 : decode (jm_b 12079) 153 = .ok (.aload_n 0, 1) := by decide +kernel
theorem d12079_154 : decode (jm_b 12079) 154 = .ok (.getfield 49, 3) := by decide +kernel
theorem d12079_157 : decode (jm_b 12079) 157 = .ok (.invokevirtual 570, 3) := by decide +kernel
theorem d12079_160 : decode (jm_b 12079) 160 = .ok (.aload_n 0, 1) := by decide +kernel
theorem d12079_161 : decode (jm_b 12079) 161 = .ok (.aload_n 0, 1) := by decide +kernel
theorem d12079_162 : decode (jm_b 12079) 162 = .ok (.getfield 52, 3) := by decide +kernel
theorem d12079_165 : decode (jm_b 12079) 165 = .ok (.invokevirtual 570, 3) := by decide +kernel
theorem d12079_168 : decode (jm_b 12079) 168 = .ok (.aload_n 0, 1) := by decide +kernel
theorem d12079_169 : decode (jm_b 12079) 169 = .ok (.aload_n 0, 1) := by decide +kernel
theorem d12079_170 : decode (jm_b 12079) 170 = .ok (.getfield 55, 3) := by decide +kernel
theorem d12079_173 : decode (jm_b 12079) 173 = .ok (.invokevirtual 570, 3) := by decide +kernel
theorem d12079_176 : decode (jm_b 12079) 176 = .ok (.aload_n 0, 1) := by decide +kernel
theorem d12079_177 : decode (jm_b 12079) 177 = .ok (.aload_n 0, 1) := by decide +kernel
theorem d12079_178 : decode (jm_b 12079) 178 = .ok (.getfield 130, 3) := by decide +kernel
theorem d12079_181 : decode (jm_b 12079) 181 = .ok (.invokevirtual 570, 3) := by decide +kernel
theorem d12079_184 : decode (jm_b 12079) 184 = .ok (.return_, 1) := by decide +kernel
theorem d12080_0 : decode (jm_b 12080) 0 = .ok (.iconst 0, 1) := by decide +kernel
theorem d12080_1 : decode (jm_b 12080) 1 = .ok (.istore_n 2, 1) := by decide +kernel
theorem d12080_2 : decode (jm_b 12080) 2 = .ok (.iload_n 2, 1) := by decide +kernel
theorem d12080_3 : decode (jm_b 12080) 3 = .ok (.aload_n 1, 1) := by decide +kernel
theorem d12080_4 : decode (jm_b 12080) 4 = .ok (.arraylength, 1) := by decide +kernel
theorem d12080_5 : decode (jm_b 12080) 5 = .ok (.if_icmp .ge 53, 3) := by decide +kernel
theorem d12080_8 : decode (jm_b 12080) 8 = .ok (.aload_n 0, 1) := by decide +kernel
theorem d12080_9 : decode (jm_b 12080) 9 = .ok (.getfield 564, 3) := by decide +kernel
theorem d12080_12 : decode (jm_b 12080) 12 = .ok (.ifCond .eq 18, 3) := by decide +kernel
theorem d12080_15 : decode (jm_b 12080) 15 = .ok (.aload_n 1, 1) := by decide +kernel
theorem d12080_16 : decode (jm_b 12080) 16 = .ok (.iload_n 2, 1) := by decide +kernel
theorem d12080_17 : decode (jm_b 12080) 17 = .ok (.aload_n 0, 1) := by decide +kernel
theorem d12080_18 : decode (jm_b 12080) 18 = .ok (.getfield 160, 3) := by decide +kernel
theorem d12080_21 : decode (jm_b 12080) 21 = .ok (.aload_n 0, 1) := by decide +kernel
theorem d12080_22 : decode (jm_b 12080) 22 = .ok (.getfield 567, 3) := by decide +kernel
theorem d12080_25 : decode (jm_b 12080) 25 = .ok (.iaload, 1) := by decide +kernel
theorem d12080_26 : decode (jm_b 12080) 26 = .ok (.iastore, 1) := by decide +kernel
theorem d12080_27 : decode (jm_b 12080) 27 = .ok (.goto 15, 3) := by decide +kernel
theorem d12080_30 : decode (jm_b 12080) 30 = .ok (.aload_n 0, 1) := by decide +kernel
theorem d12080_31 : decode (jm_b 12080) 31 = .ok (.getfield 160, 3) := by decide +kernel
theorem d12080_34 : decode (jm_b 12080) 34 = .ok (.aload_n 0, 1) := by decide +kernel
theorem d12080_35 : decode (jm_b 12080) 35 = .ok (.getfield 567, 3) := by decide +kernel
theorem d12080_38 : decode (jm_b 12080) 38 = .ok (.aload_n 1, 1) := by decide +kernel
theorem d12080_39 : decode (jm_b 12080) 39 = .ok (.iload_n 2, 1) := by decide +kernel
theorem d12080_40 : decode (jm_b 12080) 40 = .ok (.iaload, 1) := by decide +kernel
theorem d12080_41 : decode (jm_b 12080) 41 = .ok (.iastore, 1) := by decide +kernel
theorem d12080_42 : decode (jm_b 12080) 42 = .ok (.aload_n 0, 1) := by decide +kernel
theorem d12080_43 : decode (jm_b 12080) 43 = .ok (.dup, 1) := by decide +kernel
theorem d12080_44 : decode (jm_b 12080) 44 = .ok (.getfield 567, 3) := by decide +kernel
theorem d12080_47 : decode (jm_b 12080) 47 = .ok (.iconst 1, 1) := by decide +kernel
theorem d12080_48 : decode (jm_b 12080) 48 = .ok (.iadd, 1) := by decide +kernel
theorem d12080_49 : decode (jm_b 12080) 49 = .ok (.putfield 567, 3) := by decide +kernel
theorem d12080_52 : decode (jm_b 12080) 52 = .ok (.iinc 2 1, 3) := by decide +kernel
theorem d12080_55 : decode (jm_b 12080) 55 = .ok (.goto (-53), 3) := by decide +kernel
theorem d12080_58 : decode (jm_b 12080) 58 = .ok (.return_, 1) := by decide +kernel
theorem d12081_0 : decode (jm_b 12081) 0 = .ok (.iconst 0, 1) := by decide +kernel
theorem d12081_1 : decode (jm_b 12081) 1 = .ok (.istore_n 2, 1) := by decide +kernel
theorem d12081_2 : decode (jm_b 12081) 2 = .ok (.iconst 0, 1) := by decide +kernel
theorem d12081_3 : decode (jm_b 12081) 3 = .ok (.istore_n 3, 1) := by decide +kernel
theorem d12081_4 : decode (jm_b 12081) 4 = .ok (.iload_n 3, 1) := by decide +kernel
theorem d12081_5 : decode (jm_b 12081) 5 = .ok (.iload_n 1, 1) := by decide +kernel
theorem d12081_6 : decode (jm_b 12081) 6 = .ok (.if_icmp .ge 16, 3) := by decide +kernel
theorem d12081_9 : decode (jm_b 12081) 9 = .ok (.iload_n 2, 1) := by decide +kernel
theorem d12081_10 : decode (jm_b 12081) 10 = .ok (.aload_n 0, 1) := by decide +kernel
theorem d12081_11 : decode (jm_b 12081) 11 = .ok (.invokevirtual 439, 3) := by decide +kernel
theorem d12081_14 : decode (jm_b 12081) 14 = .ok (.iadd, 1) := by decide +kernel
theorem d12081_15 : decode (jm_b 12081) 15 = .ok (.istore_n 2, 1) := by decide +kernel
theorem d12081_16 : decode (jm_b 12081) 16 = .ok (.iinc 3 1, 3) := by decide +kernel
theorem d12081_19 : decode (jm_b 12081) 19 = .ok (.goto (-15), 3) := by decide +kernel
theorem d12081_22 : decode (jm_b 12081) 22 = .ok (.iload_n 2, 1) := by decide +kernel
theorem d12081_23 : decode (jm_b 12081) 23 = .ok (.ireturn, 1) := by decide +kernel
theorem d12082_0 : decode (jm_b 12082) 0 = .ok (.iconst 0, 1) := by decide +kernel
theorem d12082_1 : decode (jm_b 12082) 1 = .ok (.istore_n 2, 1) := by decide +kernel
theorem d12082_2 : decode (jm_b 12082) 2 = .ok (.iconst 0, 1) := by decide +kernel
theorem d12082_3 : decode (jm_b 12082) 3 = .ok (.istore_n 3, 1) := by decide +kernel
theorem d12082_4 : decode (jm_b 12082) 4 = .ok (.iload_n 3, 1) := by decide +kernel
theorem d12082_5 : decode (jm_b 12082) 5 = .ok (.aload_n 0, 1) := by decide +kernel
theorem d12082_6 : decode (jm_b 12082) 6 = .ok (.getfield 9, 3) := by decide +kernel
theorem d12082_9 : decode (jm_b 12082) 9 = .ok (.iconst 2, 1) := by decide +kernel
theorem d12082_10 : decode (jm_b 12082) 10 = .ok (.iaload, 1) := by decide +kernel
theorem d12082_11 : decode (jm_b 12082) 11 = .ok (.if_icmp .ge 28, 3) := by decide +kernel
theorem d12082_14 : decode (jm_b 12082) 14 = .ok (.iload_n 2, 1) := by decide +kernel
theorem d12082_15 : decode (jm_b 12082) 15 = .ok (.aload_n 0, 1) := by decide +kernel
theorem d12082_16 : decode (jm_b 12082) 16 = .ok (.iload_n 3, 1) := by decide +kernel
theorem d12082_17 : decode (jm_b 12082) 17 = .ok (.invokevirtual 394, 3) := by decide +kernel
theorem d12082_20 : decode (jm_b 12082) 20 = .ok (.iload_n 1, 1) := by decide +kernel
theorem d12082_21 : decode (jm_b 12082) 21 = .ok (.if_icmp .ne 9, 3) := by decide +kernel
theorem d12082_24 : decode (jm_b 12082) 24 = .ok (.iconst 1, 1) := by decide +kernel
theorem d12082_25 : decode (jm_b 12082) 25 = .ok (.iload_n 3, 1) := by decide +kernel
theorem d12082_26 : decode (jm_b 12082) 26 = .ok (.ishl, 1) := by decide +kernel
theorem d12082_27 : decode (jm_b 12082) 27 = .ok (.goto 4, 3) := by decide +kernel
theorem d12082_30 : decode (jm_b 12082) 30 = .ok (.iconst 0, 1) := by decide +kernel
theorem d12082_31 : decode (jm_b 12082) 31 = .ok (.ior, 1) := by decide +kernel
theorem d12082_32 : decode (jm_b 12082) 32 = .ok (.istore_n 2, 1) := by decide +kernel
theorem d12082_33 : decode (jm_b 12082) 33 = .ok (.iinc 3 1, 3) := by decide +kernel
theorem d12082_36 : decode (jm_b 12082) 36 = .ok (.goto (-32), 3) := by decide +kernel
theorem d12082_39 : decode (jm_b 12082) 39 = .ok (.iload_n 2, 1) := by decide +kernel
theorem d12082_40 : decode (jm_b 12082) 40 = .ok (.ireturn, 1) := by decide +kernel
theorem d12083_0 : decode (jm_b 12083) 0 = .ok (.aload_n 0, 1) := by decide +kernel
theorem d12083_1 : decode (jm_b 12083) 1 = .ok (.iconst 4, 1) := by decide +kernel
theorem d12083_2 : decode (jm_b 12083) 2 = .ok (.iconst 1, 1) := by decide +kernel
theorem d12083_3 : decode (jm_b 12083) 3 = .ok (.invokevirtual 475, 3) := by decide +kernel
theorem d12083_6 : decode (jm_b 12083) 6 = .ok (.return_, 1) := by decide +kernel
theorem d12084_0 : decode (jm_b 12084) 0 = .ok (.aload_n 0, 1) := by decide +kernel
theorem d12084_1 : decode (jm_b 12084) 1 = .ok (.iload_n 1, 1) := by decide +kernel
theorem d12084_2 : decode (jm_b 12084) 2 = .ok (.invokevirtual 397, 3) := by decide +kernel
theorem d12084_5 : decode (jm_b 12084) 5 = .ok (.ifCond .ne 5, 3) := by decide +kernel
theorem d12084_8 : decode (jm_b 12084) 8 = .ok (.iconst (-1), 1) := by decide +kernel
theorem d12084_9 : decode (jm_b 12084) 9 = .ok (.ireturn, 1) := by decide +kernel
theorem d12084_10 : decode (jm_b 12084) 10 = .ok (.aload_n 0, 1) := by decide +kernel
theorem d12084_11 : decode (jm_b 12084) 11 = .ok (.invokevirtual 482, 3) := by decide +kernel
theorem d12084_14 : decode (jm_b 12084) 14 = .ok (.aload_n 0, 1) := by decide +kernel
theorem d12084_15 : decode (jm_b 12084) 15 = .ok (.getfield 34, 3) := by decide +kernel
theorem d12084_18 : decode (jm_b 12084) 18 = .ok (.iload_n 1, 1) := by decide +kernel
theorem d12084_19 : decode (jm_b 12084) 19 = .ok (.iaload, 1) := by decide +kernel
theorem d12084_20 : decode (jm_b 12084) 20 = .ok (.istore_n 2, 1) := by decide +kernel
theorem d12084_21 : decode (jm_b 12084) 21 = .ok (.bipush (-2), 2) := by decide +kernel
theorem d12084_23 : decode (jm_b 12084) 23 = .ok (.istore_n 3, 1) := by decide +kernel
theorem d12084_24 : decode (jm_b 12084) 24 = .ok (.iconst 0, 1) := by decide +kernel
theorem d12084_25 : decode (jm_b 12084) 25 = .ok (.istore 4, 2) := by decide +kernel
theorem d12084_27 : decode (jm_b 12084) 27 = .ok (.iload 4, 2) := by decide +kernel
theorem d12084_29 : decode (jm_b 12084) 29 = .ok (.bipush 60, 2) := by decide +kernel
theorem d12084_31 : decode (jm_b 12084) 31 = .ok (.if_icmp .ge 44, 3) := by decide +kernel
theorem d12084_34 : decode (jm_b 12084) 34 = .ok (.iload_n 3, 1) := by decide +kernel
theorem d12084_35 : decode (jm_b 12084) 35 = .ok (.bipush (-2), 2) := by decide +kernel
theorem d12084_37 : decode (jm_b 12084) 37 = .ok (.if_icmp .ne 38, 3) := by decide +kernel
theorem d12084_40 : decode (jm_b 12084) 40 = .ok (.aload_n 0, 1) := by decide +kernel
theorem d12084_41 : decode (jm_b 12084) 41 = .ok (.invokevirtual 439, 3) := by decide +kernel
theorem d12084_44 : decode (jm_b 12084) 44 = .ok (.pop, 1) := by decide +kernel
theorem d12084_45 : decode (jm_b 12084) 45 = .ok (.aload_n 0, 1) := by decide +kernel
theorem d12084_46 : decode (jm_b 12084) 46 = .ok (.getfield 34, 3) := by decide +kernel
theorem d12084_49 : decode (jm_b 12084) 49 = .ok (.iload_n 1, 1) := by decide +kernel
theorem d12084_50 : decode (jm_b 12084) 50 = .ok (.iaload, 1) := by decide +kernel
theorem d12084_51 : decode (jm_b 12084) 51 = .ok (.iload_n 2, 1) := by decide +kernel
theorem d12084_52 : decode (jm_b 12084) 52 = .ok (.if_icmp .le 14, 3) := by decide +kernel
theorem d12084_55 : decode (jm_b 12084) 55 = .ok (.aload_n 0, 1) := by decide +kernel
theorem d12084_56 : decode (jm_b 12084) 56 = .ok (.getfield 9, 3) := by decide +kernel
theorem d12084_59 : decode (jm_b 12084) 59 = .ok (.iconst 5, 1) := by decide +kernel
theorem d12084_60 : decode (jm_b 12084) 60 = .ok (.iaload, 1) := by decide +kernel
theorem d12084_61 : decode (jm_b 12084) 61 = .ok (.iconst 1, 1) := by decide +kernel
theorem d12084_62 : decode (jm_b 12084) 62 = .ok (.isub, 1) := by decide +kernel
theorem d12084_63 : decode (jm_b 12084) 63 = .ok (.goto 5, 3) := by decide +kernel
theorem d12084_66 : decode (jm_b 12084) 66 = .ok (.bipush (-2), 2) := by decide +kernel
theorem d12084_68 : decode (jm_b 12084) 68 = .ok (.istore_n 3, 1) := by decide +kernel
theorem d12084_69 : decode (jm_b 12084) 69 = .ok (.iinc 4 1, 3) := by decide +kernel
theorem d12084_72 : decode (jm_b 12084) 72 = .ok (.goto (-45), 3) := by decide +kernel
theorem d12084_75 : decode (jm_b 12084) 75 = .ok (.aload_n 0, 1) := by decide +kernel
theorem d12084_76 : decode (jm_b 12084) 76 = .ok (.invokevirtual 491, 3) := by decide +kernel
theorem d12084_79 : decode (jm_b 12084) 79 = .ok (.iload_n 3, 1) := by decide +kernel
theorem d12084_80 : decode (jm_b 12084) 80 = .ok (.ireturn, 1) := by decide +kernel
theorem d12085_0 : decode (jm_b 12085) 0 = .ok (.aload_n 0, 1) := by decide +kernel
theorem d12085_1 : decode (jm_b 12085) 1 = .ok (.invokevirtual 400, 3) := by decide +kernel
theorem d12085_4 : decode (jm_b 12085) 4 = .ok (.ifCond .eq 27, 3) := by decide +kernel
theorem d12085_7 : decode (jm_b 12085) 7 = .ok (.iload_n 1, 1) := by decide +kernel
theorem d12085_8 : decode (jm_b 12085) 8 = .ok (.i2l, 1) := by decide +kernel
theorem d12085_9 : decode (jm_b 12085) 9 = .ok (.lconst 1, 1) := by decide +kernel
theorem d12085_10 : decode (jm_b 12085) 10 = .ok (.ldc2_w 468, 3) := by decide +kernel
theorem d12085_13 : decode (jm_b 12085) 13 = .ok (.invokestatic 170, 3) := by decide +kernel
theorem d12085_16 : decode (jm_b 12085) 16 = .ok (.ifCond .eq 15, 3) := by decide +kernel
theorem d12085_19 : decode (jm_b 12085) 19 = .ok (.iload_n 2, 1) := by decide +kernel
theorem d12085_20 : decode (jm_b 12085) 20 = .ok (.i2l, 1) := by decide +kernel
theorem d12085_21 : decode (jm_b 12085) 21 = .ok (.lconst 0, 1) := by decide +kernel
theorem d12085_22 : decode (jm_b 12085) 22 = .ok (.ldc2_w 468, 3) := by decide +kernel
theorem d12085_25 : decode (jm_b 12085) 25 = .ok (.invokestatic 170, 3) := by decide +kernel
theorem d12085_28 : decode (jm_b 12085) 28 = .ok (.ifCond .ne 6, 3) := by decide +kernel
theorem d12085_31 : decode (jm_b 12085) 31 = .ok (.bipush (-3), 2) := by decide +kernel
theorem d12085_33 : decode (jm_b 12085) 33 = .ok (.ireturn, 1) := by decide +kernel
theorem d12085_34 : decode (jm_b 12085) 34 = .ok (.aload_n 0, 1) := by decide +kernel
theorem d12085_35 : decode (jm_b 12085) 35 = .ok (.iload_n 1, 1) := by decide +kernel
theorem d12085_36 : decode (jm_b 12085) 36 = .ok (.invokevirtual 500, 3) := by decide +kernel
theorem d12085_39 : decode (jm_b 12085) 39 = .ok (.istore_n 3, 1) := by decide +kernel
theorem d12085_40 : decode (jm_b 12085) 40 = .ok (.iload_n 3, 1) := by decide +kernel
theorem d12085_41 : decode (jm_b 12085) 41 = .ok (.iconst (-1), 1) := by decide +kernel
theorem d12085_42 : decode (jm_b 12085) 42 = .ok (.if_icmp .ne 6, 3) := by decide +kernel
theorem d12085_45 : decode (jm_b 12085) 45 = .ok (.bipush (-2), 2) := by decide +kernel
theorem d12085_47 : decode (jm_b 12085) 47 = .ok (.ireturn, 1) := by decide +kernel
theorem d12085_48 : decode (jm_b 12085) 48 = .ok (.iload_n 2, 1) := by decide +kernel
theorem d12085_49 : decode (jm_b 12085) 49 = .ok (.ifCond .ne 7, 3) := by decide +kernel
theorem d12085_52 : decode (jm_b 12085) 52 = .ok (.iload_n 3, 1) := by decide +kernel
theorem d12085_53 : decode (jm_b 12085) 53 = .ok (.goto 21, 3) := by decide +kernel
theorem d12085_56 : decode (jm_b 12085) 56 = .ok (.iload_n 2, 1) := by decide +kernel
theorem d12085_57 : decode (jm_b 12085) 57 = .ok (.iload_n 1, 1) := by decide +kernel
theorem d12085_58 : decode (jm_b 12085) 58 = .ok (.if_icmp .gt 14, 3) := by decide +kernel
theorem d12085_61 : decode (jm_b 12085) 61 = .ok (.aload_n 0, 1) := by decide +kernel
theorem d12085_62 : decode (jm_b 12085) 62 = .ok (.getfield 139, 3) := by decide +kernel
theorem d12085_65 : decode (jm_b 12085) 65 = .ok (.iload_n 2, 1) := by decide +kernel
theorem d12085_66 : decode (jm_b 12085) 66 = .ok (.iconst 1, 1) := by decide +kernel
theorem d12085_67 : decode (jm_b 12085) 67 = .ok (.isub, 1) := by decide +kernel
theorem d12085_68 : decode (jm_b 12085) 68 = .ok (.iaload, 1) := by decide +kernel
theorem d12085_69 : decode (jm_b 12085) 69 = .ok (.goto 5, 3) := by decide +kernel
theorem d12085_72 : decode (jm_b 12085) 72 = .ok (.bipush (-2), 2) := by decide +kernel
theorem d12085_74 : decode (jm_b 12085) 74 = .ok (.ireturn, 1) := by decide +kernel
theorem d12086_0 : decode (jm_b 12086) 0 = .ok (.iconst (-1), 1) := by decide +kernel
theorem d12086_1 : decode (jm_b 12086) 1 = .ok (.istore_n 2, 1) := by decide +kernel
theorem d12086_2 : decode (jm_b 12086) 2 = .ok (.iconst 2, 1) := by decide +kernel
theorem d12086_3 : decode (jm_b 12086) 3 = .ok (.aload_n 0, 1) := by decide +kernel
theorem d12086_4 : decode (jm_b 12086) 4 = .ok (.getfield 9, 3) := by decide +kernel
theorem d12086_7 : decode (jm_b 12086) 7 = .ok (.iconst 0, 1) := by decide +kernel
theorem d12086_8 : decode (jm_b 12086) 8 = .ok (.iaload, 1) := by decide +kernel
theorem d12086_9 : decode (jm_b 12086) 9 = .ok (.imul, 1) := by decide +kernel
theorem d12086_10 : decode (jm_b 12086) 10 = .ok (.iconst 1, 1) := by decide +kernel
theorem d12086_11 : decode (jm_b 12086) 11 = .ok (.iadd, 1) := by decide +kernel
theorem d12086_12 : decode (jm_b 12086) 12 = .ok (.istore_n 3, 1) := by decide +kernel
theorem d12086_13 : decode (jm_b 12086) 13 = .ok (.iconst 1, 1) := by decide +kernel
theorem d12086_14 : decode (jm_b 12086) 14 = .ok (.istore 4, 2) := by decide +kernel
theorem d12086_16 : decode (jm_b 12086) 16 = .ok (.iconst 0, 1) := by decide +kernel
theorem d12086_17 : decode (jm_b 12086) 17 = .ok (.istore 5, 2) := by decide +kernel
theorem d12086_19 : decode (jm_b 12086) 19 = .ok (.iload 5, 2) := by decide +kernel
theorem d12086_21 : decode (jm_b 12086) 21 = .ok (.iload_n 1, 1) := by decide +kernel
theorem d12086_22 : decode (jm_b 12086) 22 = .ok (.if_icmp .ge 15, 3) := by decide +kernel
theorem d12086_25 : decode (jm_b 12086) 25 = .ok (.iload 4, 2) := by decide +kernel
theorem d12086_27 : decode (jm_b 12086) 27 = .ok (.iload_n 3, 1) := by decide +kernel
theorem d12086_28 : decode (jm_b 12086) 28 = .ok (.imul, 1) := by decide +kernel
theorem d12086_29 : decode (jm_b 12086) 29 = .ok (.istore 4, 2) := by decide +kernel
theorem d12086_31 : decode (jm_b 12086) 31 = .ok (.iinc 5 1, 3) := by decide +kernel
theorem d12086_34 : decode (jm_b 12086) 34 = .ok (.goto (-15), 3) := by decide +kernel
theorem d12086_37 : decode (jm_b 12086) 37 = .ok (.aload_n 0, 1) := by decide +kernel
theorem d12086_38 : decode (jm_b 12086) 38 = .ok (.invokevirtual 482, 3) := by decide +kernel
theorem d12086_41 : decode (jm_b 12086) 41 = .ok (.iconst 0, 1) := by decide +kernel
theorem d12086_42 : decode (jm_b 12086) 42 = .ok (.istore 5, 2) := by decide +kernel
theorem d12086_44 : decode (jm_b 12086) 44 = .ok (.iload 5, 2) := by decide +kernel
theorem d12086_46 : decode (jm_b 12086) 46 = .ok (.iload 4, 2) := by decide +kernel
theorem d12086_48 : decode (jm_b 12086) 48 = .ok (.if_icmp .ge 90, 3) := by decide +kernel
theorem d12086_51 : decode (jm_b 12086) 51 = .ok (.iload 5, 2) := by decide +kernel
theorem d12086_53 : decode (jm_b 12086) 53 = .ok (.istore 6, 2) := by decide +kernel
theorem d12086_55 : decode (jm_b 12086) 55 = .ok (.iload_n 1, 1) := by decide +kernel
theorem d12086_56 : decode (jm_b 12086) 56 = .ok (.iconst 1, 1) := by decide +kernel
theorem d12086_57 : decode (jm_b 12086) 57 = .ok (.isub, 1) := by decide +kernel
theorem d12086_58 : decode (jm_b 12086) 58 = .ok (.istore 7, 2) := by decide +kernel
theorem d12086_60 : decode (jm_b 12086) 60 = .ok (.iload 7, 2) := by decide +kernel
theorem d12086_62 : decode (jm_b 12086) 62 = .ok (.ifCond .lt 28, 3) := by decide +kernel
theorem d12086_65 : decode (jm_b 12086) 65 = .ok (.aload_n 0, 1) := by decide +kernel
theorem d12086_66 : decode (jm_b 12086) 66 = .ok (.getfield 136, 3) := by decide +kernel
theorem d12086_69 : decode (jm_b 12086) 69 = .ok (.iload 7, 2) := by decide +kernel
theorem d12086_71 : decode (jm_b 12086) 71 = .ok (.iload 6, 2) := by decide +kernel
theorem d12086_73 : decode (jm_b 12086) 73 = .ok (.iload_n 3, 1) := by decide +kernel
theorem d12086_74 : decode (jm_b 12086) 74 = .ok (.irem, 1) := by decide +kernel
theorem d12086_75 : decode (jm_b 12086) 75 = .ok (.iconst 1, 1) := by decide +kernel
theorem d12086_76 : decode (jm_b 12086) 76 = .ok (.isub, 1) := by decide +kernel
theorem d12086_77 : decode (jm_b 12086) 77 = .ok (.iastore, 1) := by decide +kernel
theorem d12086_78 : decode (jm_b 12086) 78 = .ok (.iload 6, 2) := by decide +kernel
theorem d12086_80 : decode (jm_b 12086) 80 = .ok (.iload_n 3, 1) := by decide +kernel
theorem d12086_81 : decode (jm_b 12086) 81 = .ok (.idiv, 1) := by decide +kernel
theorem d12086_82 : decode (jm_b 12086) 82 = .ok (.istore 6, 2) := by decide +kernel
theorem d12086_84 : decode (jm_b 12086) 84 = .ok (.iinc 7 (-1), 3) := by decide +kernel
theorem d12086_87 : decode (jm_b 12086) 87 = .ok (.goto (-27), 3) := by decide +kernel
theorem d12086_90 : decode (jm_b 12086) 90 = .ok (.aload_n 0, 1) := by decide +kernel
theorem d12086_91 : decode (jm_b 12086) 91 = .ok (.iload_n 1, 1) := by decide +kernel
theorem d12086_92 : decode (jm_b 12086) 92 = .ok (.invokevirtual 497, 3) := by decide +kernel
theorem d12086_95 : decode (jm_b 12086) 95 = .ok (.istore 7, 2) := by decide +kernel
theorem d12086_97 : decode (jm_b 12086) 97 = .ok (.aload_n 0, 1) := by decide +kernel
theorem d12086_98 : decode (jm_b 12086) 98 = .ok (.invokevirtual 491, 3) := by decide +kernel
theorem d12086_101 : decode (jm_b 12086) 101 = .ok (.iload 7, 2) := by decide +kernel
theorem d12086_103 : decode (jm_b 12086) 103 = .ok (.iconst (-1), 1) := by decide +kernel
theorem d12086_104 : decode (jm_b 12086) 104 = .ok (.if_icmp .eq 28, 3) := by decide +kernel
theorem d12086_107 : decode (jm_b 12086) 107 = .ok (.iload_n 2, 1) := by decide +kernel
theorem d12086_108 : decode (jm_b 12086) 108 = .ok (.iconst (-1), 1) := by decide +kernel
theorem d12086_109 : decode (jm_b 12086) 109 = .ok (.if_icmp .eq 9, 3) := by decide +kernel
theorem d12086_112 : decode (jm_b 12086) 112 = .ok (.iload 7, 2) := by decide +kernel
theorem d12086_114 : decode (jm_b 12086) 114 = .ok (.iload_n 2, 1) := by decide +kernel
theorem d12086_115 : decode (jm_b 12086) 115 = .ok (.if_icmp .ge 17, 3) := by decide +kernel
theorem d12086_118 : decode (jm_b 12086) 118 = .ok (.iload 7, 2) := by decide +kernel
theorem d12086_120 : decode (jm_b 12086) 120 = .ok (.istore_n 2, 1) := by decide +kernel
theorem d12086_121 : decode (jm_b 12086) 121 = .ok (.aload_n 0, 1) := by decide +kernel
theorem d12086_122 : decode (jm_b 12086) 122 = .ok (.getfield 136, 3) := by decide +kernel
theorem d12086_125 : decode (jm_b 12086) 125 = .ok (.aload_n 0, 1) := by decide +kernel
theorem d12086_126 : decode (jm_b 12086) 126 = .ok (.getfield 139, 3) := by decide +kernel
theorem d12086_129 : decode (jm_b 12086) 129 = .ok (.invokestatic 357, 3) := by decide +kernel
theorem d12086_132 : decode (jm_b 12086) 132 = .ok (.iinc 5 1, 3) := by decide +kernel
theorem d12086_135 : decode (jm_b 12086) 135 = .ok (.goto (-91), 3) := by decide +kernel
theorem d12086_138 : decode (jm_b 12086) 138 = .ok (.iload_n 2, 1) := by decide +kernel
theorem d12086_139 : decode (jm_b 12086) 139 = .ok (.ireturn, 1) := by decide +kernel
theorem d12087_0 : decode (jm_b 12087) 0 = .ok (.iconst 0, 1) := by decide +kernel
theorem d12087_1 : decode (jm_b 12087) 1 = .ok (.istore_n 2, 1) := by decide +kernel
theorem d12087_2 : decode (jm_b 12087) 2 = .ok (.iconst 1, 1) := by decide +kernel
theorem d12087_3 : decode (jm_b 12087) 3 = .ok (.istore_n 3, 1) := by decide +kernel
theorem d12087_4 : decode (jm_b 12087) 4 = .ok (.iconst 0, 1) := by decide +kernel
theorem d12087_5 : decode (jm_b 12087) 5 = .ok (.istore 4, 2) := by decide +kernel
theorem d12087_7 : decode (jm_b 12087) 7 = .ok (.iload 4, 2) := by decide +kernel
theorem d12087_9 : decode (jm_b 12087) 9 = .ok (.iload_n 1, 1) := by decide +kernel
theorem d12087_10 : decode (jm_b 12087) 10 = .ok (.if_icmp .ge 75, 3) := by decide +kernel
theorem d12087_13 : decode (jm_b 12087) 13 = .ok (.iload_n 3, 1) := by decide +kernel
theorem d12087_14 : decode (jm_b 12087) 14 = .ok (.ifCond .eq 71, 3) := by decide +kernel
theorem d12087_17 : decode (jm_b 12087) 17 = .ok (.aload_n 0, 1) := by decide +kernel
theorem d12087_18 : decode (jm_b 12087) 18 = .ok (.getfield 136, 3) := by decide +kernel
theorem d12087_21 : decode (jm_b 12087) 21 = .ok (.iload 4, 2) := by decide +kernel
theorem d12087_23 : decode (jm_b 12087) 23 = .ok (.iaload, 1) := by decide +kernel
theorem d12087_24 : decode (jm_b 12087) 24 = .ok (.istore 5, 2) := by decide +kernel
theorem d12087_26 : decode (jm_b 12087) 26 = .ok (.iload 5, 2) := by decide +kernel
theorem d12087_28 : decode (jm_b 12087) 28 = .ok (.iconst (-1), 1) := by decide +kernel
theorem d12087_29 : decode (jm_b 12087) 29 = .ok (.if_icmp .eq 45, 3) := by decide +kernel
theorem d12087_32 : decode (jm_b 12087) 32 = .ok (.aload_n 0, 1) := by decide +kernel
theorem d12087_33 : decode (jm_b 12087) 33 = .ok (.iload 5, 2) := by decide +kernel
theorem d12087_35 : decode (jm_b 12087) 35 = .ok (.iconst 2, 1) := by decide +kernel
theorem d12087_36 : decode (jm_b 12087) 36 = .ok (.idiv, 1) := by decide +kernel
theorem d12087_37 : decode (jm_b 12087) 37 = .ok (.invokevirtual 182, 3) := by decide +kernel
theorem d12087_40 : decode (jm_b 12087) 40 = .ok (.ifCond .ne 7, 3) := by decide +kernel
theorem d12087_43 : decode (jm_b 12087) 43 = .ok (.iconst 1, 1) := by decide +kernel
theorem d12087_44 : decode (jm_b 12087) 44 = .ok (.goto 4, 3) := by decide +kernel
theorem d12087_47 : decode (jm_b 12087) 47 = .ok (.iconst 0, 1) := by decide +kernel
theorem d12087_48 : decode (jm_b 12087) 48 = .ok (.istore_n 3, 1) := by decide +kernel
theorem d12087_49 : decode (jm_b 12087) 49 = .ok (.aload_n 0, 1) := by decide +kernel
theorem d12087_50 : decode (jm_b 12087) 50 = .ok (.iload 5, 2) := by decide +kernel
theorem d12087_52 : decode (jm_b 12087) 52 = .ok (.iconst 2, 1) := by decide +kernel
theorem d12087_53 : decode (jm_b 12087) 53 = .ok (.idiv, 1) := by decide +kernel
theorem d12087_54 : decode (jm_b 12087) 54 = .ok (.iload 5, 2) := by decide +kernel
theorem d12087_56 : decode (jm_b 12087) 56 = .ok (.iconst 2, 1) := by decide +kernel
theorem d12087_57 : decode (jm_b 12087) 57 = .ok (.irem, 1) := by decide +kernel
theorem d12087_58 : decode (jm_b 12087) 58 = .ok (.iconst 1, 1) := by decide +kernel
theorem d12087_59 : decode (jm_b 12087) 59 = .ok (.if_icmp .ne 7, 3) := by decide +kernel
theorem d12087_62 : decode (jm_b 12087) 62 = .ok (.iconst 2, 1) := by decide +kernel
theorem d12087_63 : decode (jm_b 12087) 63 = .ok (.goto 5, 3) := by decide +kernel
theorem d12087_66 : decode (jm_b 12087) 66 = .ok (.bipush (-2), 2) := by decide +kernel
theorem d12087_68 : decode (jm_b 12087) 68 = .ok (.invokevirtual 470, 3) := by decide +kernel
theorem d12087_71 : decode (jm_b 12087) 71 = .ok (.iinc 2 1, 3) := by decide +kernel
theorem d12087_74 : decode (jm_b 12087) 74 = .ok (.aload_n 0, 1) := by decide +kernel
theorem d12087_75 : decode (jm_b 12087) 75 = .ok (.invokevirtual 439, 3) := by decide +kernel
theorem d12087_78 : decode (jm_b 12087) 78 = .ok (.pop, 1) := by decide +kernel
theorem d12087_79 : decode (jm_b 12087) 79 = .ok (.iinc 4 1, 3) := by decide +kernel
theorem d12087_82 : decode (jm_b 12087) 82 = .ok (.goto (-75), 3) := by decide +kernel
theorem d12087_85 : decode (jm_b 12087) 85 = .ok (.iload_n 3, 1) := by decide +kernel
theorem d12087_86 : decode (jm_b 12087) 86 = .ok (.ifCond .eq 14, 3) := by decide +kernel
theorem d12087_89 : decode (jm_b 12087) 89 = .ok (.aload_n 0, 1) := by decide +kernel
theorem d12087_90 : decode (jm_b 12087) 90 = .ok (.invokevirtual 494, 3) := by decide +kernel
theorem d12087_93 : decode (jm_b 12087) 93 = .ok (.ifCond .eq 7, 3) := by decide +kernel
theorem d12087_96 : decode (jm_b 12087) 96 = .ok (.iload_n 2, 1) := by decide +kernel
theorem d12087_97 : decode (jm_b 12087) 97 = .ok (.goto 4, 3) := by decide +kernel
theorem d12087_100 : decode (jm_b 12087) 100 = .ok (.iconst (-1), 1) := by decide +kernel
theorem d12087_101 : decode (jm_b 12087) 101 = .ok (.ireturn, 1) := by decide +kernel
theorem d12088_0 : decode (jm_b 12088) 0 = .ok (.iconst 0, 1) := by decide +kernel
theorem d12088_1 : decode (jm_b 12088) 1 = .ok (.istore_n 1, 1) := by decide +kernel
theorem d12088_2 : decode (jm_b 12088) 2 = .ok (.iload_n 1, 1) := by decide +kernel
theorem d12088_3 : decode (jm_b 12088) 3 = .ok (.aload_n 0, 1) := by decide +kernel
theorem d12088_4 : decode (jm_b 12088) 4 = .ok (.getfield 9, 3) := by decide +kernel
theorem d12088_7 : decode (jm_b 12088) 7 = .ok (.iconst 3, 1) := by decide +kernel
theorem d12088_8 : decode (jm_b 12088) 8 = .ok (.iaload, 1) := by decide +kernel
theorem d12088_9 : decode (jm_b 12088) 9 = .ok (.if_icmp .ge 30, 3) := by decide +kernel
theorem d12088_12 : decode (jm_b 12088) 12 = .ok (.aload_n 0, 1) := by decide +kernel
theorem d12088_13 : decode (jm_b 12088) 13 = .ok (.aload_n 0, 1) := by decide +kernel
theorem d12088_14 : decode (jm_b 12088) 14 = .ok (.getfield 37, 3) := by decide +kernel
theorem d12088_17 : decode (jm_b 12088) 17 = .ok (.iload_n 1, 1) := by decide +kernel
theorem d12088_18 : decode (jm_b 12088) 18 = .ok (.iaload, 1) := by decide +kernel
theorem d12088_19 : decode (jm_b 12088) 19 = .ok (.invokevirtual 394, 3) := by decide +kernel
theorem d12088_22 : decode (jm_b 12088) 22 = .ok (.aload_n 0, 1) := by decide +kernel
theorem d12088_23 : decode (jm_b 12088) 23 = .ok (.getfield 40, 3) := by decide +kernel
theorem d12088_26 : decode (jm_b 12088) 26 = .ok (.iload_n 1, 1) := by decide +kernel
theorem d12088_27 : decode (jm_b 12088) 27 = .ok (.iaload, 1) := by decide +kernel
theorem d12088_28 : decode (jm_b 12088) 28 = .ok (.if_icmp .eq 5, 3) := by decide +kernel
theorem d12088_31 : decode (jm_b 12088) 31 = .ok (.iconst 0, 1) := by decide +kernel
theorem d12088_32 : decode (jm_b 12088) 32 = .ok (.ireturn, 1) := by decide +kernel
theorem d12088_33 : decode (jm_b 12088) 33 = .ok (.iinc 1 1, 3) := by decide +kernel
theorem d12088_36 : decode (jm_b 12088) 36 = .ok (.goto (-34), 3) := by decide +kernel
theorem d12088_39 : decode (jm_b 12088) 39 = .ok (.iconst 1, 1) := by decide +kernel
theorem d12088_40 : decode (jm_b 12088) 40 = .ok (.ireturn, 1) := by decide +kernel
theorem d12089_0 : decode (jm_b 12089) 0 = .ok (.aload_n 0, 1) := by decide +kernel
theorem d12089_1 : decode (jm_b 12089) 1 = .ok (.invokevirtual 400, 3) := by decide +kernel
theorem d12089_4 : decode (jm_b 12089) 4 = .ok (.ifCond .eq 25, 3) := by decide +kernel
theorem d12089_7 : decode (jm_b 12089) 7 = .ok (.iload_n 1, 1) := by decide +kernel
theorem d12089_8 : decode (jm_b 12089) 8 = .ok (.i2l, 1) := by decide +kernel
theorem d12089_9 : decode (jm_b 12089) 9 = .ok (.lconst 1, 1) := by decide +kernel
theorem d12089_10 : decode (jm_b 12089) 10 = .ok (.ldc2_w 422, 3) := by decide +kernel
theorem d12089_13 : decode (jm_b 12089) 13 = .ok (.invokestatic 170, 3) := by decide +kernel
theorem d12089_16 : decode (jm_b 12089) 16 = .ok (.ifCond .eq 13, 3) := by decide +kernel
theorem d12089_19 : decode (jm_b 12089) 19 = .ok (.iload_n 2, 1) := by decide +kernel
theorem d12089_20 : decode (jm_b 12089) 20 = .ok (.i2l, 1) := by decide +kernel
theorem d12089_21 : decode (jm_b 12089) 21 = .ok (.lconst 0, 1) := by decide +kernel
theorem d12089_22 : decode (jm_b 12089) 22 = .ok (.lconst 1, 1) := by decide +kernel
theorem d12089_23 : decode (jm_b 12089) 23 = .ok (.invokestatic 170, 3) := by decide +kernel
theorem d12089_26 : decode (jm_b 12089) 26 = .ok (.ifCond .ne 6, 3) := by decide +kernel
theorem d12089_29 : decode (jm_b 12089) 29 = .ok (.bipush (-100), 2) := by decide +kernel
theorem d12089_31 : decode (jm_b 12089) 31 = .ok (.ireturn, 1) := by decide +kernel
theorem d12089_32 : decode (jm_b 12089) 32 = .ok (.aload_n 0, 1) := by decide +kernel
theorem d12089_33 : decode (jm_b 12089) 33 = .ok (.iload_n 1, 1) := by decide +kernel
theorem d12089_34 : decode (jm_b 12089) 34 = .ok (.invokevirtual 528, 3) := by decide +kernel
theorem d12089_37 : decode (jm_b 12089) 37 = .ok (.istore_n 3, 1) := by decide +kernel
theorem d12089_38 : decode (jm_b 12089) 38 = .ok (.iload_n 2, 1) := by decide +kernel
theorem d12089_39 : decode (jm_b 12089) 39 = .ok (.ifCond .ne 7, 3) := by decide +kernel
theorem d12089_42 : decode (jm_b 12089) 42 = .ok (.iload_n 3, 1) := by decide +kernel
theorem d12089_43 : decode (jm_b 12089) 43 = .ok (.goto 7, 3) := by decide +kernel
theorem d12089_46 : decode (jm_b 12089) 46 = .ok (.aload_n 0, 1) := by decide +kernel
theorem d12089_47 : decode (jm_b 12089) 47 = .ok (.getfield 509, 3) := by decide +kernel
theorem d12089_50 : decode (jm_b 12089) 50 = .ok (.ireturn, 1) := by decide +kernel
theorem d12090_0 : decode (jm_b 12090) 0 = .ok (.iconst 0, 1) := by decide +kernel
theorem d12090_1 : decode (jm_b 12090) 1 = .ok (.istore_n 2, 1) := by decide +kernel
theorem d12090_2 : decode (jm_b 12090) 2 = .ok (.aload_n 0, 1) := by decide +kernel
theorem d12090_3 : decode (jm_b 12090) 3 = .ok (.invokevirtual 482, 3) := by decide +kernel
theorem d12090_6 : decode (jm_b 12090) 6 = .ok (.aload_n 0, 1) := by decide +kernel
theorem d12090_7 : decode (jm_b 12090) 7 = .ok (.iconst 0, 1) := by decide +kernel
theorem d12090_8 : decode (jm_b 12090) 8 = .ok (.iconst 0, 1) := by decide +kernel
theorem d12090_9 : decode (jm_b 12090) 9 = .ok (.invokevirtual 506, 3) := by decide +kernel
theorem d12090_12 : decode (jm_b 12090) 12 = .ok (.aload_n 0, 1) := by decide +kernel
theorem d12090_13 : decode (jm_b 12090) 13 = .ok (.getfield 145, 3) := by decide +kernel
theorem d12090_16 : decode (jm_b 12090) 16 = .ok (.iconst 0, 1) := by decide +kernel
theorem d12090_17 : decode (jm_b 12090) 17 = .ok (.bipush (-2), 2) := by decide +kernel
theorem d12090_19 : decode (jm_b 12090) 19 = .ok (.iastore, 1) := by decide +kernel
theorem d12090_20 : decode (jm_b 12090) 20 = .ok (.aload_n 0, 1) := by decide +kernel
theorem d12090_21 : decode (jm_b 12090) 21 = .ok (.getfield 148, 3) := by decide +kernel
theorem d12090_24 : decode (jm_b 12090) 24 = .ok (.iconst 0, 1) := by decide +kernel
theorem d12090_25 : decode (jm_b 12090) 25 = .ok (.sipush 1000, 3) := by decide +kernel
theorem d12090_28 : decode (jm_b 12090) 28 = .ok (.iastore, 1) := by decide +kernel
theorem d12090_29 : decode (jm_b 12090) 29 = .ok (.aload_n 0, 1) := by decide +kernel
theorem d12090_30 : decode (jm_b 12090) 30 = .ok (.iconst (-1), 1) := by decide +kernel
theorem d12090_31 : decode (jm_b 12090) 31 = .ok (.putfield 509, 3) := by decide +kernel
theorem d12090_34 : decode (jm_b 12090) 34 = .ok (.iload_n 2, 1) := by decide +kernel
theorem d12090_35 : decode (jm_b 12090) 35 = .ok (.ifCond .lt 144, 3) := by decide +kernel
theorem d12090_38 : decode (jm_b 12090) 38 = .ok (.iload_n 2, 1) := by decide +kernel
theorem d12090_39 : decode (jm_b 12090) 39 = .ok (.iload_n 1, 1) := by decide +kernel
theorem d12090_40 : decode (jm_b 12090) 40 = .ok (.if_icmp .ne 18, 3) := by decide +kernel
theorem d12090_43 : decode (jm_b 12090) 43 = .ok (.iinc 2 (-1), 3) := by decide +kernel
theorem d12090_46 : decode (jm_b 12090) 46 = .ok (.aload_n 0, 1) := by decide +kernel
theorem d12090_47 : decode (jm_b 12090) 47 = .ok (.iload_n 2, 1) := by decide +kernel
theorem d12090_48 : decode (jm_b 12090) 48 = .ok (.aload_n 0, 1) := by decide +kernel
theorem d12090_49 : decode (jm_b 12090) 49 = .ok (.invokevirtual 512, 3) := by decide +kernel
theorem d12090_52 : decode (jm_b 12090) 52 = .ok (.invokevirtual 515, 3) := by decide +kernel
theorem d12090_55 : decode (jm_b 12090) 55 = .ok (.goto (-21), 3) := by decide +kernel
theorem d12090_58 : decode (jm_b 12090) 58 = .ok (.aload_n 0, 1) := by decide +kernel
theorem d12090_59 : decode (jm_b 12090) 59 = .ok (.iload_n 2, 1) := by decide +kernel
theorem d12090_60 : decode (jm_b 12090) 60 = .ok (.iconst 1, 1) := by decide +kernel
theorem d12090_61 : decode (jm_b 12090) 61 = .ok (.invokevirtual 506, 3) := by decide +kernel
theorem d12090_64 : decode (jm_b 12090) 64 = .ok (.aload_n 0, 1) := by decide +kernel
theorem d12090_65 : decode (jm_b 12090) 65 = .ok (.getfield 145, 3) := by decide +kernel
theorem d12090_68 : decode (jm_b 12090) 68 = .ok (.iload_n 2, 1) := by decide +kernel
theorem d12090_69 : decode (jm_b 12090) 69 = .ok (.dup2, 1) := by decide +kernel
theorem d12090_70 : decode (jm_b 12090) 70 = .ok (.iaload, 1) := by decide +kernel
theorem d12090_71 : decode (jm_b 12090) 71 = .ok (.iconst 1, 1) := by decide +kernel
theorem d12090_72 : decode (jm_b 12090) 72 = .ok (.iadd, 1) := by decide +kernel
theorem d12090_73 : decode (jm_b 12090) 73 = .ok (.iastore, 1) := by decide +kernel
theorem d12090_74 : decode (jm_b 12090) 74 = .ok (.aload_n 0, 1) := by decide +kernel
theorem d12090_75 : decode (jm_b 12090) 75 = .ok (.getfield 145, 3) := by decide +kernel
theorem d12090_78 : decode (jm_b 12090) 78 = .ok (.iload_n 2, 1) := by decide +kernel
theorem d12090_79 : decode (jm_b 12090) 79 = .ok (.iaload, 1) := by decide +kernel
theorem d12090_80 : decode (jm_b 12090) 80 = .ok (.ifCond .lt 44, 3) := by decide +kernel
theorem d12090_83 : decode (jm_b 12090) 83 = .ok (.aload_n 0, 1) := by decide +kernel
theorem d12090_84 : decode (jm_b 12090) 84 = .ok (.getfield 145, 3) := by decide +kernel
theorem d12090_87 : decode (jm_b 12090) 87 = .ok (.iload_n 2, 1) := by decide +kernel
theorem d12090_88 : decode (jm_b 12090) 88 = .ok (.iaload, 1) := by decide +kernel
theorem d12090_89 : decode (jm_b 12090) 89 = .ok (.aload_n 0, 1) := by decide +kernel
theorem d12090_90 : decode (jm_b 12090) 90 = .ok (.getfield 9, 3) := by decide +kernel
theorem d12090_93 : decode (jm_b 12090) 93 = .ok (.iconst 0, 1) := by decide +kernel
theorem d12090_94 : decode (jm_b 12090) 94 = .ok (.iaload, 1) := by decide +kernel
theorem d12090_95 : decode (jm_b 12090) 95 = .ok (.if_icmp .ge 29, 3) := by decide +kernel
theorem d12090_98 : decode (jm_b 12090) 98 = .ok (.aload_n 0, 1) := by decide +kernel
theorem d12090_99 : decode (jm_b 12090) 99 = .ok (.aload_n 0, 1) := by decide +kernel
theorem d12090_100 : decode (jm_b 12090) 100 = .ok (.getfield 145, 3) := by decide +kernel
theorem d12090_103 : decode (jm_b 12090) 103 = .ok (.iload_n 2, 1) := by decide +kernel
theorem d12090_104 : decode (jm_b 12090) 104 = .ok (.iaload, 1) := by decide +kernel
theorem d12090_105 : decode (jm_b 12090) 105 = .ok (.invokevirtual 182, 3) := by decide +kernel
theorem d12090_108 : decode (jm_b 12090) 108 = .ok (.ifCond .eq 16, 3) := by decide +kernel
theorem d12090_111 : decode (jm_b 12090) 111 = .ok (.aload_n 0, 1) := by decide +kernel
theorem d12090_112 : decode (jm_b 12090) 112 = .ok (.getfield 145, 3) := by decide +kernel
theorem d12090_115 : decode (jm_b 12090) 115 = .ok (.iload_n 2, 1) := by decide +kernel
theorem d12090_116 : decode (jm_b 12090) 116 = .ok (.dup2, 1) := by decide +kernel
theorem d12090_117 : decode (jm_b 12090) 117 = .ok (.iaload, 1) := by decide +kernel
theorem d12090_118 : decode (jm_b 12090) 118 = .ok (.iconst 1, 1) := by decide +kernel
theorem d12090_119 : decode (jm_b 12090) 119 = .ok (.iadd, 1) := by decide +kernel
theorem d12090_120 : decode (jm_b 12090) 120 = .ok (.iastore, 1) := by decide +kernel
theorem d12090_121 : decode (jm_b 12090) 121 = .ok (.goto (-47), 3) := by decide +kernel
theorem d12090_124 : decode (jm_b 12090) 124 = .ok (.aload_n 0, 1) := by decide +kernel
theorem d12090_125 : decode (jm_b 12090) 125 = .ok (.getfield 145, 3) := by decide +kernel
theorem d12090_128 : decode (jm_b 12090) 128 = .ok (.iload_n 2, 1) := by decide +kernel
theorem d12090_129 : decode (jm_b 12090) 129 = .ok (.iaload, 1) := by decide +kernel
theorem d12090_130 : decode (jm_b 12090) 130 = .ok (.aload_n 0, 1) := by decide +kernel
theorem d12090_131 : decode (jm_b 12090) 131 = .ok (.getfield 9, 3) := by decide +kernel
theorem d12090_134 : decode (jm_b 12090) 134 = .ok (.iconst 0, 1) := by decide +kernel
theorem d12090_135 : decode (jm_b 12090) 135 = .ok (.iaload, 1) := by decide +kernel
theorem d12090_136 : decode (jm_b 12090) 136 = .ok (.if_icmp .lt 26, 3) := by decide +kernel
theorem d12090_139 : decode (jm_b 12090) 139 = .ok (.iinc 2 (-1), 3) := by decide +kernel
theorem d12090_142 : decode (jm_b 12090) 142 = .ok (.iload_n 2, 1) := by decide +kernel
theorem d12090_143 : decode (jm_b 12090) 143 = .ok (.ifCond .lt (-109), 3) := by decide +kernel
theorem d12090_146 : decode (jm_b 12090) 146 = .ok (.aload_n 0, 1) := by decide +kernel
theorem d12090_147 : decode (jm_b 12090) 147 = .ok (.iload_n 2, 1) := by decide +kernel
theorem d12090_148 : decode (jm_b 12090) 148 = .ok (.aload_n 0, 1) := by decide +kernel
theorem d12090_149 : decode (jm_b 12090) 149 = .ok (.getfield 148, 3) := by decide +kernel
theorem d12090_152 : decode (jm_b 12090) 152 = .ok (.iload_n 2, 1) := by decide +kernel
theorem d12090_153 : decode (jm_b 12090) 153 = .ok (.iconst 1, 1) := by decide +kernel
theorem d12090_154 : decode (jm_b 12090) 154 = .ok (.iadd, 1) := by decide +kernel
theorem d12090_155 : decode (jm_b 12090) 155 = .ok (.iaload, 1) := by decide +kernel
theorem d12090_156 : decode (jm_b 12090) 156 = .ok (.invokevirtual 515, 3) := by decide +kernel
theorem d12090_159 : decode (jm_b 12090) 159 = .ok (.goto (-125), 3) := by decide +kernel
theorem d12090_162 : decode (jm_b 12090) 162 = .ok (.aload_n 0, 1) := by decide +kernel
theorem d12090_163 : decode (jm_b 12090) 163 = .ok (.iload_n 2, 1) := by decide +kernel
theorem d12090_164 : decode (jm_b 12090) 164 = .ok (.invokevirtual 518, 3) := by decide +kernel
theorem d12090_167 : decode (jm_b 12090) 167 = .ok (.iinc 2 1, 3) := by decide +kernel
theorem d12090_170 : decode (jm_b 12090) 170 = .ok (.aload_n 0, 1) := by decide +kernel
theorem d12090_171 : decode (jm_b 12090) 171 = .ok (.iload_n 2, 1) := by decide +kernel
theorem d12090_172 : decode (jm_b 12090) 172 = .ok (.iload_n 1, 1) := by decide +kernel
theorem d12090_173 : decode (jm_b 12090) 173 = .ok (.invokevirtual 521, 3) := by decide +kernel
theorem d12090_176 : decode (jm_b 12090) 176 = .ok (.goto (-142), 3) := by decide +kernel
theorem d12090_179 : decode (jm_b 12090) 179 = .ok (.aload_n 0, 1) := by decide +kernel
theorem d12090_180 : decode (jm_b 12090) 180 = .ok (.invokevirtual 491, 3) := by decide +kernel
theorem d12090_183 : decode (jm_b 12090) 183 = .ok (.aload_n 0, 1) := by decide +kernel
theorem d12090_184 : decode (jm_b 12090) 184 = .ok (.getfield 148, 3) := by decide +kernel
theorem d12090_187 : decode (jm_b 12090) 187 = .ok (.iconst 0, 1) := by decide +kernel
theorem d12090_188 : decode (jm_b 12090) 188 = .ok (.iaload, 1) := by decide +kernel
theorem d12090_189 : decode (jm_b 12090) 189 = .ok (.ireturn, 1) := by decide +kernel
theorem d12091_0 : decode (jm_b 12091) 0 = .ok (.bipush 21, 2) := by decide +kernel
theorem d12091_2 : decode (jm_b 12091) 2 = .ok (.iload_n 1, 1) := by decide +kernel
theorem d12091_3 : decode (jm_b 12091) 3 = .ok (.imul, 1) := by decide +kernel
theorem d12091_4 : decode (jm_b 12091) 4 = .ok (.istore_n 3, 1) := by decide +kernel
theorem d12091_5 : decode (jm_b 12091) 5 = .ok (.iconst 0, 1) := by decide +kernel
theorem d12091_6 : decode (jm_b 12091) 6 = .ok (.istore 4, 2) := by decide +kernel
theorem d12091_8 : decode (jm_b 12091) 8 = .ok (.iload 4, 2) := by decide +kernel
theorem d12091_10 : decode (jm_b 12091) 10 = .ok (.bipush 10, 2) := by decide +kernel
theorem d12091_12 : decode (jm_b 12091) 12 = .ok (.if_icmp .ge 86, 3) := by decide +kernel
theorem d12091_15 : decode (jm_b 12091) 15 = .ok (.iload_n 2, 1) := by decide +kernel
theorem d12091_16 : decode (jm_b 12091) 16 = .ok (.ifCond .eq 41, 3) := by decide +kernel
theorem d12091_19 : decode (jm_b 12091) 19 = .ok (.aload_n 0, 1) := by decide +kernel
theorem d12091_20 : decode (jm_b 12091) 20 = .ok (.getfield 13, 3) := by decide +kernel
theorem d12091_23 : decode (jm_b 12091) 23 = .ok (.iload 4, 2) := by decide +kernel
theorem d12091_25 : decode (jm_b 12091) 25 = .ok (.aload_n 0, 1) := by decide +kernel
theorem d12091_26 : decode (jm_b 12091) 26 = .ok (.getfield 142, 3) := by decide +kernel
theorem d12091_29 : decode (jm_b 12091) 29 = .ok (.iload_n 3, 1) := by decide +kernel
theorem d12091_30 : decode (jm_b 12091) 30 = .ok (.iload 4, 2) := by decide +kernel
theorem d12091_32 : decode (jm_b 12091) 32 = .ok (.iadd, 1) := by decide +kernel
theorem d12091_33 : decode (jm_b 12091) 33 = .ok (.iaload, 1) := by decide +kernel
theorem d12091_34 : decode (jm_b 12091) 34 = .ok (.iastore, 1) := by decide +kernel
theorem d12091_35 : decode (jm_b 12091) 35 = .ok (.aload_n 0, 1) := by decide +kernel
theorem d12091_36 : decode (jm_b 12091) 36 = .ok (.getfield 16, 3) := by decide +kernel
theorem d12091_39 : decode (jm_b 12091) 39 = .ok (.iload 4, 2) := by decide +kernel
theorem d12091_41 : decode (jm_b 12091) 41 = .ok (.aload_n 0, 1) := by decide +kernel
theorem d12091_42 : decode (jm_b 12091) 42 = .ok (.getfield 142, 3) := by decide +kernel
theorem d12091_45 : decode (jm_b 12091) 45 = .ok (.iload_n 3, 1) := by decide +kernel
theorem d12091_46 : decode (jm_b 12091) 46 = .ok (.bipush 10, 2) := by decide +kernel
theorem d12091_48 : decode (jm_b 12091) 48 = .ok (.iadd, 1) := by decide +kernel
theorem d12091_49 : decode (jm_b 12091) 49 = .ok (.iload 4, 2) := by decide +kernel
theorem d12091_51 : decode (jm_b 12091) 51 = .ok (.iadd, 1) := by decide +kernel
theorem d12091_52 : decode (jm_b 12091) 52 = .ok (.iaload, 1) := by decide +kernel
theorem d12091_53 : decode (jm_b 12091) 53 = .ok (.iastore, 1) := by decide +kernel
theorem d12091_54 : decode (jm_b 12091) 54 = .ok (.goto 38, 3) := by decide +kernel
theorem d12091_57 : decode (jm_b 12091) 57 = .ok (.aload_n 0, 1) := by decide +kernel
theorem d12091_58 : decode (jm_b 12091) 58 = .ok (.getfield 142, 3) := by decide +kernel
theorem d12091_61 : decode (jm_b 12091) 61 = .ok (.iload_n 3, 1) := by decide +kernel
theorem d12091_62 : decode (jm_b 12091) 62 = .ok (.iload 4, 2) := by decide +kernel
theorem d12091_64 : decode (jm_b 12091) 64 = .ok (.iadd, 1) := by decide +kernel
theorem d12091_65 : decode (jm_b 12091) 65 = .ok (.aload_n 0, 1) := by decide +kernel
theorem d12091_66 : decode (jm_b 12091) 66 = .ok (.getfield 13, 3) := by decide +kernel
theorem d12091_69 : decode (jm_b 12091) 69 = .ok (.iload 4, 2) := by decide +kernel
theorem d12091_71 : decode (jm_b 12091) 71 = .ok (.iaload, 1) := by decide +kernel
theorem d12091_72 : decode (jm_b 12091) 72 = .ok (.iastore, 1) := by decide +kernel
theorem d12091_73 : decode (jm_b 12091) 73 = .ok (.aload_n 0, 1) := by decide +kernel
theorem d12091_74 : decode (jm_b 12091) 74 = .ok (.getfield 142, 3) := by decide +kernel
theorem d12091_77 : decode (jm_b 12091) 77 = .ok (.iload_n 3, 1) := by decide +kernel
theorem d12091_78 : decode (jm_b 12091) 78 = .ok (.bipush 10, 2) := by decide +kernel
theorem d12091_80 : decode (jm_b 12091) 80 = .ok (.iadd, 1) := by decide +kernel
theorem d12091_81 : decode (jm_b 12091) 81 = .ok (.iload 4, 2) := by decide +kernel
theorem d12091_83 : decode (jm_b 12091) 83 = .ok (.iadd, 1) := by decide +kernel
theorem d12091_84 : decode (jm_b 12091) 84 = .ok (.aload_n 0, 1) := by decide +kernel
theorem d12091_85 : decode (jm_b 12091) 85 = .ok (.getfield 16, 3) := by decide +kernel
theorem d12091_88 : decode (jm_b 12091) 88 = .ok (.iload 4, 2) := by decide +kernel
theorem d12091_90 : decode (jm_b 12091) 90 = .ok (.iaload, 1) := by decide +kernel
theorem d12091_91 : decode (jm_b 12091) 91 = .ok (.iastore, 1) := by decide +kernel
theorem d12091_92 : decode (jm_b 12091) 92 = .ok (.iinc 4 1, 3) := by decide +kernel
theorem d12091_95 : decode (jm_b 12091) 95 = .ok (.goto (-87), 3) := by decide +kernel
theorem d12091_98 : decode (jm_b 12091) 98 = .ok (.iload_n 2, 1) := by decide +kernel
theorem d12091_99 : decode (jm_b 12091) 99 = .ok (.ifCond .eq 21, 3) := by decide +kernel
theorem d12091_102 : decode (jm_b 12091) 102 = .ok (.aload_n 0, 1) := by decide +kernel
theorem d12091_103 : decode (jm_b 12091) 103 = .ok (.getfield 9, 3) := by decide +kernel
theorem d12091_106 : decode (jm_b 12091) 106 = .ok (.iconst 5, 1) := by decide +kernel
theorem d12091_107 : decode (jm_b 12091) 107 = .ok (.aload_n 0, 1) := by decide +kernel
theorem d12091_108 : decode (jm_b 12091) 108 = .ok (.getfield 142, 3) := by decide +kernel
theorem d12091_111 : decode (jm_b 12091) 111 = .ok (.iload_n 3, 1) := by decide +kernel
theorem d12091_112 : decode (jm_b 12091) 112 = .ok (.bipush 20, 2) := by decide +kernel
theorem d12091_114 : decode (jm_b 12091) 114 = .ok (.iadd, 1) := by decide +kernel
theorem d12091_115 : decode (jm_b 12091) 115 = .ok (.iaload, 1) := by decide +kernel
theorem d12091_116 : decode (jm_b 12091) 116 = .ok (.iastore, 1) := by decide +kernel
theorem d12091_117 : decode (jm_b 12091) 117 = .ok (.goto 18, 3) := by decide +kernel
theorem d12091_120 : decode (jm_b 12091) 120 = .ok (.aload_n 0, 1) := by decide +kernel
theorem d12091_121 : decode (jm_b 12091) 121 = .ok (.getfield 142, 3) := by decide +kernel
theorem d12091_124 : decode (jm_b 12091) 124 = .ok (.iload_n 3, 1) := by decide +kernel
theorem d12091_125 : decode (jm_b 12091) 125 = .ok (.bipush 20, 2) := by decide +kernel
theorem d12091_127 : decode (jm_b 12091) 127 = .ok (.iadd, 1) := by decide +kernel
theorem d12091_128 : decode (jm_b 12091) 128 = .ok (.aload_n 0, 1) := by decide +kernel
theorem d12091_129 : decode (jm_b 12091) 129 = .ok (.getfield 9, 3) := by decide +kernel
theorem d12091_132 : decode (jm_b 12091) 132 = .ok (.iconst 5, 1) := by decide +kernel
theorem d12091_133 : decode (jm_b 12091) 133 = .ok (.iaload, 1) := by decide +kernel
theorem d12091_134 : decode (jm_b 12091) 134 = .ok (.iastore, 1) := by decide +kernel
theorem d12091_135 : decode (jm_b 12091) 135 = .ok (.return_, 1) := by decide +kernel
theorem d12092_0 : decode (jm_b 12092) 0 = .ok (.aload_n 0, 1) := by decide +kernel
theorem d12092_1 : decode (jm_b 12092) 1 = .ok (.iconst 0, 1) := by decide +kernel
theorem d12092_2 : decode (jm_b 12092) 2 = .ok (.invokevirtual 488, 3) := by decide +kernel
theorem d12092_5 : decode (jm_b 12092) 5 = .ok (.invokestatic 503, 3) := by decide +kernel
theorem d12092_8 : decode (jm_b 12092) 8 = .ok (.aload_n 0, 1) := by decide +kernel
theorem d12092_9 : decode (jm_b 12092) 9 = .ok (.iconst 1, 1) := by decide +kernel
theorem d12092_10 : decode (jm_b 12092) 10 = .ok (.invokevirtual 488, 3) := by decide +kernel
theorem d12092_13 : decode (jm_b 12092) 13 = .ok (.invokestatic 503, 3) := by decide +kernel
theorem d12092_16 : decode (jm_b 12092) 16 = .ok (.isub, 1) := by decide +kernel
theorem d12092_17 : decode (jm_b 12092) 17 = .ok (.ireturn, 1) := by decide +kernel
theorem d12093_0 : decode (jm_b 12093) 0 = .ok (.iconst 0, 1) := by decide +kernel
theorem d12093_1 : decode (jm_b 12093) 1 = .ok (.istore_n 1, 1) := by decide +kernel
theorem d12093_2 : decode (jm_b 12093) 2 = .ok (.iconst 0, 1) := by decide +kernel
theorem d12093_3 : decode (jm_b 12093) 3 = .ok (.istore_n 2, 1) := by decide +kernel
theorem d12093_4 : decode (jm_b 12093) 4 = .ok (.iload_n 2, 1) := by decide +kernel
theorem d12093_5 : decode (jm_b 12093) 5 = .ok (.bipush 16, 2) := by decide +kernel
theorem d12093_7 : decode (jm_b 12093) 7 = .ok (.if_icmp .ge 17, 3) := by decide +kernel
theorem d12093_10 : decode (jm_b 12093) 10 = .ok (.iload_n 1, 1) := by decide +kernel
theorem d12093_11 : decode (jm_b 12093) 11 = .ok (.iload_n 0, 1) := by decide +kernel
theorem d12093_12 : decode (jm_b 12093) 12 = .ok (.iload_n 2, 1) := by decide +kernel
theorem d12093_13 : decode (jm_b 12093) 13 = .ok (.ishr, 1) := by decide +kernel
theorem d12093_14 : decode (jm_b 12093) 14 = .ok (.iconst 1, 1) := by decide +kernel
theorem d12093_15 : decode (jm_b 12093) 15 = .ok (.iand, 1) := by decide +kernel
theorem d12093_16 : decode (jm_b 12093) 16 = .ok (.iadd, 1) := by decide +kernel
theorem d12093_17 : decode (jm_b 12093) 17 = .ok (.istore_n 1, 1) := by decide +kernel
theorem d12093_18 : decode (jm_b 12093) 18 = .ok (.iinc 2 1, 3) := by decide +kernel
theorem d12093_21 : decode (jm_b 12093) 21 = .ok (.goto (-17), 3) := by decide +kernel
theorem d12093_24 : decode (jm_b 12093) 24 = .ok (.iload_n 1, 1) := by decide +kernel
theorem d12093_25 : decode (jm_b 12093) 25 = .ok (.ireturn, 1) := by decide +kernel
theorem d12094_0 : decode (jm_b 12094) 0 = .ok (.iload_n 2, 1) := by decide +kernel
theorem d12094_1 : decode (jm_b 12094) 1 = .ok (.aload_n 0, 1) := by decide +kernel
theorem d12094_2 : decode (jm_b 12094) 2 = .ok (.getfield 148, 3) := by decide +kernel
theorem d12094_5 : decode (jm_b 12094) 5 = .ok (.iload_n 1, 1) := by decide +kernel
theorem d12094_6 : decode (jm_b 12094) 6 = .ok (.iaload, 1) := by decide +kernel
theorem d12094_7 : decode (jm_b 12094) 7 = .ok (.iload_n 1, 1) := by decide +kernel
theorem d12094_8 : decode (jm_b 12094) 8 = .ok (.invokestatic 524, 3) := by decide +kernel
theorem d12094_11 : decode (jm_b 12094) 11 = .ok (.ifCond .eq 31, 3) := by decide +kernel
theorem d12094_14 : decode (jm_b 12094) 14 = .ok (.aload_n 0, 1) := by decide +kernel
theorem d12094_15 : decode (jm_b 12094) 15 = .ok (.getfield 148, 3) := by decide +kernel
theorem d12094_18 : decode (jm_b 12094) 18 = .ok (.iload_n 1, 1) := by decide +kernel
theorem d12094_19 : decode (jm_b 12094) 19 = .ok (.iload_n 2, 1) := by decide +kernel
theorem d12094_20 : decode (jm_b 12094) 20 = .ok (.iastore, 1) := by decide +kernel
theorem d12094_21 : decode (jm_b 12094) 21 = .ok (.aload_n 0, 1) := by decide +kernel
theorem d12094_22 : decode (jm_b 12094) 22 = .ok (.iload_n 1, 1) := by decide +kernel
theorem d12094_23 : decode (jm_b 12094) 23 = .ok (.ifCond .ne 12, 3) := by decide +kernel
theorem d12094_26 : decode (jm_b 12094) 26 = .ok (.aload_n 0, 1) := by decide +kernel
theorem d12094_27 : decode (jm_b 12094) 27 = .ok (.getfield 145, 3) := by decide +kernel
theorem d12094_30 : decode (jm_b 12094) 30 = .ok (.iconst 0, 1) := by decide +kernel
theorem d12094_31 : decode (jm_b 12094) 31 = .ok (.iaload, 1) := by decide +kernel
theorem d12094_32 : decode (jm_b 12094) 32 = .ok (.goto 7, 3) := by decide +kernel
theorem d12094_35 : decode (jm_b 12094) 35 = .ok (.aload_n 0, 1) := by decide +kernel
theorem d12094_36 : decode (jm_b 12094) 36 = .ok (.getfield 509, 3) := by decide +kernel
theorem d12094_39 : decode (jm_b 12094) 39 = .ok (.putfield 509, 3) := by decide +kernel
theorem d12094_42 : decode (jm_b 12094) 42 = .ok (.return_, 1) := by decide +kernel
theorem d12095_0 : decode (jm_b 12095) 0 = .ok (.iload_n 1, 1) := by decide +kernel
theorem d12095_1 : decode (jm_b 12095) 1 = .ok (.sipush 1000, 3) := by decide +kernel
theorem d12095_4 : decode (jm_b 12095) 4 = .ok (.if_icmp .eq 22, 3) := by decide +kernel
theorem d12095_7 : decode (jm_b 12095) 7 = .ok (.iload_n 2, 1) := by decide +kernel
theorem d12095_8 : decode (jm_b 12095) 8 = .ok (.iconst 2, 1) := by decide +kernel
theorem d12095_9 : decode (jm_b 12095) 9 = .ok (.irem, 1) := by decide +kernel
theorem d12095_10 : decode (jm_b 12095) 10 = .ok (.ifCond .ne 11, 3) := by decide +kernel
theorem d12095_13 : decode (jm_b 12095) 13 = .ok (.iload_n 0, 1) := by decide +kernel
theorem d12095_14 : decode (jm_b 12095) 14 = .ok (.iload_n 1, 1) := by decide +kernel
theorem d12095_15 : decode (jm_b 12095) 15 = .ok (.if_icmp .le 15, 3) := by decide +kernel
theorem d12095_18 : decode (jm_b 12095) 18 = .ok (.goto 8, 3) := by decide +kernel
theorem d12095_21 : decode (jm_b 12095) 21 = .ok (.iload_n 0, 1) := by decide +kernel
theorem d12095_22 : decode (jm_b 12095) 22 = .ok (.iload_n 1, 1) := by decide +kernel
theorem d12095_23 : decode (jm_b 12095) 23 = .ok (.if_icmp .ge 7, 3) := by decide +kernel
theorem d12095_26 : decode (jm_b 12095) 26 = .ok (.iconst 1, 1) := by decide +kernel
theorem d12095_27 : decode (jm_b 12095) 27 = .ok (.goto 4, 3) := by decide +kernel
theorem d12095_30 : decode (jm_b 12095) 30 = .ok (.iconst 0, 1) := by decide +kernel
theorem d12095_31 : decode (jm_b 12095) 31 = .ok (.ireturn, 1) := by decide +kernel
theorem d12096_0 : decode (jm_b 12096) 0 = .ok (.aload_n 0, 1) := by decide +kernel
theorem d12096_1 : decode (jm_b 12096) 1 = .ok (.getfield 145, 3) := by decide +kernel
theorem d12096_4 : decode (jm_b 12096) 4 = .ok (.iload_n 1, 1) := by decide +kernel
theorem d12096_5 : decode (jm_b 12096) 5 = .ok (.iaload, 1) := by decide +kernel
theorem d12096_6 : decode (jm_b 12096) 6 = .ok (.iconst (-1), 1) := by decide +kernel
theorem d12096_7 : decode (jm_b 12096) 7 = .ok (.if_icmp .eq 24, 3) := by decide +kernel
theorem d12096_10 : decode (jm_b 12096) 10 = .ok (.aload_n 0, 1) := by decide +kernel
theorem d12096_11 : decode (jm_b 12096) 11 = .ok (.aload_n 0, 1) := by decide +kernel
theorem d12096_12 : decode (jm_b 12096) 12 = .ok (.getfield 145, 3) := by decide +kernel
theorem d12096_15 : decode (jm_b 12096) 15 = .ok (.iload_n 1, 1) := by decide +kernel
theorem d12096_16 : decode (jm_b 12096) 16 = .ok (.iaload, 1) := by decide +kernel
theorem d12096_17 : decode (jm_b 12096) 17 = .ok (.iload_n 1, 1) := by decide +kernel
theorem d12096_18 : decode (jm_b 12096) 18 = .ok (.iconst 2, 1) := by decide +kernel
theorem d12096_19 : decode (jm_b 12096) 19 = .ok (.irem, 1) := by decide +kernel
theorem d12096_20 : decode (jm_b 12096) 20 = .ok (.ifCond .ne 7, 3) := by decide +kernel
theorem d12096_23 : decode (jm_b 12096) 23 = .ok (.iconst 1, 1) := by decide +kernel
theorem d12096_24 : decode (jm_b 12096) 24 = .ok (.goto 4, 3) := by decide +kernel
theorem d12096_27 : decode (jm_b 12096) 27 = .ok (.iconst (-1), 1) := by decide +kernel
theorem d12096_28 : decode (jm_b 12096) 28 = .ok (.invokevirtual 470, 3) := by decide +kernel
theorem d12096_31 : decode (jm_b 12096) 31 = .ok (.aload_n 0, 1) := by decide +kernel
theorem d12096_32 : decode (jm_b 12096) 32 = .ok (.invokevirtual 439, 3) := by decide +kernel
theorem d12096_35 : decode (jm_b 12096) 35 = .ok (.pop, 1) := by decide +kernel
theorem d12096_36 : decode (jm_b 12096) 36 = .ok (.return_, 1) := by decide +kernel
theorem d12097_0 : decode (jm_b 12097) 0 = .ok (.iload_n 1, 1) := by decide +kernel
theorem d12097_1 : decode (jm_b 12097) 1 = .ok (.iload_n 2, 1) := by decide +kernel
theorem d12097_2 : decode (jm_b 12097) 2 = .ok (.if_icmp .ge 26, 3) := by decide +kernel
theorem d12097_5 : decode (jm_b 12097) 5 = .ok (.aload_n 0, 1) := by decide +kernel
theorem d12097_6 : decode (jm_b 12097) 6 = .ok (.iload_n 1, 1) := by decide +kernel
theorem d12097_7 : decode (jm_b 12097) 7 = .ok (.iconst 0, 1) := by decide +kernel
theorem d12097_8 : decode (jm_b 12097) 8 = .ok (.invokevirtual 506, 3) := by decide +kernel
theorem d12097_11 : decode (jm_b 12097) 11 = .ok (.aload_n 0, 1) := by decide +kernel
theorem d12097_12 : decode (jm_b 12097) 12 = .ok (.getfield 145, 3) := by decide +kernel
theorem d12097_15 : decode (jm_b 12097) 15 = .ok (.iload_n 1, 1) := by decide +kernel
theorem d12097_16 : decode (jm_b 12097) 16 = .ok (.bipush (-2), 2) := by decide +kernel
theorem d12097_18 : decode (jm_b 12097) 18 = .ok (.iastore, 1) := by decide +kernel
theorem d12097_19 : decode (jm_b 12097) 19 = .ok (.aload_n 0, 1) := by decide +kernel
theorem d12097_20 : decode (jm_b 12097) 20 = .ok (.getfield 148, 3) := by decide +kernel
theorem d12097_23 : decode (jm_b 12097) 23 = .ok (.iload_n 1, 1) := by decide +kernel
theorem d12097_24 : decode (jm_b 12097) 24 = .ok (.sipush 1000, 3) := by decide +kernel
theorem d12097_27 : decode (jm_b 12097) 27 = .ok (.iastore, 1) := by decide +kernel
theorem d12097_28 : decode (jm_b 12097) 28 = .ok (.return_, 1) := by decide +kernel
theorem d12098_0 : decode (jm_b 12098) 0 = .ok (.iload_n 1, 1) := by decide +kernel
theorem d12098_1 : decode (jm_b 12098) 1 = .ok (.iconst (-1), 1) := by decide +kernel
theorem d12098_2 : decode (jm_b 12098) 2 = .ok (.if_icmp .ne 13, 3) := by decide +kernel
theorem d12098_5 : decode (jm_b 12098) 5 = .ok (.aload_n 0, 1) := by decide +kernel
theorem d12098_6 : decode (jm_b 12098) 6 = .ok (.getfield 9, 3) := by decide +kernel
theorem d12098_9 : decode (jm_b 12098) 9 = .ok (.bipush 6, 2) := by decide +kernel
theorem d12098_11 : decode (jm_b 12098) 11 = .ok (.iconst 0, 1) := by decide +kernel
theorem d12098_12 : decode (jm_b 12098) 12 = .ok (.iastore, 1) := by decide +kernel
theorem d12098_13 : decode (jm_b 12098) 13 = .ok (.iconst 0, 1) := by decide +kernel
theorem d12098_14 : decode (jm_b 12098) 14 = .ok (.ireturn, 1) := by decide +kernel
theorem d12098_15 : decode (jm_b 12098) 15 = .ok (.aload_n 0, 1) := by decide +kernel
theorem d12098_16 : decode (jm_b 12098) 16 = .ok (.getfield 9, 3) := by decide +kernel
theorem d12098_19 : decode (jm_b 12098) 19 = .ok (.bipush 6, 2) := by decide +kernel
theorem d12098_21 : decode (jm_b 12098) 21 = .ok (.iaload, 1) := by decide +kernel
theorem d12098_22 : decode (jm_b 12098) 22 = .ok (.istore 4, 2) := by decide +kernel
theorem d12098_24 : decode (jm_b 12098) 24 = .ok (.iload_n 1, 1) := by decide +kernel
theorem d12098_25 : decode (jm_b 12098) 25 = .ok (.i2l, 1) := by decide +kernel
theorem d12098_26 : decode (jm_b 12098) 26 = .ok (.lconst 0, 1) := by decide +kernel
theorem d12098_27 : decode (jm_b 12098) 27 = .ok (.ldc2_w 531, 3) := by decide +kernel
theorem d12098_30 : decode (jm_b 12098) 30 = .ok (.invokestatic 170, 3) := by decide +kernel
theorem d12098_33 : decode (jm_b 12098) 33 = .ok (.ifCond .eq 30, 3) := by decide +kernel
theorem d12098_36 : decode (jm_b 12098) 36 = .ok (.aload_n 0, 1) := by decide +kernel
theorem d12098_37 : decode (jm_b 12098) 37 = .ok (.iload_n 2, 1) := by decide +kernel
theorem d12098_38 : decode (jm_b 12098) 38 = .ok (.invokevirtual 178, 3) := by decide +kernel
theorem d12098_41 : decode (jm_b 12098) 41 = .ok (.ifCond .eq 22, 3) := by decide +kernel
theorem d12098_44 : decode (jm_b 12098) 44 = .ok (.iload_n 3, 1) := by decide +kernel
theorem d12098_45 : decode (jm_b 12098) 45 = .ok (.i2l, 1) := by decide +kernel
theorem d12098_46 : decode (jm_b 12098) 46 = .ok (.lconst 0, 1) := by decide +kernel
theorem d12098_47 : decode (jm_b 12098) 47 = .ok (.ldc2_w 473, 3) := by decide +kernel
theorem d12098_50 : decode (jm_b 12098) 50 = .ok (.invokestatic 170, 3) := by decide +kernel
theorem d12098_53 : decode (jm_b 12098) 53 = .ok (.ifCond .eq 10, 3) := by decide +kernel
theorem d12098_56 : decode (jm_b 12098) 56 = .ok (.iload 4, 2) := by decide +kernel
theorem d12098_58 : decode (jm_b 12098) 58 = .ok (.bipush 10, 2) := by decide +kernel
theorem d12098_60 : decode (jm_b 12098) 60 = .ok (.if_icmp .ne 6, 3) := by decide +kernel
theorem d12098_63 : decode (jm_b 12098) 63 = .ok (.bipush (-2), 2) := by decide +kernel
theorem d12098_65 : decode (jm_b 12098) 65 = .ok (.ireturn, 1) := by decide +kernel
theorem d12098_66 : decode (jm_b 12098) 66 = .ok (.aload_n 0, 1) := by decide +kernel
theorem d12098_67 : decode (jm_b 12098) 67 = .ok (.getfield 43, 3) := by decide +kernel
theorem d12098_70 : decode (jm_b 12098) 70 = .ok (.iload 4, 2) := by decide +kernel
theorem d12098_72 : decode (jm_b 12098) 72 = .ok (.iload_n 1, 1) := by decide +kernel
theorem d12098_73 : decode (jm_b 12098) 73 = .ok (.iastore, 1) := by decide +kernel
theorem d12098_74 : decode (jm_b 12098) 74 = .ok (.aload_n 0, 1) := by decide +kernel
theorem d12098_75 : decode (jm_b 12098) 75 = .ok (.getfield 46, 3) := by decide +kernel
theorem d12098_78 : decode (jm_b 12098) 78 = .ok (.iload 4, 2) := by decide +kernel
theorem d12098_80 : decode (jm_b 12098) 80 = .ok (.iload_n 2, 1) := by decide +kernel
theorem d12098_81 : decode (jm_b 12098) 81 = .ok (.iastore, 1) := by decide +kernel
theorem d12098_82 : decode (jm_b 12098) 82 = .ok (.aload_n 0, 1) := by decide +kernel
theorem d12098_83 : decode (jm_b 12098) 83 = .ok (.getfield 49, 3) := by decide +kernel
theorem d12098_86 : decode (jm_b 12098) 86 = .ok (.iload 4, 2) := by decide +kernel
theorem d12098_88 : decode (jm_b 12098) 88 = .ok (.iload_n 3, 1) := by decide +kernel
theorem d12098_89 : decode (jm_b 12098) 89 = .ok (.iastore, 1) := by decide +kernel
theorem d12098_90 : decode (jm_b 12098) 90 = .ok (.aload_n 0, 1) := by decide +kernel
theorem d12098_91 : decode (jm_b 12098) 91 = .ok (.getfield 9, 3) := by decide +kernel
theorem d12098_94 : decode (jm_b 12098) 94 = .ok (.bipush 6, 2) := by decide +kernel
theorem d12098_96 : decode (jm_b 12098) 96 = .ok (.dup2, 1) := by decide +kernel
theorem d12098_97 : decode (jm_b 12098) 97 = .ok (.iaload, 1) := by decide +kernel
theorem d12098_98 : decode (jm_b 12098) 98 = .ok (.iconst 1, 1) := by decide +kernel
theorem d12098_99 : decode (jm_b 12098) 99 = .ok (.iadd, 1) := by decide +kernel
theorem d12098_100 : decode (jm_b 12098) 100 = .ok (.iastore, 1) := by decide +kernel
theorem d12098_101 : decode (jm_b 12098) 101 = .ok (.iload 4, 2) := by decide +kernel
theorem d12098_103 : decode (jm_b 12098) 103 = .ok (.iconst 1, 1) := by decide +kernel
theorem d12098_104 : decode (jm_b 12098) 104 = .ok (.iadd, 1) := by decide +kernel
theorem d12098_105 : decode (jm_b 12098) 105 = .ok (.ireturn, 1) := by decide +kernel
theorem d12099_0 : decode (jm_b 12099) 0 = .ok (.aload_n 0, 1) := by decide +kernel
theorem d12099_1 : decode (jm_b 12099) 1 = .ok (.invokevirtual 400, 3) := by decide +kernel
theorem d12099_4 : decode (jm_b 12099) 4 = .ok (.ifCond .eq 27, 3) := by decide +kernel
theorem d12099_7 : decode (jm_b 12099) 7 = .ok (.iload_n 1, 1) := by decide +kernel
theorem d12099_8 : decode (jm_b 12099) 8 = .ok (.i2l, 1) := by decide +kernel
theorem d12099_9 : decode (jm_b 12099) 9 = .ok (.lconst 1, 1) := by decide +kernel
theorem d12099_10 : decode (jm_b 12099) 10 = .ok (.ldc2_w 473, 3) := by decide +kernel
theorem d12099_13 : decode (jm_b 12099) 13 = .ok (.invokestatic 170, 3) := by decide +kernel
theorem d12099_16 : decode (jm_b 12099) 16 = .ok (.ifCond .eq 15, 3) := by decide +kernel
theorem d12099_19 : decode (jm_b 12099) 19 = .ok (.iload_n 2, 1) := by decide +kernel
theorem d12099_20 : decode (jm_b 12099) 20 = .ok (.i2l, 1) := by decide +kernel
theorem d12099_21 : decode (jm_b 12099) 21 = .ok (.lconst 0, 1) := by decide +kernel
theorem d12099_22 : decode (jm_b 12099) 22 = .ok (.ldc2_w 480, 3) := by decide +kernel
theorem d12099_25 : decode (jm_b 12099) 25 = .ok (.invokestatic 170, 3) := by decide +kernel
theorem d12099_28 : decode (jm_b 12099) 28 = .ok (.ifCond .ne 5, 3) := by decide +kernel
theorem d12099_31 : decode (jm_b 12099) 31 = .ok (.iconst (-1), 1) := by decide +kernel
theorem d12099_32 : decode (jm_b 12099) 32 = .ok (.ireturn, 1) := by decide +kernel
theorem d12099_33 : decode (jm_b 12099) 33 = .ok (.iconst 0, 1) := by decide +kernel
theorem d12099_34 : decode (jm_b 12099) 34 = .ok (.istore_n 3, 1) := by decide +kernel
theorem d12099_35 : decode (jm_b 12099) 35 = .ok (.bipush (-2), 2) := by decide +kernel
theorem d12099_37 : decode (jm_b 12099) 37 = .ok (.istore 4, 2) := by decide +kernel
theorem d12099_39 : decode (jm_b 12099) 39 = .ok (.bipush (-2), 2) := by decide +kernel
theorem d12099_41 : decode (jm_b 12099) 41 = .ok (.istore 5, 2) := by decide +kernel
theorem d12099_43 : decode (jm_b 12099) 43 = .ok (.iconst 0, 1) := by decide +kernel
theorem d12099_44 : decode (jm_b 12099) 44 = .ok (.istore 6, 2) := by decide +kernel
theorem d12099_46 : decode (jm_b 12099) 46 = .ok (.iload 6, 2) := by decide +kernel
theorem d12099_48 : decode (jm_b 12099) 48 = .ok (.aload_n 0, 1) := by decide +kernel
theorem d12099_49 : decode (jm_b 12099) 49 = .ok (.getfield 9, 3) := by decide +kernel
theorem d12099_52 : decode (jm_b 12099) 52 = .ok (.iconst 0, 1) := by decide +kernel
theorem d12099_53 : decode (jm_b 12099) 53 = .ok (.iaload, 1) := by decide +kernel
theorem d12099_54 : decode (jm_b 12099) 54 = .ok (.if_icmp .ge 66, 3) := by decide +kernel
theorem d12099_57 : decode (jm_b 12099) 57 = .ok (.iconst 0, 1) := by decide +kernel
theorem d12099_58 : decode (jm_b 12099) 58 = .ok (.istore 7, 2) := by decide +kernel
theorem d12099_60 : decode (jm_b 12099) 60 = .ok (.iload 7, 2) := by decide +kernel
theorem d12099_62 : decode (jm_b 12099) 62 = .ok (.bipush 30, 2) := by decide +kernel
theorem d12099_64 : decode (jm_b 12099) 64 = .ok (.if_icmp .ge 50, 3) := by decide +kernel
theorem d12099_67 : decode (jm_b 12099) 67 = .ok (.aload_n 0, 1) := by decide +kernel
theorem d12099_68 : decode (jm_b 12099) 68 = .ok (.iload 6, 2) := by decide +kernel
theorem d12099_70 : decode (jm_b 12099) 70 = .ok (.iload 7, 2) := by decide +kernel
theorem d12099_72 : decode (jm_b 12099) 72 = .ok (.iload_n 1, 1) := by decide +kernel
theorem d12099_73 : decode (jm_b 12099) 73 = .ok (.invokevirtual 540, 3) := by decide +kernel
theorem d12099_76 : decode (jm_b 12099) 76 = .ok (.ifCond .eq 32, 3) := by decide +kernel
theorem d12099_79 : decode (jm_b 12099) 79 = .ok (.iload_n 3, 1) := by decide +kernel
theorem d12099_80 : decode (jm_b 12099) 80 = .ok (.ifCond .ne 8, 3) := by decide +kernel
theorem d12099_83 : decode (jm_b 12099) 83 = .ok (.iload 6, 2) := by decide +kernel
theorem d12099_85 : decode (jm_b 12099) 85 = .ok (.goto 5, 3) := by decide +kernel
theorem d12099_88 : decode (jm_b 12099) 88 = .ok (.iload 4, 2) := by decide +kernel
theorem d12099_90 : decode (jm_b 12099) 90 = .ok (.istore 4, 2) := by decide +kernel
theorem d12099_92 : decode (jm_b 12099) 92 = .ok (.iload_n 3, 1) := by decide +kernel
theorem d12099_93 : decode (jm_b 12099) 93 = .ok (.ifCond .ne 8, 3) := by decide +kernel
theorem d12099_96 : decode (jm_b 12099) 96 = .ok (.iload 7, 2) := by decide +kernel
theorem d12099_98 : decode (jm_b 12099) 98 = .ok (.goto 5, 3) := by decide +kernel
theorem d12099_101 : decode (jm_b 12099) 101 = .ok (.iload 5, 2) := by decide +kernel
theorem d12099_103 : decode (jm_b 12099) 103 = .ok (.istore 5, 2) := by decide +kernel
theorem d12099_105 : decode (jm_b 12099) 105 = .ok (.iinc 3 1, 3) := by decide +kernel
theorem d12099_108 : decode (jm_b 12099) 108 = .ok (.iinc 7 1, 3) := by decide +kernel
theorem d12099_111 : decode (jm_b 12099) 111 = .ok (.goto (-51), 3) := by decide +kernel
theorem d12099_114 : decode (jm_b 12099) 114 = .ok (.iinc 6 1, 3) := by decide +kernel
theorem d12099_117 : decode (jm_b 12099) 117 = .ok (.goto (-71), 3) := by decide +kernel
theorem d12099_120 : decode (jm_b 12099) 120 = .ok (.iload_n 2, 1) := by decide +kernel
theorem d12099_121 : decode (jm_b 12099) 121 = .ok (.ifCond .ne 7, 3) := by decide +kernel
theorem d12099_124 : decode (jm_b 12099) 124 = .ok (.iload_n 3, 1) := by decide +kernel
theorem d12099_125 : decode (jm_b 12099) 125 = .ok (.goto 15, 3) := by decide +kernel
theorem d12099_128 : decode (jm_b 12099) 128 = .ok (.iload_n 2, 1) := by decide +kernel
theorem d12099_129 : decode (jm_b 12099) 129 = .ok (.iconst 1, 1) := by decide +kernel
theorem d12099_130 : decode (jm_b 12099) 130 = .ok (.if_icmp .ne 8, 3) := by decide +kernel
theorem d12099_133 : decode (jm_b 12099) 133 = .ok (.iload 4, 2) := by decide +kernel
theorem d12099_135 : decode (jm_b 12099) 135 = .ok (.goto 5, 3) := by decide +kernel
theorem d12099_138 : decode (jm_b 12099) 138 = .ok (.iload 5, 2) := by decide +kernel
theorem d12099_140 : decode (jm_b 12099) 140 = .ok (.ireturn, 1) := by decide +kernel
theorem d12100_0 : decode (jm_b 12100) 0 = .ok (.aload_n 0, 1) := by decide +kernel
theorem d12100_1 : decode (jm_b 12100) 1 = .ok (.iconst 0, 1) := by decide +kernel
theorem d12100_2 : decode (jm_b 12100) 2 = .ok (.putfield 533, 3) := by decide +kernel
theorem d12100_5 : decode (jm_b 12100) 5 = .ok (.iconst 0, 1) := by decide +kernel
theorem d12100_6 : decode (jm_b 12100) 6 = .ok (.istore 4, 2) := by decide +kernel
theorem d12100_8 : decode (jm_b 12100) 8 = .ok (.iload 4, 2) := by decide +kernel
theorem d12100_10 : decode (jm_b 12100) 10 = .ok (.aload_n 0, 1) := by decide +kernel
theorem d12100_11 : decode (jm_b 12100) 11 = .ok (.getfield 9, 3) := by decide +kernel
theorem d12100_14 : decode (jm_b 12100) 14 = .ok (.iconst 0, 1) := by decide +kernel
theorem d12100_15 : decode (jm_b 12100) 15 = .ok (.iaload, 1) := by decide +kernel
theorem d12100_16 : decode (jm_b 12100) 16 = .ok (.if_icmp .ge 18, 3) := by decide +kernel
theorem d12100_19 : decode (jm_b 12100) 19 = .ok (.aload_n 0, 1) := by decide +kernel
theorem d12100_20 : decode (jm_b 12100) 20 = .ok (.iload 4, 2) := by decide +kernel
theorem d12100_22 : decode (jm_b 12100) 22 = .ok (.iload_n 1, 1) := by decide +kernel
theorem d12100_23 : decode (jm_b 12100) 23 = .ok (.iload_n 2, 1) := by decide +kernel
theorem d12100_24 : decode (jm_b 12100) 24 = .ok (.iload_n 3, 1) := by decide +kernel
theorem d12100_25 : decode (jm_b 12100) 25 = .ok (.invokevirtual 536, 3) := by decide +kernel
theorem d12100_28 : decode (jm_b 12100) 28 = .ok (.iinc 4 1, 3) := by decide +kernel
theorem d12100_31 : decode (jm_b 12100) 31 = .ok (.goto (-23), 3) := by decide +kernel
theorem d12100_34 : decode (jm_b 12100) 34 = .ok (.aload_n 0, 1) := by decide +kernel
theorem d12100_35 : decode (jm_b 12100) 35 = .ok (.getfield 533, 3) := by decide +kernel
theorem d12100_38 : decode (jm_b 12100) 38 = .ok (.istore 4, 2) := by decide +kernel
theorem d12100_40 : decode (jm_b 12100) 40 = .ok (.iconst 0, 1) := by decide +kernel
theorem d12100_41 : decode (jm_b 12100) 41 = .ok (.istore 5, 2) := by decide +kernel
theorem d12100_43 : decode (jm_b 12100) 43 = .ok (.iload 5, 2) := by decide +kernel
theorem d12100_45 : decode (jm_b 12100) 45 = .ok (.aload_n 0, 1) := by decide +kernel
theorem d12100_46 : decode (jm_b 12100) 46 = .ok (.getfield 9, 3) := by decide +kernel
theorem d12100_49 : decode (jm_b 12100) 49 = .ok (.bipush 6, 2) := by decide +kernel
theorem d12100_51 : decode (jm_b 12100) 51 = .ok (.iaload, 1) := by decide +kernel
theorem d12100_52 : decode (jm_b 12100) 52 = .ok (.if_icmp .ge 54, 3) := by decide +kernel
theorem d12100_55 : decode (jm_b 12100) 55 = .ok (.iload 4, 2) := by decide +kernel
theorem d12100_57 : decode (jm_b 12100) 57 = .ok (.ifCond .eq 40, 3) := by decide +kernel
theorem d12100_60 : decode (jm_b 12100) 60 = .ok (.aload_n 0, 1) := by decide +kernel
theorem d12100_61 : decode (jm_b 12100) 61 = .ok (.getfield 151, 3) := by decide +kernel
theorem d12100_64 : decode (jm_b 12100) 64 = .ok (.bipush 31, 2) := by decide +kernel
theorem d12100_66 : decode (jm_b 12100) 66 = .ok (.aload_n 0, 1) := by decide +kernel
theorem d12100_67 : decode (jm_b 12100) 67 = .ok (.getfield 46, 3) := by decide +kernel
theorem d12100_70 : decode (jm_b 12100) 70 = .ok (.iload 5, 2) := by decide +kernel
theorem d12100_72 : decode (jm_b 12100) 72 = .ok (.iaload, 1) := by decide +kernel
theorem d12100_73 : decode (jm_b 12100) 73 = .ok (.imul, 1) := by decide +kernel
theorem d12100_74 : decode (jm_b 12100) 74 = .ok (.aload_n 0, 1) := by decide +kernel
theorem d12100_75 : decode (jm_b 12100) 75 = .ok (.getfield 43, 3) := by decide +kernel
theorem d12100_78 : decode (jm_b 12100) 78 = .ok (.iload 5, 2) := by decide +kernel
theorem d12100_80 : decode (jm_b 12100) 80 = .ok (.iaload, 1) := by decide +kernel
theorem d12100_81 : decode (jm_b 12100) 81 = .ok (.iadd, 1) := by decide +kernel
theorem d12100_82 : decode (jm_b 12100) 82 = .ok (.iaload, 1) := by decide +kernel
theorem d12100_83 : decode (jm_b 12100) 83 = .ok (.aload_n 0, 1) := by decide +kernel
theorem d12100_84 : decode (jm_b 12100) 84 = .ok (.getfield 49, 3) := by decide +kernel
theorem d12100_87 : decode (jm_b 12100) 87 = .ok (.iload 5, 2) := by decide +kernel
theorem d12100_89 : decode (jm_b 12100) 89 = .ok (.iaload, 1) := by decide +kernel
theorem d12100_90 : decode (jm_b 12100) 90 = .ok (.if_icmp .ne 7, 3) := by decide +kernel
theorem d12100_93 : decode (jm_b 12100) 93 = .ok (.iconst 1, 1) := by decide +kernel
theorem d12100_94 : decode (jm_b 12100) 94 = .ok (.goto 4, 3) := by decide +kernel
theorem d12100_97 : decode (jm_b 12100) 97 = .ok (.iconst 0, 1) := by decide +kernel
theorem d12100_98 : decode (jm_b 12100) 98 = .ok (.istore 4, 2) := by decide +kernel
theorem d12100_100 : decode (jm_b 12100) 100 = .ok (.iinc 5 1, 3) := by decide +kernel
theorem d12100_103 : decode (jm_b 12100) 103 = .ok (.goto (-60), 3) := by decide +kernel
theorem d12100_106 : decode (jm_b 12100) 106 = .ok (.iload 4, 2) := by decide +kernel
theorem d12100_108 : decode (jm_b 12100) 108 = .ok (.ireturn, 1) := by decide +kernel
theorem d12101_0 : decode (jm_b 12101) 0 = .ok (.aload_n 0, 1) := by decide +kernel
theorem d12101_1 : decode (jm_b 12101) 1 = .ok (.getfield 52, 3) := by decide +kernel
theorem d12101_4 : decode (jm_b 12101) 4 = .ok (.iload_n 1, 1) := by decide +kernel
theorem d12101_5 : decode (jm_b 12101) 5 = .ok (.iaload, 1) := by decide +kernel
theorem d12101_6 : decode (jm_b 12101) 6 = .ok (.istore 5, 2) := by decide +kernel
theorem d12101_8 : decode (jm_b 12101) 8 = .ok (.iconst 0, 1) := by decide +kernel
theorem d12101_9 : decode (jm_b 12101) 9 = .ok (.istore 6, 2) := by decide +kernel
theorem d12101_11 : decode (jm_b 12101) 11 = .ok (.iload 6, 2) := by decide +kernel
theorem d12101_13 : decode (jm_b 12101) 13 = .ok (.bipush 30, 2) := by decide +kernel
theorem d12101_15 : decode (jm_b 12101) 15 = .ok (.if_icmp .gt 115, 3) := by decide +kernel
theorem d12101_18 : decode (jm_b 12101) 18 = .ok (.iload_n 1, 1) := by decide +kernel
theorem d12101_19 : decode (jm_b 12101) 19 = .ok (.iload_n 2, 1) := by decide +kernel
theorem d12101_20 : decode (jm_b 12101) 20 = .ok (.if_icmp .ne 45, 3) := by decide +kernel
theorem d12101_23 : decode (jm_b 12101) 23 = .ok (.iload 6, 2) := by decide +kernel
theorem d12101_25 : decode (jm_b 12101) 25 = .ok (.iload_n 3, 1) := by decide +kernel
theorem d12101_26 : decode (jm_b 12101) 26 = .ok (.if_icmp .ne 39, 3) := by decide +kernel
theorem d12101_29 : decode (jm_b 12101) 29 = .ok (.aload_n 0, 1) := by decide +kernel
theorem d12101_30 : decode (jm_b 12101) 30 = .ok (.iload 5, 2) := by decide +kernel
theorem d12101_32 : decode (jm_b 12101) 32 = .ok (.iload 4, 2) := by decide +kernel
theorem d12101_34 : decode (jm_b 12101) 34 = .ok (.if_icmp .lt 20, 3) := by decide +kernel
theorem d12101_37 : decode (jm_b 12101) 37 = .ok (.aload_n 0, 1) := by decide +kernel
theorem d12101_38 : decode (jm_b 12101) 38 = .ok (.getfield 55, 3) := by decide +kernel
theorem d12101_41 : decode (jm_b 12101) 41 = .ok (.iconst 0, 1) := by decide +kernel
theorem d12101_42 : decode (jm_b 12101) 42 = .ok (.iaload, 1) := by decide +kernel
theorem d12101_43 : decode (jm_b 12101) 43 = .ok (.iload_n 1, 1) := by decide +kernel
theorem d12101_44 : decode (jm_b 12101) 44 = .ok (.invokestatic 174, 3) := by decide +kernel
theorem d12101_47 : decode (jm_b 12101) 47 = .ok (.ifCond .ne 7, 3) := by decide +kernel
theorem d12101_50 : decode (jm_b 12101) 50 = .ok (.iconst 1, 1) := by decide +kernel
theorem d12101_51 : decode (jm_b 12101) 51 = .ok (.goto 4, 3) := by decide +kernel
theorem d12101_54 : decode (jm_b 12101) 54 = .ok (.iconst 0, 1) := by decide +kernel
theorem d12101_55 : decode (jm_b 12101) 55 = .ok (.putfield 533, 3) := by decide +kernel
theorem d12101_58 : decode (jm_b 12101) 58 = .ok (.iload 5, 2) := by decide +kernel
theorem d12101_60 : decode (jm_b 12101) 60 = .ok (.iload 4, 2) := by decide +kernel
theorem d12101_62 : decode (jm_b 12101) 62 = .ok (.isub, 1) := by decide +kernel
theorem d12101_63 : decode (jm_b 12101) 63 = .ok (.istore 5, 2) := by decide +kernel
theorem d12101_65 : decode (jm_b 12101) 65 = .ok (.aload_n 0, 1) := by decide +kernel
theorem d12101_66 : decode (jm_b 12101) 66 = .ok (.getfield 151, 3) := by decide +kernel
theorem d12101_69 : decode (jm_b 12101) 69 = .ok (.bipush 31, 2) := by decide +kernel
theorem d12101_71 : decode (jm_b 12101) 71 = .ok (.iload_n 1, 1) := by decide +kernel
theorem d12101_72 : decode (jm_b 12101) 72 = .ok (.imul, 1) := by decide +kernel
theorem d12101_73 : decode (jm_b 12101) 73 = .ok (.iload 6, 2) := by decide +kernel
theorem d12101_75 : decode (jm_b 12101) 75 = .ok (.iadd, 1) := by decide +kernel
theorem d12101_76 : decode (jm_b 12101) 76 = .ok (.iload 5, 2) := by decide +kernel
theorem d12101_78 : decode (jm_b 12101) 78 = .ok (.iastore, 1) := by decide +kernel
theorem d12101_79 : decode (jm_b 12101) 79 = .ok (.aload_n 0, 1) := by decide +kernel
theorem d12101_80 : decode (jm_b 12101) 80 = .ok (.getfield 55, 3) := by decide +kernel
theorem d12101_83 : decode (jm_b 12101) 83 = .ok (.iconst 0, 1) := by decide +kernel
theorem d12101_84 : decode (jm_b 12101) 84 = .ok (.iaload, 1) := by decide +kernel
theorem d12101_85 : decode (jm_b 12101) 85 = .ok (.iload_n 1, 1) := by decide +kernel
theorem d12101_86 : decode (jm_b 12101) 86 = .ok (.invokestatic 174, 3) := by decide +kernel
theorem d12101_89 : decode (jm_b 12101) 89 = .ok (.ifCond .eq 8, 3) := by decide +kernel
theorem d12101_92 : decode (jm_b 12101) 92 = .ok (.iload 5, 2) := by decide +kernel
theorem d12101_94 : decode (jm_b 12101) 94 = .ok (.goto 12, 3) := by decide +kernel
theorem d12101_97 : decode (jm_b 12101) 97 = .ok (.iload 5, 2) := by decide +kernel
theorem d12101_99 : decode (jm_b 12101) 99 = .ok (.aload_n 0, 1) := by decide +kernel
theorem d12101_100 : decode (jm_b 12101) 100 = .ok (.iload 6, 2) := by decide +kernel
theorem d12101_102 : decode (jm_b 12101) 102 = .ok (.invokevirtual 403, 3) := by decide +kernel
theorem d12101_105 : decode (jm_b 12101) 105 = .ok (.iadd, 1) := by decide +kernel
theorem d12101_106 : decode (jm_b 12101) 106 = .ok (.istore 7, 2) := by decide +kernel
theorem d12101_108 : decode (jm_b 12101) 108 = .ok (.iload 7, 2) := by decide +kernel
theorem d12101_110 : decode (jm_b 12101) 110 = .ok (.bipush 99, 2) := by decide +kernel
theorem d12101_112 : decode (jm_b 12101) 112 = .ok (.if_icmp .le 8, 3) := by decide +kernel
theorem d12101_115 : decode (jm_b 12101) 115 = .ok (.bipush 99, 2) := by decide +kernel
theorem d12101_117 : decode (jm_b 12101) 117 = .ok (.goto 5, 3) := by decide +kernel
theorem d12101_120 : decode (jm_b 12101) 120 = .ok (.iload 7, 2) := by decide +kernel
theorem d12101_122 : decode (jm_b 12101) 122 = .ok (.istore 5, 2) := by decide +kernel
theorem d12101_124 : decode (jm_b 12101) 124 = .ok (.iinc 6 1, 3) := by decide +kernel
theorem d12101_127 : decode (jm_b 12101) 127 = .ok (.goto (-116), 3) := by decide +kernel
theorem d12101_130 : decode (jm_b 12101) 130 = .ok (.return_, 1) := by decide +kernel
theorem d12102_0 : decode (jm_b 12102) 0 = .ok (.aload_n 0, 1) := by decide +kernel
theorem d12102_1 : decode (jm_b 12102) 1 = .ok (.invokevirtual 400, 3) := by decide +kernel
theorem d12102_4 : decode (jm_b 12102) 4 = .ok (.ifCond .eq 37, 3) := by decide +kernel
theorem d12102_7 : decode (jm_b 12102) 7 = .ok (.iload_n 1, 1) := by decide +kernel
theorem d12102_8 : decode (jm_b 12102) 8 = .ok (.i2l, 1) := by decide +kernel
theorem d12102_9 : decode (jm_b 12102) 9 = .ok (.lconst 1, 1) := by decide +kernel
theorem d12102_10 : decode (jm_b 12102) 10 = .ok (.ldc2_w 473, 3) := by decide +kernel
theorem d12102_13 : decode (jm_b 12102) 13 = .ok (.invokestatic 170, 3) := by decide +kernel
theorem d12102_16 : decode (jm_b 12102) 16 = .ok (.ifCond .eq 25, 3) := by decide +kernel
theorem d12102_19 : decode (jm_b 12102) 19 = .ok (.iload_n 2, 1) := by decide +kernel
theorem d12102_20 : decode (jm_b 12102) 20 = .ok (.i2l, 1) := by decide +kernel
theorem d12102_21 : decode (jm_b 12102) 21 = .ok (.lconst 0, 1) := by decide +kernel
theorem d12102_22 : decode (jm_b 12102) 22 = .ok (.ldc2_w 531, 3) := by decide +kernel
theorem d12102_25 : decode (jm_b 12102) 25 = .ok (.invokestatic 170, 3) := by decide +kernel
theorem d12102_28 : decode (jm_b 12102) 28 = .ok (.ifCond .eq 13, 3) := by decide +kernel
theorem d12102_31 : decode (jm_b 12102) 31 = .ok (.iload_n 3, 1) := by decide +kernel
theorem d12102_32 : decode (jm_b 12102) 32 = .ok (.i2l, 1) := by decide +kernel
theorem d12102_33 : decode (jm_b 12102) 33 = .ok (.lconst 0, 1) := by decide +kernel
theorem d12102_34 : decode (jm_b 12102) 34 = .ok (.lconst 1, 1) := by decide +kernel
theorem d12102_35 : decode (jm_b 12102) 35 = .ok (.invokestatic 170, 3) := by decide +kernel
theorem d12102_38 : decode (jm_b 12102) 38 = .ok (.ifCond .ne 5, 3) := by decide +kernel
theorem d12102_41 : decode (jm_b 12102) 41 = .ok (.iconst (-1), 1) := by decide +kernel
theorem d12102_42 : decode (jm_b 12102) 42 = .ok (.ireturn, 1) := by decide +kernel
theorem d12102_43 : decode (jm_b 12102) 43 = .ok (.iconst 0, 1) := by decide +kernel
theorem d12102_44 : decode (jm_b 12102) 44 = .ok (.istore 4, 2) := by decide +kernel
theorem d12102_46 : decode (jm_b 12102) 46 = .ok (.iload 4, 2) := by decide +kernel
theorem d12102_48 : decode (jm_b 12102) 48 = .ok (.aload_n 0, 1) := by decide +kernel
theorem d12102_49 : decode (jm_b 12102) 49 = .ok (.getfield 154, 3) := by decide +kernel
theorem d12102_52 : decode (jm_b 12102) 52 = .ok (.arraylength, 1) := by decide +kernel
theorem d12102_53 : decode (jm_b 12102) 53 = .ok (.if_icmp .ge 17, 3) := by decide +kernel
theorem d12102_56 : decode (jm_b 12102) 56 = .ok (.aload_n 0, 1) := by decide +kernel
theorem d12102_57 : decode (jm_b 12102) 57 = .ok (.getfield 154, 3) := by decide +kernel
theorem d12102_60 : decode (jm_b 12102) 60 = .ok (.iload 4, 2) := by decide +kernel
theorem d12102_62 : decode (jm_b 12102) 62 = .ok (.iconst 0, 1) := by decide +kernel
theorem d12102_63 : decode (jm_b 12102) 63 = .ok (.iastore, 1) := by decide +kernel
theorem d12102_64 : decode (jm_b 12102) 64 = .ok (.iinc 4 1, 3) := by decide +kernel
theorem d12102_67 : decode (jm_b 12102) 67 = .ok (.goto (-21), 3) := by decide +kernel
theorem d12102_70 : decode (jm_b 12102) 70 = .ok (.iconst 0, 1) := by decide +kernel
theorem d12102_71 : decode (jm_b 12102) 71 = .ok (.istore 4, 2) := by decide +kernel
theorem d12102_73 : decode (jm_b 12102) 73 = .ok (.iconst 0, 1) := by decide +kernel
theorem d12102_74 : decode (jm_b 12102) 74 = .ok (.istore 5, 2) := by decide +kernel
theorem d12102_76 : decode (jm_b 12102) 76 = .ok (.iload 5, 2) := by decide +kernel
theorem d12102_78 : decode (jm_b 12102) 78 = .ok (.aload_n 0, 1) := by decide +kernel
theorem d12102_79 : decode (jm_b 12102) 79 = .ok (.getfield 9, 3) := by decide +kernel
theorem d12102_82 : decode (jm_b 12102) 82 = .ok (.iconst 0, 1) := by decide +kernel
theorem d12102_83 : decode (jm_b 12102) 83 = .ok (.iaload, 1) := by decide +kernel
theorem d12102_84 : decode (jm_b 12102) 84 = .ok (.if_icmp .ge 87, 3) := by decide +kernel
theorem d12102_87 : decode (jm_b 12102) 87 = .ok (.iconst 0, 1) := by decide +kernel
theorem d12102_88 : decode (jm_b 12102) 88 = .ok (.istore 6, 2) := by decide +kernel
theorem d12102_90 : decode (jm_b 12102) 90 = .ok (.iload 6, 2) := by decide +kernel
theorem d12102_92 : decode (jm_b 12102) 92 = .ok (.bipush 30, 2) := by decide +kernel
theorem d12102_94 : decode (jm_b 12102) 94 = .ok (.if_icmp .ge 71, 3) := by decide +kernel
theorem d12102_97 : decode (jm_b 12102) 97 = .ok (.aload_n 0, 1) := by decide +kernel
theorem d12102_98 : decode (jm_b 12102) 98 = .ok (.iload 5, 2) := by decide +kernel
theorem d12102_100 : decode (jm_b 12102) 100 = .ok (.iload 6, 2) := by decide +kernel
theorem d12102_102 : decode (jm_b 12102) 102 = .ok (.iload_n 1, 1) := by decide +kernel
theorem d12102_103 : decode (jm_b 12102) 103 = .ok (.invokevirtual 540, 3) := by decide +kernel
theorem d12102_106 : decode (jm_b 12102) 106 = .ok (.ifCond .eq 53, 3) := by decide +kernel
theorem d12102_109 : decode (jm_b 12102) 109 = .ok (.iinc 4 1, 3) := by decide +kernel
theorem d12102_112 : decode (jm_b 12102) 112 = .ok (.iconst 0, 1) := by decide +kernel
theorem d12102_113 : decode (jm_b 12102) 113 = .ok (.istore 7, 2) := by decide +kernel
theorem d12102_115 : decode (jm_b 12102) 115 = .ok (.iload 7, 2) := by decide +kernel
theorem d12102_117 : decode (jm_b 12102) 117 = .ok (.aload_n 0, 1) := by decide +kernel
theorem d12102_118 : decode (jm_b 12102) 118 = .ok (.getfield 9, 3) := by decide +kernel
theorem d12102_121 : decode (jm_b 12102) 121 = .ok (.iconst 0, 1) := by decide +kernel
theorem d12102_122 : decode (jm_b 12102) 122 = .ok (.iaload, 1) := by decide +kernel
theorem d12102_123 : decode (jm_b 12102) 123 = .ok (.if_icmp .ge 36, 3) := by decide +kernel
theorem d12102_126 : decode (jm_b 12102) 126 = .ok (.aload_n 0, 1) := by decide +kernel
theorem d12102_127 : decode (jm_b 12102) 127 = .ok (.getfield 154, 3) := by decide +kernel
theorem d12102_130 : decode (jm_b 12102) 130 = .ok (.bipush 100, 2) := by decide +kernel
theorem d12102_132 : decode (jm_b 12102) 132 = .ok (.iload 7, 2) := by decide +kernel
theorem d12102_134 : decode (jm_b 12102) 134 = .ok (.imul, 1) := by decide +kernel
theorem d12102_135 : decode (jm_b 12102) 135 = .ok (.aload_n 0, 1) := by decide +kernel
theorem d12102_136 : decode (jm_b 12102) 136 = .ok (.getfield 151, 3) := by decide +kernel
theorem d12102_139 : decode (jm_b 12102) 139 = .ok (.bipush 31, 2) := by decide +kernel
theorem d12102_141 : decode (jm_b 12102) 141 = .ok (.iload 7, 2) := by decide +kernel
theorem d12102_143 : decode (jm_b 12102) 143 = .ok (.imul, 1) := by decide +kernel
theorem d12102_144 : decode (jm_b 12102) 144 = .ok (.iload_n 2, 1) := by decide +kernel
theorem d12102_145 : decode (jm_b 12102) 145 = .ok (.iadd, 1) := by decide +kernel
theorem d12102_146 : decode (jm_b 12102) 146 = .ok (.iaload, 1) := by decide +kernel
theorem d12102_147 : decode (jm_b 12102) 147 = .ok (.iadd, 1) := by decide +kernel
theorem d12102_148 : decode (jm_b 12102) 148 = .ok (.dup2, 1) := by decide +kernel
theorem d12102_149 : decode (jm_b 12102) 149 = .ok (.iaload, 1) := by decide +kernel
theorem d12102_150 : decode (jm_b 12102) 150 = .ok (.iconst 1, 1) := by decide +kernel
theorem d12102_151 : decode (jm_b 12102) 151 = .ok (.iadd, 1) := by decide +kernel
theorem d12102_152 : decode (jm_b 12102) 152 = .ok (.iastore, 1) := by decide +kernel
theorem d12102_153 : decode (jm_b 12102) 153 = .ok (.iinc 7 1, 3) := by decide +kernel
theorem d12102_156 : decode (jm_b 12102) 156 = .ok (.goto (-41), 3) := by decide +kernel
theorem d12102_159 : decode (jm_b 12102) 159 = .ok (.iinc 6 1, 3) := by decide +kernel
theorem d12102_162 : decode (jm_b 12102) 162 = .ok (.goto (-72), 3) := by decide +kernel
theorem d12102_165 : decode (jm_b 12102) 165 = .ok (.iinc 5 1, 3) := by decide +kernel
theorem d12102_168 : decode (jm_b 12102) 168 = .ok (.goto (-92), 3) := by decide +kernel
theorem d12102_171 : decode (jm_b 12102) 171 = .ok (.bipush (-2), 2) := by decide +kernel
theorem d12102_173 : decode (jm_b 12102) 173 = .ok (.istore 5, 2) := by decide +kernel
theorem d12102_175 : decode (jm_b 12102) 175 = .ok (.bipush (-2), 2) := by decide +kernel
theorem d12102_177 : decode (jm_b 12102) 177 = .ok (.istore 6, 2) := by decide +kernel
theorem d12102_179 : decode (jm_b 12102) 179 = .ok (.iconst 0, 1) := by decide +kernel
theorem d12102_180 : decode (jm_b 12102) 180 = .ok (.istore 7, 2) := by decide +kernel
theorem d12102_182 : decode (jm_b 12102) 182 = .ok (.iload 7, 2) := by decide +kernel
theorem d12102_184 : decode (jm_b 12102) 184 = .ok (.aload_n 0, 1) := by decide +kernel
theorem d12102_185 : decode (jm_b 12102) 185 = .ok (.getfield 9, 3) := by decide +kernel
theorem d12102_188 : decode (jm_b 12102) 188 = .ok (.iconst 0, 1) := by decide +kernel
theorem d12102_189 : decode (jm_b 12102) 189 = .ok (.iaload, 1) := by decide +kernel
theorem d12102_190 : decode (jm_b 12102) 190 = .ok (.if_icmp .ge 93, 3) := by decide +kernel
theorem d12102_193 : decode (jm_b 12102) 193 = .ok (.iload 4, 2) := by decide +kernel
theorem d12102_195 : decode (jm_b 12102) 195 = .ok (.ifCond .le 88, 3) := by decide +kernel
theorem d12102_198 : decode (jm_b 12102) 198 = .ok (.iconst 0, 1) := by decide +kernel
theorem d12102_199 : decode (jm_b 12102) 199 = .ok (.istore 8, 2) := by decide +kernel
theorem d12102_201 : decode (jm_b 12102) 201 = .ok (.iconst 0, 1) := by decide +kernel
theorem d12102_202 : decode (jm_b 12102) 202 = .ok (.istore 9, 2) := by decide +kernel
theorem d12102_204 : decode (jm_b 12102) 204 = .ok (.iload 9, 2) := by decide +kernel
theorem d12102_206 : decode (jm_b 12102) 206 = .ok (.bipush 99, 2) := by decide +kernel
theorem d12102_208 : decode (jm_b 12102) 208 = .ok (.if_icmp .gt 47, 3) := by decide +kernel
theorem d12102_211 : decode (jm_b 12102) 211 = .ok (.aload_n 0, 1) := by decide +kernel
theorem d12102_212 : decode (jm_b 12102) 212 = .ok (.getfield 154, 3) := by decide +kernel
theorem d12102_215 : decode (jm_b 12102) 215 = .ok (.bipush 100, 2) := by decide +kernel
theorem d12102_217 : decode (jm_b 12102) 217 = .ok (.iload 7, 2) := by decide +kernel
theorem d12102_219 : decode (jm_b 12102) 219 = .ok (.imul, 1) := by decide +kernel
theorem d12102_220 : decode (jm_b 12102) 220 = .ok (.iload 9, 2) := by decide +kernel
theorem d12102_222 : decode (jm_b 12102) 222 = .ok (.iadd, 1) := by decide +kernel
theorem d12102_223 : decode (jm_b 12102) 223 = .ok (.iaload, 1) := by decide +kernel
theorem d12102_224 : decode (jm_b 12102) 224 = .ok (.iload 8, 2) := by decide +kernel
theorem d12102_226 : decode (jm_b 12102) 226 = .ok (.if_icmp .le 19, 3) := by decide +kernel
theorem d12102_229 : decode (jm_b 12102) 229 = .ok (.aload_n 0, 1) := by decide +kernel
theorem d12102_230 : decode (jm_b 12102) 230 = .ok (.getfield 154, 3) := by decide +kernel
theorem d12102_233 : decode (jm_b 12102) 233 = .ok (.bipush 100, 2) := by decide +kernel
theorem d12102_235 : decode (jm_b 12102) 235 = .ok (.iload 7, 2) := by decide +kernel
theorem d12102_237 : decode (jm_b 12102) 237 = .ok (.imul, 1) := by decide +kernel
theorem d12102_238 : decode (jm_b 12102) 238 = .ok (.iload 9, 2) := by decide +kernel
theorem d12102_240 : decode (jm_b 12102) 240 = .ok (.iadd, 1) := by decide +kernel
theorem d12102_241 : decode (jm_b 12102) 241 = .ok (.iaload, 1) := by decide +kernel
theorem d12102_242 : decode (jm_b 12102) 242 = .ok (.goto 5, 3) := by decide +kernel
theorem d12102_245 : decode (jm_b 12102) 245 = .ok (.iload 8, 2) := by decide +kernel
theorem d12102_247 : decode (jm_b 12102) 247 = .ok (.istore 8, 2) := by decide +kernel
theorem d12102_249 : decode (jm_b 12102) 249 = .ok (.iinc 9 1, 3) := by decide +kernel
theorem d12102_252 : decode (jm_b 12102) 252 = .ok (.goto (-48), 3) := by decide +kernel
theorem d12102_255 : decode (jm_b 12102) 255 = .ok (.iload 5, 2) := by decide +kernel
theorem d12102_257 : decode (jm_b 12102) 257 = .ok (.bipush (-2), 2) := by decide +kernel
theorem d12102_259 : decode (jm_b 12102) 259 = .ok (.if_icmp .eq 10, 3) := by decide +kernel
theorem d12102_262 : decode (jm_b 12102) 262 = .ok (.iload 8, 2) := by decide +kernel
theorem d12102_264 : decode (jm_b 12102) 264 = .ok (.iload 6, 2) := by decide +kernel
theorem d12102_266 : decode (jm_b 12102) 266 = .ok (.if_icmp .ge 11, 3) := by decide +kernel
theorem d12102_269 : decode (jm_b 12102) 269 = .ok (.iload 7, 2) := by decide +kernel
theorem d12102_271 : decode (jm_b 12102) 271 = .ok (.istore 5, 2) := by decide +kernel
theorem d12102_273 : decode (jm_b 12102) 273 = .ok (.iload 8, 2) := by decide +kernel
theorem d12102_275 : decode (jm_b 12102) 275 = .ok (.istore 6, 2) := by decide +kernel
theorem d12102_277 : decode (jm_b 12102) 277 = .ok (.iinc 7 1, 3) := by decide +kernel
theorem d12102_280 : decode (jm_b 12102) 280 = .ok (.goto (-98), 3) := by decide +kernel
theorem d12102_283 : decode (jm_b 12102) 283 = .ok (.iload_n 3, 1) := by decide +kernel
theorem d12102_284 : decode (jm_b 12102) 284 = .ok (.ifCond .ne 8, 3) := by decide +kernel
theorem d12102_287 : decode (jm_b 12102) 287 = .ok (.iload 5, 2) := by decide +kernel
theorem d12102_289 : decode (jm_b 12102) 289 = .ok (.goto 5, 3) := by decide +kernel
theorem d12102_292 : decode (jm_b 12102) 292 = .ok (.iload 6, 2) := by decide +kernel
theorem d12102_294 : decode (jm_b 12102) 294 = .ok (.ireturn, 1) := by decide +kernel
