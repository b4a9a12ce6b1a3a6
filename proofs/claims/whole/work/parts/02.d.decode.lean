theorem dX12_round_36 : decode cX12_round 36 = .ok (.istore_n 3, 1) := by decide +kernel
theorem dX12_round_37 : decode cX12_round 37 = .ok (.iconst 0, 1) := by decide +kernel
theorem dX12_round_38 : decode cX12_round 38 = .ok (.istore 4, 2) := by decide +kernel
theorem dX12_round_40 : decode cX12_round 40 = .ok (.iconst 0, 1) := by decide +kernel
theorem dX12_round_41 : decode cX12_round 41 = .ok (.istore 5, 2) := by decide +kernel
theorem dX12_round_43 : decode cX12_round 43 = .ok (.iload 5, 2) := by decide +kernel
theorem dX12_round_45 : decode cX12_round 45 = .ok (.ifCond .ne 40, 3) := by decide +kernel
theorem dX12_round_48 : decode cX12_round 48 = .ok (.aload_n 0, 1) := by decide +kernel
theorem dX12_round_49 : decode cX12_round 49 = .ok (.iconst 0, 1) := by decide +kernel
theorem dX12_round_50 : decode cX12_round 50 = .ok (.invokevirtual 204, 3) := by decide +kernel
theorem dX12_round_53 : decode cX12_round 53 = .ok (.ifCond .eq 32, 3) := by decide +kernel
theorem dX12_round_56 : decode cX12_round 56 = .ok (.iinc 4 1, 3) := by decide +kernel
theorem dX12_round_59 : decode cX12_round 59 = .ok (.aload_n 0, 1) := by decide +kernel
theorem dX12_round_60 : decode cX12_round 60 = .ok (.getfield 178, 3) := by decide +kernel
theorem dX12_round_63 : decode cX12_round 63 = .ok (.iload_n 2, 1) := by decide +kernel
theorem dX12_round_64 : decode cX12_round 64 = .ok (.if_icmp .ne 15, 3) := by decide +kernel
theorem dX12_round_67 : decode cX12_round 67 = .ok (.aload_n 0, 1) := by decide +kernel
theorem dX12_round_68 : decode cX12_round 68 = .ok (.getfield 181, 3) := by decide +kernel
theorem dX12_round_71 : decode cX12_round 71 = .ok (.iload_n 3, 1) := by decide +kernel
theorem dX12_round_72 : decode cX12_round 72 = .ok (.if_icmp .ne 7, 3) := by decide +kernel
theorem dX12_round_75 : decode cX12_round 75 = .ok (.iconst 1, 1) := by decide +kernel
theorem dX12_round_76 : decode cX12_round 76 = .ok (.goto 4, 3) := by decide +kernel
theorem dX12_round_79 : decode cX12_round 79 = .ok (.iconst 0, 1) := by decide +kernel
theorem dX12_round_80 : decode cX12_round 80 = .ok (.istore 5, 2) := by decide +kernel
theorem dX12_round_82 : decode cX12_round 82 = .ok (.goto (-39), 3) := by decide +kernel
theorem dX12_round_85 : decode cX12_round 85 = .ok (.iload 4, 2) := by decide +kernel
theorem dX12_round_87 : decode cX12_round 87 = .ok (.ireturn, 1) := by decide +kernel
theorem dX12_sitsAt_0 : decode cX12_sitsAt 0 = .ok (.aload_n 0, 1) := by decide +kernel
theorem dX12_sitsAt_1 : decode cX12_sitsAt 1 = .ok (.iload_n 1, 1) := by decide +kernel
theorem dX12_sitsAt_2 : decode cX12_sitsAt 2 = .ok (.invokevirtual 190, 3) := by decide +kernel
theorem dX12_sitsAt_5 : decode cX12_sitsAt 5 = .ok (.aload_n 0, 1) := by decide +kernel
theorem dX12_sitsAt_6 : decode cX12_sitsAt 6 = .ok (.iload_n 2, 1) := by decide +kernel
theorem dX12_sitsAt_7 : decode cX12_sitsAt 7 = .ok (.putfield 184, 3) := by decide +kernel
theorem dX12_sitsAt_10 : decode cX12_sitsAt 10 = .ok (.aload_n 0, 1) := by decide +kernel
theorem dX12_sitsAt_11 : decode cX12_sitsAt 11 = .ok (.aload_n 0, 1) := by decide +kernel
theorem dX12_sitsAt_12 : decode cX12_sitsAt 12 = .ok (.getfield 22, 3) := by decide +kernel
theorem dX12_sitsAt_15 : decode cX12_sitsAt 15 = .ok (.iload_n 1, 1) := by decide +kernel
theorem dX12_sitsAt_16 : decode cX12_sitsAt 16 = .ok (.iaload, 1) := by decide +kernel
theorem dX12_sitsAt_17 : decode cX12_sitsAt 17 = .ok (.invokevirtual 251, 3) := by decide +kernel
theorem dX12_sitsAt_20 : decode cX12_sitsAt 20 = .ok (.ifCond .lt 15, 3) := by decide +kernel
theorem dX12_sitsAt_23 : decode cX12_sitsAt 23 = .ok (.aload_n 0, 1) := by decide +kernel
theorem dX12_sitsAt_24 : decode cX12_sitsAt 24 = .ok (.getfield 178, 3) := by decide +kernel
theorem dX12_sitsAt_27 : decode cX12_sitsAt 27 = .ok (.iload_n 3, 1) := by decide +kernel
theorem dX12_sitsAt_28 : decode cX12_sitsAt 28 = .ok (.if_icmp .ne 7, 3) := by decide +kernel
theorem dX12_sitsAt_31 : decode cX12_sitsAt 31 = .ok (.iconst 1, 1) := by decide +kernel
theorem dX12_sitsAt_32 : decode cX12_sitsAt 32 = .ok (.goto 4, 3) := by decide +kernel
theorem dX12_sitsAt_35 : decode cX12_sitsAt 35 = .ok (.iconst 0, 1) := by decide +kernel
theorem dX12_sitsAt_36 : decode cX12_sitsAt 36 = .ok (.ireturn, 1) := by decide +kernel
theorem dX12_least_0 : decode cX12_least 0 = .ok (.aload_n 0, 1) := by decide +kernel
theorem dX12_least_1 : decode cX12_least 1 = .ok (.iload_n 1, 1) := by decide +kernel
theorem dX12_least_2 : decode cX12_least 2 = .ok (.invokevirtual 201, 3) := by decide +kernel
theorem dX12_least_5 : decode cX12_least 5 = .ok (.ifCond .eq 11, 3) := by decide +kernel
theorem dX12_least_8 : decode cX12_least 8 = .ok (.aload_n 0, 1) := by decide +kernel
theorem dX12_least_9 : decode cX12_least 9 = .ok (.iload_n 2, 1) := by decide +kernel
theorem dX12_least_10 : decode cX12_least 10 = .ok (.invokevirtual 244, 3) := by decide +kernel
theorem dX12_least_13 : decode cX12_least 13 = .ok (.ifCond .ne 6, 3) := by decide +kernel
theorem dX12_least_16 : decode cX12_least 16 = .ok (.ldc 200, 2) := by decide +kernel
theorem dX12_least_18 : decode cX12_least 18 = .ok (.ireturn, 1) := by decide +kernel
theorem dX12_least_19 : decode cX12_least 19 = .ok (.iload_n 3, 1) := by decide +kernel
theorem dX12_least_20 : decode cX12_least 20 = .ok (.i2l, 1) := by decide +kernel
theorem dX12_least_21 : decode cX12_least 21 = .ok (.lconst 0, 1) := by decide +kernel
theorem dX12_least_22 : decode cX12_least 22 = .ok (.lconst 1, 1) := by decide +kernel
theorem dX12_least_23 : decode cX12_least 23 = .ok (.invokestatic 96, 3) := by decide +kernel
theorem dX12_least_26 : decode cX12_least 26 = .ok (.ifCond .ne 6, 3) := by decide +kernel
theorem dX12_least_29 : decode cX12_least 29 = .ok (.ldc 105, 2) := by decide +kernel
theorem dX12_least_31 : decode cX12_least 31 = .ok (.ireturn, 1) := by decide +kernel
theorem dX12_least_32 : decode cX12_least 32 = .ok (.iload_n 3, 1) := by decide +kernel
theorem dX12_least_33 : decode cX12_least 33 = .ok (.ifCond .ne 15, 3) := by decide +kernel
theorem dX12_least_36 : decode cX12_least 36 = .ok (.aload_n 0, 1) := by decide +kernel
theorem dX12_least_37 : decode cX12_least 37 = .ok (.getfield 28, 3) := by decide +kernel
theorem dX12_least_40 : decode cX12_least 40 = .ok (.bipush 10, 2) := by decide +kernel
theorem dX12_least_42 : decode cX12_least 42 = .ok (.iload_n 1, 1) := by decide +kernel
theorem dX12_least_43 : decode cX12_least 43 = .ok (.iadd, 1) := by decide +kernel
theorem dX12_least_44 : decode cX12_least 44 = .ok (.iaload, 1) := by decide +kernel
theorem dX12_least_45 : decode cX12_least 45 = .ok (.goto 16, 3) := by decide +kernel
theorem dX12_least_48 : decode cX12_least 48 = .ok (.sipush 999, 3) := by decide +kernel
theorem dX12_least_51 : decode cX12_least 51 = .ok (.aload_n 0, 1) := by decide +kernel
theorem dX12_least_52 : decode cX12_least 52 = .ok (.getfield 28, 3) := by decide +kernel
theorem dX12_least_55 : decode cX12_least 55 = .ok (.bipush 10, 2) := by decide +kernel
theorem dX12_least_57 : decode cX12_least 57 = .ok (.iload_n 1, 1) := by decide +kernel
theorem dX12_least_58 : decode cX12_least 58 = .ok (.iadd, 1) := by decide +kernel
theorem dX12_least_59 : decode cX12_least 59 = .ok (.iaload, 1) := by decide +kernel
theorem dX12_least_60 : decode cX12_least 60 = .ok (.isub, 1) := by decide +kernel
theorem dX12_least_61 : decode cX12_least 61 = .ok (.istore 4, 2) := by decide +kernel
theorem dX12_least_63 : decode cX12_least 63 = .ok (.iconst 0, 1) := by decide +kernel
theorem dX12_least_64 : decode cX12_least 64 = .ok (.istore 5, 2) := by decide +kernel
theorem dX12_least_66 : decode cX12_least 66 = .ok (.iload 5, 2) := by decide +kernel
theorem dX12_least_68 : decode cX12_least 68 = .ok (.iload 4, 2) := by decide +kernel
theorem dX12_least_70 : decode cX12_least 70 = .ok (.if_icmp .gt 52, 3) := by decide +kernel
theorem dX12_least_73 : decode cX12_least 73 = .ok (.aload_n 0, 1) := by decide +kernel
theorem dX12_least_74 : decode cX12_least 74 = .ok (.iload_n 1, 1) := by decide +kernel
theorem dX12_least_75 : decode cX12_least 75 = .ok (.iload_n 3, 1) := by decide +kernel
theorem dX12_least_76 : decode cX12_least 76 = .ok (.ifCond .ne 18, 3) := by decide +kernel
theorem dX12_least_79 : decode cX12_least 79 = .ok (.aload_n 0, 1) := by decide +kernel
theorem dX12_least_80 : decode cX12_least 80 = .ok (.getfield 28, 3) := by decide +kernel
theorem dX12_least_83 : decode cX12_least 83 = .ok (.bipush 10, 2) := by decide +kernel
theorem dX12_least_85 : decode cX12_least 85 = .ok (.iload_n 1, 1) := by decide +kernel
theorem dX12_least_86 : decode cX12_least 86 = .ok (.iadd, 1) := by decide +kernel
theorem dX12_least_87 : decode cX12_least 87 = .ok (.iaload, 1) := by decide +kernel
theorem dX12_least_88 : decode cX12_least 88 = .ok (.iload 5, 2) := by decide +kernel
theorem dX12_least_90 : decode cX12_least 90 = .ok (.isub, 1) := by decide +kernel
theorem dX12_least_91 : decode cX12_least 91 = .ok (.goto 15, 3) := by decide +kernel
theorem dX12_least_94 : decode cX12_least 94 = .ok (.aload_n 0, 1) := by decide +kernel
theorem dX12_least_95 : decode cX12_least 95 = .ok (.getfield 28, 3) := by decide +kernel
theorem dX12_least_98 : decode cX12_least 98 = .ok (.bipush 10, 2) := by decide +kernel
theorem dX12_least_100 : decode cX12_least 100 = .ok (.iload_n 1, 1) := by decide +kernel
theorem dX12_least_101 : decode cX12_least 101 = .ok (.iadd, 1) := by decide +kernel
theorem dX12_least_102 : decode cX12_least 102 = .ok (.iaload, 1) := by decide +kernel
theorem dX12_least_103 : decode cX12_least 103 = .ok (.iload 5, 2) := by decide +kernel
theorem dX12_least_105 : decode cX12_least 105 = .ok (.iadd, 1) := by decide +kernel
theorem dX12_least_106 : decode cX12_least 106 = .ok (.iload_n 2, 1) := by decide +kernel
theorem dX12_least_107 : decode cX12_least 107 = .ok (.invokevirtual 254, 3) := by decide +kernel
theorem dX12_least_110 : decode cX12_least 110 = .ok (.ifCond .eq 6, 3) := by decide +kernel
theorem dX12_least_113 : decode cX12_least 113 = .ok (.iload 5, 2) := by decide +kernel
theorem dX12_least_115 : decode cX12_least 115 = .ok (.ireturn, 1) := by decide +kernel
theorem dX12_least_116 : decode cX12_least 116 = .ok (.iinc 5 1, 3) := by decide +kernel
theorem dX12_least_119 : decode cX12_least 119 = .ok (.goto (-53), 3) := by decide +kernel
theorem dX12_least_122 : decode cX12_least 122 = .ok (.iconst (-1), 1) := by decide +kernel
theorem dX12_least_123 : decode cX12_least 123 = .ok (.ireturn, 1) := by decide +kernel
theorem dX12_takeGiven_0 : decode cX12_takeGiven 0 = .ok (.iload_n 1, 1) := by decide +kernel
theorem dX12_takeGiven_1 : decode cX12_takeGiven 1 = .ok (.istore_n 2, 1) := by decide +kernel
theorem dX12_takeGiven_2 : decode cX12_takeGiven 2 = .ok (.iconst 0, 1) := by decide +kernel
theorem dX12_takeGiven_3 : decode cX12_takeGiven 3 = .ok (.istore_n 3, 1) := by decide +kernel
theorem dX12_takeGiven_4 : decode cX12_takeGiven 4 = .ok (.iconst 1, 1) := by decide +kernel
theorem dX12_takeGiven_5 : decode cX12_takeGiven 5 = .ok (.istore 4, 2) := by decide +kernel
theorem dX12_takeGiven_7 : decode cX12_takeGiven 7 = .ok (.aload_n 0, 1) := by decide +kernel
theorem dX12_takeGiven_8 : decode cX12_takeGiven 8 = .ok (.getfield 100, 3) := by decide +kernel
theorem dX12_takeGiven_11 : decode cX12_takeGiven 11 = .ok (.iconst 1, 1) := by decide +kernel
theorem dX12_takeGiven_12 : decode cX12_takeGiven 12 = .ok (.isub, 1) := by decide +kernel
theorem dX12_takeGiven_13 : decode cX12_takeGiven 13 = .ok (.istore 5, 2) := by decide +kernel
theorem dX12_takeGiven_15 : decode cX12_takeGiven 15 = .ok (.iload 5, 2) := by decide +kernel
theorem dX12_takeGiven_17 : decode cX12_takeGiven 17 = .ok (.ifCond .lt 75, 3) := by decide +kernel
theorem dX12_takeGiven_20 : decode cX12_takeGiven 20 = .ok (.aload_n 0, 1) := by decide +kernel
theorem dX12_takeGiven_21 : decode cX12_takeGiven 21 = .ok (.getfield 59, 3) := by decide +kernel
theorem dX12_takeGiven_24 : decode cX12_takeGiven 24 = .ok (.iload 5, 2) := by decide +kernel
theorem dX12_takeGiven_26 : decode cX12_takeGiven 26 = .ok (.iload_n 2, 1) := by decide +kernel
theorem dX12_takeGiven_27 : decode cX12_takeGiven 27 = .ok (.iconst 5, 1) := by decide +kernel
theorem dX12_takeGiven_28 : decode cX12_takeGiven 28 = .ok (.irem, 1) := by decide +kernel
theorem dX12_takeGiven_29 : decode cX12_takeGiven 29 = .ok (.iastore, 1) := by decide +kernel
theorem dX12_takeGiven_30 : decode cX12_takeGiven 30 = .ok (.iload_n 2, 1) := by decide +kernel
theorem dX12_takeGiven_31 : decode cX12_takeGiven 31 = .ok (.iconst 5, 1) := by decide +kernel
theorem dX12_takeGiven_32 : decode cX12_takeGiven 32 = .ok (.idiv, 1) := by decide +kernel
theorem dX12_takeGiven_33 : decode cX12_takeGiven 33 = .ok (.istore_n 2, 1) := by decide +kernel
theorem dX12_takeGiven_34 : decode cX12_takeGiven 34 = .ok (.iload 4, 2) := by decide +kernel
theorem dX12_takeGiven_36 : decode cX12_takeGiven 36 = .ok (.ifCond .eq 35, 3) := by decide +kernel
theorem dX12_takeGiven_39 : decode cX12_takeGiven 39 = .ok (.aload_n 0, 1) := by decide +kernel
theorem dX12_takeGiven_40 : decode cX12_takeGiven 40 = .ok (.getfield 59, 3) := by decide +kernel
theorem dX12_takeGiven_43 : decode cX12_takeGiven 43 = .ok (.iload 5, 2) := by decide +kernel
theorem dX12_takeGiven_45 : decode cX12_takeGiven 45 = .ok (.iaload, 1) := by decide +kernel
theorem dX12_takeGiven_46 : decode cX12_takeGiven 46 = .ok (.aload_n 0, 1) := by decide +kernel
theorem dX12_takeGiven_47 : decode cX12_takeGiven 47 = .ok (.getfield 100, 3) := by decide +kernel
theorem dX12_takeGiven_50 : decode cX12_takeGiven 50 = .ok (.if_icmp .ge 21, 3) := by decide +kernel
theorem dX12_takeGiven_53 : decode cX12_takeGiven 53 = .ok (.iload_n 3, 1) := by decide +kernel
theorem dX12_takeGiven_54 : decode cX12_takeGiven 54 = .ok (.aload_n 0, 1) := by decide +kernel
theorem dX12_takeGiven_55 : decode cX12_takeGiven 55 = .ok (.getfield 59, 3) := by decide +kernel
theorem dX12_takeGiven_58 : decode cX12_takeGiven 58 = .ok (.iload 5, 2) := by decide +kernel
theorem dX12_takeGiven_60 : decode cX12_takeGiven 60 = .ok (.iaload, 1) := by decide +kernel
theorem dX12_takeGiven_61 : decode cX12_takeGiven 61 = .ok (.ishr, 1) := by decide +kernel
theorem dX12_takeGiven_62 : decode cX12_takeGiven 62 = .ok (.iconst 1, 1) := by decide +kernel
theorem dX12_takeGiven_63 : decode cX12_takeGiven 63 = .ok (.iand, 1) := by decide +kernel
theorem dX12_takeGiven_64 : decode cX12_takeGiven 64 = .ok (.ifCond .ne 7, 3) := by decide +kernel
theorem dX12_takeGiven_67 : decode cX12_takeGiven 67 = .ok (.iconst 1, 1) := by decide +kernel
theorem dX12_takeGiven_68 : decode cX12_takeGiven 68 = .ok (.goto 4, 3) := by decide +kernel
theorem dX12_takeGiven_71 : decode cX12_takeGiven 71 = .ok (.iconst 0, 1) := by decide +kernel
theorem dX12_takeGiven_72 : decode cX12_takeGiven 72 = .ok (.istore 4, 2) := by decide +kernel
theorem dX12_takeGiven_74 : decode cX12_takeGiven 74 = .ok (.iload_n 3, 1) := by decide +kernel
theorem dX12_takeGiven_75 : decode cX12_takeGiven 75 = .ok (.iconst 1, 1) := by decide +kernel
theorem dX12_takeGiven_76 : decode cX12_takeGiven 76 = .ok (.aload_n 0, 1) := by decide +kernel
theorem dX12_takeGiven_77 : decode cX12_takeGiven 77 = .ok (.getfield 59, 3) := by decide +kernel
theorem dX12_takeGiven_80 : decode cX12_takeGiven 80 = .ok (.iload 5, 2) := by decide +kernel
theorem dX12_takeGiven_82 : decode cX12_takeGiven 82 = .ok (.iaload, 1) := by decide +kernel
theorem dX12_takeGiven_83 : decode cX12_takeGiven 83 = .ok (.ishl, 1) := by decide +kernel
theorem dX12_takeGiven_84 : decode cX12_takeGiven 84 = .ok (.ior, 1) := by decide +kernel
theorem dX12_takeGiven_85 : decode cX12_takeGiven 85 = .ok (.istore_n 3, 1) := by decide +kernel
theorem dX12_takeGiven_86 : decode cX12_takeGiven 86 = .ok (.iinc 5 (-1), 3) := by decide +kernel
theorem dX12_takeGiven_89 : decode cX12_takeGiven 89 = .ok (.goto (-74), 3) := by decide +kernel
theorem dX12_takeGiven_92 : decode cX12_takeGiven 92 = .ok (.iload 4, 2) := by decide +kernel
theorem dX12_takeGiven_94 : decode cX12_takeGiven 94 = .ok (.ireturn, 1) := by decide +kernel
theorem dX12_allAtQuays_0 : decode cX12_allAtQuays 0 = .ok (.iconst 1, 1) := by decide +kernel
theorem dX12_allAtQuays_1 : decode cX12_allAtQuays 1 = .ok (.istore_n 2, 1) := by decide +kernel
theorem dX12_allAtQuays_2 : decode cX12_allAtQuays 2 = .ok (.iconst 0, 1) := by decide +kernel
theorem dX12_allAtQuays_3 : decode cX12_allAtQuays 3 = .ok (.istore_n 3, 1) := by decide +kernel
theorem dX12_allAtQuays_4 : decode cX12_allAtQuays 4 = .ok (.iload_n 3, 1) := by decide +kernel
theorem dX12_allAtQuays_5 : decode cX12_allAtQuays 5 = .ok (.aload_n 0, 1) := by decide +kernel
theorem dX12_allAtQuays_6 : decode cX12_allAtQuays 6 = .ok (.getfield 100, 3) := by decide +kernel
theorem dX12_allAtQuays_9 : decode cX12_allAtQuays 9 = .ok (.if_icmp .ge 75, 3) := by decide +kernel
theorem dX12_allAtQuays_12 : decode cX12_allAtQuays 12 = .ok (.iload_n 2, 1) := by decide +kernel
theorem dX12_allAtQuays_13 : decode cX12_allAtQuays 13 = .ok (.ifCond .eq 71, 3) := by decide +kernel
theorem dX12_allAtQuays_16 : decode cX12_allAtQuays 16 = .ok (.aload_n 0, 1) := by decide +kernel
theorem dX12_allAtQuays_17 : decode cX12_allAtQuays 17 = .ok (.iload_n 3, 1) := by decide +kernel
theorem dX12_allAtQuays_18 : decode cX12_allAtQuays 18 = .ok (.invokevirtual 190, 3) := by decide +kernel
theorem dX12_allAtQuays_21 : decode cX12_allAtQuays 21 = .ok (.aload_n 0, 1) := by decide +kernel
theorem dX12_allAtQuays_22 : decode cX12_allAtQuays 22 = .ok (.aload_n 0, 1) := by decide +kernel
theorem dX12_allAtQuays_23 : decode cX12_allAtQuays 23 = .ok (.getfield 28, 3) := by decide +kernel
theorem dX12_allAtQuays_26 : decode cX12_allAtQuays 26 = .ok (.bipush 10, 2) := by decide +kernel
theorem dX12_allAtQuays_28 : decode cX12_allAtQuays 28 = .ok (.aload_n 0, 1) := by decide +kernel
theorem dX12_allAtQuays_29 : decode cX12_allAtQuays 29 = .ok (.getfield 59, 3) := by decide +kernel
theorem dX12_allAtQuays_32 : decode cX12_allAtQuays 32 = .ok (.iload_n 3, 1) := by decide +kernel
theorem dX12_allAtQuays_33 : decode cX12_allAtQuays 33 = .ok (.iaload, 1) := by decide +kernel
theorem dX12_allAtQuays_34 : decode cX12_allAtQuays 34 = .ok (.iadd, 1) := by decide +kernel
theorem dX12_allAtQuays_35 : decode cX12_allAtQuays 35 = .ok (.iaload, 1) := by decide +kernel
theorem dX12_allAtQuays_36 : decode cX12_allAtQuays 36 = .ok (.putfield 184, 3) := by decide +kernel
theorem dX12_allAtQuays_39 : decode cX12_allAtQuays 39 = .ok (.aload_n 0, 1) := by decide +kernel
theorem dX12_allAtQuays_40 : decode cX12_allAtQuays 40 = .ok (.aload_n 0, 1) := by decide +kernel
theorem dX12_allAtQuays_41 : decode cX12_allAtQuays 41 = .ok (.getfield 22, 3) := by decide +kernel
theorem dX12_allAtQuays_44 : decode cX12_allAtQuays 44 = .ok (.iload_n 3, 1) := by decide +kernel
theorem dX12_allAtQuays_45 : decode cX12_allAtQuays 45 = .ok (.iaload, 1) := by decide +kernel
theorem dX12_allAtQuays_46 : decode cX12_allAtQuays 46 = .ok (.iload_n 1, 1) := by decide +kernel
theorem dX12_allAtQuays_47 : decode cX12_allAtQuays 47 = .ok (.invokevirtual 247, 3) := by decide +kernel
theorem dX12_allAtQuays_50 : decode cX12_allAtQuays 50 = .ok (.aload_n 0, 1) := by decide +kernel
theorem dX12_allAtQuays_51 : decode cX12_allAtQuays 51 = .ok (.getfield 25, 3) := by decide +kernel
theorem dX12_allAtQuays_54 : decode cX12_allAtQuays 54 = .ok (.iload_n 3, 1) := by decide +kernel
theorem dX12_allAtQuays_55 : decode cX12_allAtQuays 55 = .ok (.iaload, 1) := by decide +kernel
theorem dX12_allAtQuays_56 : decode cX12_allAtQuays 56 = .ok (.ifCond .lt 16, 3) := by decide +kernel
theorem dX12_allAtQuays_59 : decode cX12_allAtQuays 59 = .ok (.aload_n 0, 1) := by decide +kernel
theorem dX12_allAtQuays_60 : decode cX12_allAtQuays 60 = .ok (.getfield 178, 3) := by decide +kernel
theorem dX12_allAtQuays_63 : decode cX12_allAtQuays 63 = .ok (.aload_n 0, 1) := by decide +kernel
theorem dX12_allAtQuays_64 : decode cX12_allAtQuays 64 = .ok (.getfield 25, 3) := by decide +kernel
theorem dX12_allAtQuays_67 : decode cX12_allAtQuays 67 = .ok (.iload_n 3, 1) := by decide +kernel
theorem dX12_allAtQuays_68 : decode cX12_allAtQuays 68 = .ok (.iaload, 1) := by decide +kernel
theorem dX12_allAtQuays_69 : decode cX12_allAtQuays 69 = .ok (.if_icmp .ne 7, 3) := by decide +kernel
theorem dX12_allAtQuays_72 : decode cX12_allAtQuays 72 = .ok (.iconst 1, 1) := by decide +kernel
theorem dX12_allAtQuays_73 : decode cX12_allAtQuays 73 = .ok (.goto 4, 3) := by decide +kernel
theorem dX12_allAtQuays_76 : decode cX12_allAtQuays 76 = .ok (.iconst 0, 1) := by decide +kernel
theorem dX12_allAtQuays_77 : decode cX12_allAtQuays 77 = .ok (.istore_n 2, 1) := by decide +kernel
theorem dX12_allAtQuays_78 : decode cX12_allAtQuays 78 = .ok (.iinc 3 1, 3) := by decide +kernel
theorem dX12_allAtQuays_81 : decode cX12_allAtQuays 81 = .ok (.goto (-77), 3) := by decide +kernel
theorem dX12_allAtQuays_84 : decode cX12_allAtQuays 84 = .ok (.iload_n 2, 1) := by decide +kernel
theorem dX12_allAtQuays_85 : decode cX12_allAtQuays 85 = .ok (.ireturn, 1) := by decide +kernel
theorem dX12_changesOf_0 : decode cX12_changesOf 0 = .ok (.iconst 0, 1) := by decide +kernel
theorem dX12_changesOf_1 : decode cX12_changesOf 1 = .ok (.istore_n 1, 1) := by decide +kernel
theorem dX12_changesOf_2 : decode cX12_changesOf 2 = .ok (.iconst 0, 1) := by decide +kernel
theorem dX12_changesOf_3 : decode cX12_changesOf 3 = .ok (.istore_n 2, 1) := by decide +kernel
theorem dX12_changesOf_4 : decode cX12_changesOf 4 = .ok (.iload_n 2, 1) := by decide +kernel
theorem dX12_changesOf_5 : decode cX12_changesOf 5 = .ok (.aload_n 0, 1) := by decide +kernel
theorem dX12_changesOf_6 : decode cX12_changesOf 6 = .ok (.getfield 100, 3) := by decide +kernel
theorem dX12_changesOf_9 : decode cX12_changesOf 9 = .ok (.if_icmp .ge 73, 3) := by decide +kernel
theorem dX12_changesOf_12 : decode cX12_changesOf 12 = .ok (.iload_n 2, 1) := by decide +kernel
theorem dX12_changesOf_13 : decode cX12_changesOf 13 = .ok (.istore_n 3, 1) := by decide +kernel
theorem dX12_changesOf_14 : decode cX12_changesOf 14 = .ok (.aload_n 0, 1) := by decide +kernel
theorem dX12_changesOf_15 : decode cX12_changesOf 15 = .ok (.getfield 59, 3) := by decide +kernel
theorem dX12_changesOf_18 : decode cX12_changesOf 18 = .ok (.iload_n 2, 1) := by decide +kernel
theorem dX12_changesOf_19 : decode cX12_changesOf 19 = .ok (.iaload, 1) := by decide +kernel
theorem dX12_changesOf_20 : decode cX12_changesOf 20 = .ok (.istore 4, 2) := by decide +kernel
theorem dX12_changesOf_22 : decode cX12_changesOf 22 = .ok (.iload 4, 2) := by decide +kernel
theorem dX12_changesOf_24 : decode cX12_changesOf 24 = .ok (.iload_n 2, 1) := by decide +kernel
theorem dX12_changesOf_25 : decode cX12_changesOf 25 = .ok (.if_icmp .eq 28, 3) := by decide +kernel
theorem dX12_changesOf_28 : decode cX12_changesOf 28 = .ok (.iload 4, 2) := by decide +kernel
theorem dX12_changesOf_30 : decode cX12_changesOf 30 = .ok (.iload_n 3, 1) := by decide +kernel
theorem dX12_changesOf_31 : decode cX12_changesOf 31 = .ok (.if_icmp .ge 8, 3) := by decide +kernel
theorem dX12_changesOf_34 : decode cX12_changesOf 34 = .ok (.iload 4, 2) := by decide +kernel
theorem dX12_changesOf_36 : decode cX12_changesOf 36 = .ok (.goto 4, 3) := by decide +kernel
theorem dX12_changesOf_39 : decode cX12_changesOf 39 = .ok (.iload_n 3, 1) := by decide +kernel
theorem dX12_changesOf_40 : decode cX12_changesOf 40 = .ok (.istore_n 3, 1) := by decide +kernel
theorem dX12_changesOf_41 : decode cX12_changesOf 41 = .ok (.aload_n 0, 1) := by decide +kernel
theorem dX12_changesOf_42 : decode cX12_changesOf 42 = .ok (.getfield 59, 3) := by decide +kernel
theorem dX12_changesOf_45 : decode cX12_changesOf 45 = .ok (.iload 4, 2) := by decide +kernel
theorem dX12_changesOf_47 : decode cX12_changesOf 47 = .ok (.iaload, 1) := by decide +kernel
theorem dX12_changesOf_48 : decode cX12_changesOf 48 = .ok (.istore 4, 2) := by decide +kernel
theorem dX12_changesOf_50 : decode cX12_changesOf 50 = .ok (.goto (-28), 3) := by decide +kernel
theorem dX12_changesOf_53 : decode cX12_changesOf 53 = .ok (.iload_n 1, 1) := by decide +kernel
theorem dX12_changesOf_54 : decode cX12_changesOf 54 = .ok (.aload_n 0, 1) := by decide +kernel
theorem dX12_changesOf_55 : decode cX12_changesOf 55 = .ok (.getfield 59, 3) := by decide +kernel
theorem dX12_changesOf_58 : decode cX12_changesOf 58 = .ok (.iload_n 2, 1) := by decide +kernel
theorem dX12_changesOf_59 : decode cX12_changesOf 59 = .ok (.iaload, 1) := by decide +kernel
theorem dX12_changesOf_60 : decode cX12_changesOf 60 = .ok (.iload_n 2, 1) := by decide +kernel
theorem dX12_changesOf_61 : decode cX12_changesOf 61 = .ok (.if_icmp .eq 12, 3) := by decide +kernel
theorem dX12_changesOf_64 : decode cX12_changesOf 64 = .ok (.iload_n 3, 1) := by decide +kernel
theorem dX12_changesOf_65 : decode cX12_changesOf 65 = .ok (.iload_n 2, 1) := by decide +kernel
theorem dX12_changesOf_66 : decode cX12_changesOf 66 = .ok (.if_icmp .eq 7, 3) := by decide +kernel
theorem dX12_changesOf_69 : decode cX12_changesOf 69 = .ok (.iconst 1, 1) := by decide +kernel
theorem dX12_changesOf_70 : decode cX12_changesOf 70 = .ok (.goto 4, 3) := by decide +kernel
theorem dX12_changesOf_73 : decode cX12_changesOf 73 = .ok (.iconst 0, 1) := by decide +kernel
theorem dX12_changesOf_74 : decode cX12_changesOf 74 = .ok (.iadd, 1) := by decide +kernel
theorem dX12_changesOf_75 : decode cX12_changesOf 75 = .ok (.istore_n 1, 1) := by decide +kernel
theorem dX12_changesOf_76 : decode cX12_changesOf 76 = .ok (.iinc 2 1, 3) := by decide +kernel
theorem dX12_changesOf_79 : decode cX12_changesOf 79 = .ok (.goto (-75), 3) := by decide +kernel
theorem dX12_changesOf_82 : decode cX12_changesOf 82 = .ok (.iload_n 1, 1) := by decide +kernel
theorem dX12_changesOf_83 : decode cX12_changesOf 83 = .ok (.ireturn, 1) := by decide +kernel
theorem dX12_changes_0 : decode cX12_changes 0 = .ok (.iload_n 2, 1) := by decide +kernel
theorem dX12_changes_1 : decode cX12_changes 1 = .ok (.iconst (-1), 1) := by decide +kernel
theorem dX12_changes_2 : decode cX12_changes 2 = .ok (.if_icmp .eq 14, 3) := by decide +kernel
theorem dX12_changes_5 : decode cX12_changes 5 = .ok (.aload_n 0, 1) := by decide +kernel
theorem dX12_changes_6 : decode cX12_changes 6 = .ok (.iload_n 2, 1) := by decide +kernel
theorem dX12_changes_7 : decode cX12_changes 7 = .ok (.invokevirtual 201, 3) := by decide +kernel
theorem dX12_changes_10 : decode cX12_changes 10 = .ok (.ifCond .ne 6, 3) := by decide +kernel
theorem dX12_changes_13 : decode cX12_changes 13 = .ok (.ldc 200, 2) := by decide +kernel
theorem dX12_changes_15 : decode cX12_changes 15 = .ok (.ireturn, 1) := by decide +kernel
theorem dX12_changes_16 : decode cX12_changes 16 = .ok (.iload_n 1, 1) := by decide +kernel
theorem dX12_changes_17 : decode cX12_changes 17 = .ok (.i2l, 1) := by decide +kernel
theorem dX12_changes_18 : decode cX12_changes 18 = .ok (.lconst 0, 1) := by decide +kernel
theorem dX12_changes_19 : decode cX12_changes 19 = .ok (.ldc2_w 207, 3) := by decide +kernel
theorem dX12_changes_22 : decode cX12_changes 22 = .ok (.invokestatic 96, 3) := by decide +kernel
theorem dX12_changes_25 : decode cX12_changes 25 = .ok (.ifCond .ne 6, 3) := by decide +kernel
theorem dX12_changes_28 : decode cX12_changes 28 = .ok (.ldc 105, 2) := by decide +kernel
theorem dX12_changes_30 : decode cX12_changes 30 = .ok (.ireturn, 1) := by decide +kernel
theorem dX12_changes_31 : decode cX12_changes 31 = .ok (.iconst 1, 1) := by decide +kernel
theorem dX12_changes_32 : decode cX12_changes 32 = .ok (.istore_n 3, 1) := by decide +kernel
theorem dX12_changes_33 : decode cX12_changes 33 = .ok (.iconst 0, 1) := by decide +kernel
theorem dX12_changes_34 : decode cX12_changes 34 = .ok (.istore 4, 2) := by decide +kernel
theorem dX12_changes_36 : decode cX12_changes 36 = .ok (.iload 4, 2) := by decide +kernel
theorem dX12_changes_38 : decode cX12_changes 38 = .ok (.aload_n 0, 1) := by decide +kernel
theorem dX12_changes_39 : decode cX12_changes 39 = .ok (.getfield 100, 3) := by decide +kernel
theorem dX12_changes_42 : decode cX12_changes 42 = .ok (.if_icmp .ge 13, 3) := by decide +kernel
theorem dX12_changes_45 : decode cX12_changes 45 = .ok (.iload_n 3, 1) := by decide +kernel
theorem dX12_changes_46 : decode cX12_changes 46 = .ok (.iconst 5, 1) := by decide +kernel
theorem dX12_changes_47 : decode cX12_changes 47 = .ok (.imul, 1) := by decide +kernel
theorem dX12_changes_48 : decode cX12_changes 48 = .ok (.istore_n 3, 1) := by decide +kernel
theorem dX12_changes_49 : decode cX12_changes 49 = .ok (.iinc 4 1, 3) := by decide +kernel
theorem dX12_changes_52 : decode cX12_changes 52 = .ok (.goto (-16), 3) := by decide +kernel
theorem dX12_changes_55 : decode cX12_changes 55 = .ok (.iconst (-1), 1) := by decide +kernel
theorem dX12_changes_56 : decode cX12_changes 56 = .ok (.istore 4, 2) := by decide +kernel
theorem dX12_changes_58 : decode cX12_changes 58 = .ok (.iconst 0, 1) := by decide +kernel
theorem dX12_changes_59 : decode cX12_changes 59 = .ok (.istore 5, 2) := by decide +kernel
theorem dX12_changes_61 : decode cX12_changes 61 = .ok (.iload 5, 2) := by decide +kernel
theorem dX12_changes_63 : decode cX12_changes 63 = .ok (.iload_n 3, 1) := by decide +kernel
theorem dX12_changes_64 : decode cX12_changes 64 = .ok (.if_icmp .ge 78, 3) := by decide +kernel
theorem dX12_changes_67 : decode cX12_changes 67 = .ok (.aload_n 0, 1) := by decide +kernel
theorem dX12_changes_68 : decode cX12_changes 68 = .ok (.iload 5, 2) := by decide +kernel
theorem dX12_changes_70 : decode cX12_changes 70 = .ok (.invokevirtual 258, 3) := by decide +kernel
theorem dX12_changes_73 : decode cX12_changes 73 = .ok (.ifCond .eq 63, 3) := by decide +kernel
theorem dX12_changes_76 : decode cX12_changes 76 = .ok (.iload 4, 2) := by decide +kernel
theorem dX12_changes_78 : decode cX12_changes 78 = .ok (.ifCond .lt 12, 3) := by decide +kernel
theorem dX12_changes_81 : decode cX12_changes 81 = .ok (.aload_n 0, 1) := by decide +kernel
theorem dX12_changes_82 : decode cX12_changes 82 = .ok (.invokevirtual 261, 3) := by decide +kernel
theorem dX12_changes_85 : decode cX12_changes 85 = .ok (.iload 4, 2) := by decide +kernel
theorem dX12_changes_87 : decode cX12_changes 87 = .ok (.if_icmp .ge 49, 3) := by decide +kernel
theorem dX12_changes_90 : decode cX12_changes 90 = .ok (.aload_n 0, 1) := by decide +kernel
theorem dX12_changes_91 : decode cX12_changes 91 = .ok (.iload_n 1, 1) := by decide +kernel
theorem dX12_changes_92 : decode cX12_changes 92 = .ok (.invokevirtual 264, 3) := by decide +kernel
theorem dX12_changes_95 : decode cX12_changes 95 = .ok (.ifCond .eq 41, 3) := by decide +kernel
theorem dX12_changes_98 : decode cX12_changes 98 = .ok (.aload_n 0, 1) := by decide +kernel
theorem dX12_changes_99 : decode cX12_changes 99 = .ok (.invokevirtual 261, 3) := by decide +kernel
theorem dX12_changes_102 : decode cX12_changes 102 = .ok (.istore 4, 2) := by decide +kernel
theorem dX12_changes_104 : decode cX12_changes 104 = .ok (.iconst 0, 1) := by decide +kernel
theorem dX12_changes_105 : decode cX12_changes 105 = .ok (.istore 6, 2) := by decide +kernel
theorem dX12_changes_107 : decode cX12_changes 107 = .ok (.iload 6, 2) := by decide +kernel
theorem dX12_changes_109 : decode cX12_changes 109 = .ok (.aload_n 0, 1) := by decide +kernel
theorem dX12_changes_110 : decode cX12_changes 110 = .ok (.getfield 100, 3) := by decide +kernel
theorem dX12_changes_113 : decode cX12_changes 113 = .ok (.if_icmp .ge 23, 3) := by decide +kernel
theorem dX12_changes_116 : decode cX12_changes 116 = .ok (.aload_n 0, 1) := by decide +kernel
theorem dX12_changes_117 : decode cX12_changes 117 = .ok (.getfield 62, 3) := by decide +kernel
theorem dX12_changes_120 : decode cX12_changes 120 = .ok (.iload 6, 2) := by decide +kernel
theorem dX12_changes_122 : decode cX12_changes 122 = .ok (.aload_n 0, 1) := by decide +kernel
theorem dX12_changes_123 : decode cX12_changes 123 = .ok (.getfield 59, 3) := by decide +kernel
theorem dX12_changes_126 : decode cX12_changes 126 = .ok (.iload 6, 2) := by decide +kernel
theorem dX12_changes_128 : decode cX12_changes 128 = .ok (.iaload, 1) := by decide +kernel
theorem dX12_changes_129 : decode cX12_changes 129 = .ok (.iastore, 1) := by decide +kernel
theorem dX12_changes_130 : decode cX12_changes 130 = .ok (.iinc 6 1, 3) := by decide +kernel
theorem dX12_changes_133 : decode cX12_changes 133 = .ok (.goto (-26), 3) := by decide +kernel
theorem dX12_changes_136 : decode cX12_changes 136 = .ok (.iinc 5 1, 3) := by decide +kernel
theorem dX12_changes_139 : decode cX12_changes 139 = .ok (.goto (-78), 3) := by decide +kernel
theorem dX12_changes_142 : decode cX12_changes 142 = .ok (.iload 4, 2) := by decide +kernel
theorem dX12_changes_144 : decode cX12_changes 144 = .ok (.ifCond .lt 8, 3) := by decide +kernel
theorem dX12_changes_147 : decode cX12_changes 147 = .ok (.iload_n 2, 1) := by decide +kernel
theorem dX12_changes_148 : decode cX12_changes 148 = .ok (.iconst (-1), 1) := by decide +kernel
theorem dX12_changes_149 : decode cX12_changes 149 = .ok (.if_icmp .ne 8, 3) := by decide +kernel
theorem dX12_changes_152 : decode cX12_changes 152 = .ok (.iload 4, 2) := by decide +kernel
theorem dX12_changes_154 : decode cX12_changes 154 = .ok (.goto 9, 3) := by decide +kernel
theorem dX12_changes_157 : decode cX12_changes 157 = .ok (.aload_n 0, 1) := by decide +kernel
theorem dX12_changes_158 : decode cX12_changes 158 = .ok (.getfield 62, 3) := by decide +kernel
theorem dX12_changes_161 : decode cX12_changes 161 = .ok (.iload_n 2, 1) := by decide +kernel
theorem dX12_changes_162 : decode cX12_changes 162 = .ok (.iaload, 1) := by decide +kernel
theorem dX12_changes_163 : decode cX12_changes 163 = .ok (.ireturn, 1) := by decide +kernel
theorem dX12_dry_0 : decode cX12_dry 0 = .ok (.iload_n 1, 1) := by decide +kernel
theorem dX12_dry_1 : decode cX12_dry 1 = .ok (.i2l, 1) := by decide +kernel
theorem dX12_dry_2 : decode cX12_dry 2 = .ok (.lconst 0, 1) := by decide +kernel
theorem dX12_dry_3 : decode cX12_dry 3 = .ok (.ldc2_w 207, 3) := by decide +kernel
theorem dX12_dry_6 : decode cX12_dry 6 = .ok (.invokestatic 96, 3) := by decide +kernel
theorem dX12_dry_9 : decode cX12_dry 9 = .ok (.ifCond .ne 6, 3) := by decide +kernel
theorem dX12_dry_12 : decode cX12_dry 12 = .ok (.ldc 105, 2) := by decide +kernel
theorem dX12_dry_14 : decode cX12_dry 14 = .ok (.ireturn, 1) := by decide +kernel
theorem dX12_dry_15 : decode cX12_dry 15 = .ok (.iconst 1, 1) := by decide +kernel
theorem dX12_dry_16 : decode cX12_dry 16 = .ok (.aload_n 0, 1) := by decide +kernel
theorem dX12_dry_17 : decode cX12_dry 17 = .ok (.getfield 93, 3) := by decide +kernel
theorem dX12_dry_20 : decode cX12_dry 20 = .ok (.ishl, 1) := by decide +kernel
theorem dX12_dry_21 : decode cX12_dry 21 = .ok (.iconst 1, 1) := by decide +kernel
theorem dX12_dry_22 : decode cX12_dry 22 = .ok (.isub, 1) := by decide +kernel
theorem dX12_dry_23 : decode cX12_dry 23 = .ok (.istore_n 2, 1) := by decide +kernel
theorem dX12_dry_24 : decode cX12_dry 24 = .ok (.iconst 0, 1) := by decide +kernel
theorem dX12_dry_25 : decode cX12_dry 25 = .ok (.istore_n 3, 1) := by decide +kernel
theorem dX12_dry_26 : decode cX12_dry 26 = .ok (.iload_n 3, 1) := by decide +kernel
theorem dX12_dry_27 : decode cX12_dry 27 = .ok (.aload_n 0, 1) := by decide +kernel
theorem dX12_dry_28 : decode cX12_dry 28 = .ok (.getfield 100, 3) := by decide +kernel
theorem dX12_dry_31 : decode cX12_dry 31 = .ok (.if_icmp .ge 64, 3) := by decide +kernel
theorem dX12_dry_34 : decode cX12_dry 34 = .ok (.aload_n 0, 1) := by decide +kernel
theorem dX12_dry_35 : decode cX12_dry 35 = .ok (.iload_n 3, 1) := by decide +kernel
theorem dX12_dry_36 : decode cX12_dry 36 = .ok (.invokevirtual 190, 3) := by decide +kernel
theorem dX12_dry_39 : decode cX12_dry 39 = .ok (.iload_n 2, 1) := by decide +kernel
theorem dX12_dry_40 : decode cX12_dry 40 = .ok (.iconst 1, 1) := by decide +kernel
theorem dX12_dry_41 : decode cX12_dry 41 = .ok (.aload_n 0, 1) := by decide +kernel
theorem dX12_dry_42 : decode cX12_dry 42 = .ok (.getfield 178, 3) := by decide +kernel
theorem dX12_dry_45 : decode cX12_dry 45 = .ok (.ishl, 1) := by decide +kernel
theorem dX12_dry_46 : decode cX12_dry 46 = .ok (.iconst (-1), 1) := by decide +kernel
theorem dX12_dry_47 : decode cX12_dry 47 = .ok (.ixor, 1) := by decide +kernel
theorem dX12_dry_48 : decode cX12_dry 48 = .ok (.iand, 1) := by decide +kernel
theorem dX12_dry_49 : decode cX12_dry 49 = .ok (.istore_n 2, 1) := by decide +kernel
theorem dX12_dry_50 : decode cX12_dry 50 = .ok (.iconst 0, 1) := by decide +kernel
theorem dX12_dry_51 : decode cX12_dry 51 = .ok (.istore 4, 2) := by decide +kernel
theorem dX12_dry_53 : decode cX12_dry 53 = .ok (.iload 4, 2) := by decide +kernel
theorem dX12_dry_55 : decode cX12_dry 55 = .ok (.iload_n 1, 1) := by decide +kernel
theorem dX12_dry_56 : decode cX12_dry 56 = .ok (.if_icmp .ge 33, 3) := by decide +kernel
theorem dX12_dry_59 : decode cX12_dry 59 = .ok (.aload_n 0, 1) := by decide +kernel
theorem dX12_dry_60 : decode cX12_dry 60 = .ok (.aload_n 0, 1) := by decide +kernel
theorem dX12_dry_61 : decode cX12_dry 61 = .ok (.getfield 22, 3) := by decide +kernel
theorem dX12_dry_64 : decode cX12_dry 64 = .ok (.iload_n 3, 1) := by decide +kernel
theorem dX12_dry_65 : decode cX12_dry 65 = .ok (.iaload, 1) := by decide +kernel
theorem dX12_dry_66 : decode cX12_dry 66 = .ok (.invokevirtual 204, 3) := by decide +kernel
theorem dX12_dry_69 : decode cX12_dry 69 = .ok (.ifCond .eq 20, 3) := by decide +kernel
theorem dX12_dry_72 : decode cX12_dry 72 = .ok (.iload_n 2, 1) := by decide +kernel
theorem dX12_dry_73 : decode cX12_dry 73 = .ok (.iconst 1, 1) := by decide +kernel
theorem dX12_dry_74 : decode cX12_dry 74 = .ok (.aload_n 0, 1) := by decide +kernel
theorem dX12_dry_75 : decode cX12_dry 75 = .ok (.getfield 178, 3) := by decide +kernel
theorem dX12_dry_78 : decode cX12_dry 78 = .ok (.ishl, 1) := by decide +kernel
theorem dX12_dry_79 : decode cX12_dry 79 = .ok (.iconst (-1), 1) := by decide +kernel
theorem dX12_dry_80 : decode cX12_dry 80 = .ok (.ixor, 1) := by decide +kernel
theorem dX12_dry_81 : decode cX12_dry 81 = .ok (.iand, 1) := by decide +kernel
theorem dX12_dry_82 : decode cX12_dry 82 = .ok (.istore_n 2, 1) := by decide +kernel
theorem dX12_dry_83 : decode cX12_dry 83 = .ok (.iinc 4 1, 3) := by decide +kernel
theorem dX12_dry_86 : decode cX12_dry 86 = .ok (.goto (-33), 3) := by decide +kernel
theorem dX12_dry_89 : decode cX12_dry 89 = .ok (.iinc 3 1, 3) := by decide +kernel
theorem dX12_dry_92 : decode cX12_dry 92 = .ok (.goto (-66), 3) := by decide +kernel
theorem dX12_dry_95 : decode cX12_dry 95 = .ok (.iload_n 2, 1) := by decide +kernel
theorem dX12_dry_96 : decode cX12_dry 96 = .ok (.ireturn, 1) := by decide +kernel
theorem dX12_towed_0 : decode cX12_towed 0 = .ok (.aload_n 0, 1) := by decide +kernel
theorem dX12_towed_1 : decode cX12_towed 1 = .ok (.iload_n 1, 1) := by decide +kernel
theorem dX12_towed_2 : decode cX12_towed 2 = .ok (.invokevirtual 201, 3) := by decide +kernel
theorem dX12_towed_5 : decode cX12_towed 5 = .ok (.ifCond .ne 6, 3) := by decide +kernel
theorem dX12_towed_8 : decode cX12_towed 8 = .ok (.ldc 200, 2) := by decide +kernel
theorem dX12_towed_10 : decode cX12_towed 10 = .ok (.ireturn, 1) := by decide +kernel
theorem dX12_towed_11 : decode cX12_towed 11 = .ok (.iconst 0, 1) := by decide +kernel
theorem dX12_towed_12 : decode cX12_towed 12 = .ok (.istore_n 2, 1) := by decide +kernel
theorem dX12_towed_13 : decode cX12_towed 13 = .ok (.iconst 0, 1) := by decide +kernel
theorem dX12_towed_14 : decode cX12_towed 14 = .ok (.istore_n 3, 1) := by decide +kernel
theorem dX12_towed_15 : decode cX12_towed 15 = .ok (.iload_n 3, 1) := by decide +kernel
theorem dX12_towed_16 : decode cX12_towed 16 = .ok (.aload_n 0, 1) := by decide +kernel
theorem dX12_towed_17 : decode cX12_towed 17 = .ok (.getfield 100, 3) := by decide +kernel
theorem dX12_towed_20 : decode cX12_towed 20 = .ok (.if_icmp .ge 21, 3) := by decide +kernel
theorem dX12_towed_23 : decode cX12_towed 23 = .ok (.iload_n 2, 1) := by decide +kernel
theorem dX12_towed_24 : decode cX12_towed 24 = .ok (.aload_n 0, 1) := by decide +kernel
theorem dX12_towed_25 : decode cX12_towed 25 = .ok (.getfield 28, 3) := by decide +kernel
theorem dX12_towed_28 : decode cX12_towed 28 = .ok (.bipush 10, 2) := by decide +kernel
theorem dX12_towed_30 : decode cX12_towed 30 = .ok (.iload_n 3, 1) := by decide +kernel
theorem dX12_towed_31 : decode cX12_towed 31 = .ok (.iadd, 1) := by decide +kernel
theorem dX12_towed_32 : decode cX12_towed 32 = .ok (.iaload, 1) := by decide +kernel
theorem dX12_towed_33 : decode cX12_towed 33 = .ok (.iadd, 1) := by decide +kernel
theorem dX12_towed_34 : decode cX12_towed 34 = .ok (.istore_n 2, 1) := by decide +kernel
theorem dX12_towed_35 : decode cX12_towed 35 = .ok (.iinc 3 1, 3) := by decide +kernel
theorem dX12_towed_38 : decode cX12_towed 38 = .ok (.goto (-23), 3) := by decide +kernel
theorem dX12_towed_41 : decode cX12_towed 41 = .ok (.iload_n 2, 1) := by decide +kernel
theorem dX12_towed_42 : decode cX12_towed 42 = .ok (.ifCond .ne 7, 3) := by decide +kernel
theorem dX12_towed_45 : decode cX12_towed 45 = .ok (.iconst 0, 1) := by decide +kernel
theorem dX12_towed_46 : decode cX12_towed 46 = .ok (.goto 18, 3) := by decide +kernel
theorem dX12_towed_49 : decode cX12_towed 49 = .ok (.aload_n 0, 1) := by decide +kernel
theorem dX12_towed_50 : decode cX12_towed 50 = .ok (.getfield 28, 3) := by decide +kernel
theorem dX12_towed_53 : decode cX12_towed 53 = .ok (.bipush 10, 2) := by decide +kernel
theorem dX12_towed_55 : decode cX12_towed 55 = .ok (.iload_n 1, 1) := by decide +kernel
theorem dX12_towed_56 : decode cX12_towed 56 = .ok (.iadd, 1) := by decide +kernel
theorem dX12_towed_57 : decode cX12_towed 57 = .ok (.iaload, 1) := by decide +kernel
theorem dX12_towed_58 : decode cX12_towed 58 = .ok (.sipush 1000, 3) := by decide +kernel
theorem dX12_towed_61 : decode cX12_towed 61 = .ok (.imul, 1) := by decide +kernel
theorem dX12_towed_62 : decode cX12_towed 62 = .ok (.iload_n 2, 1) := by decide +kernel
theorem dX12_towed_63 : decode cX12_towed 63 = .ok (.idiv, 1) := by decide +kernel
theorem dX12_towed_64 : decode cX12_towed 64 = .ok (.ireturn, 1) := by decide +kernel
theorem dX12_mercy_0 : decode cX12_mercy 0 = .ok (.iload_n 1, 1) := by decide +kernel
theorem dX12_mercy_1 : decode cX12_mercy 1 = .ok (.i2l, 1) := by decide +kernel
theorem dX12_mercy_2 : decode cX12_mercy 2 = .ok (.lconst 0, 1) := by decide +kernel
theorem dX12_mercy_3 : decode cX12_mercy 3 = .ok (.ldc2_w 207, 3) := by decide +kernel
theorem dX12_mercy_6 : decode cX12_mercy 6 = .ok (.invokestatic 96, 3) := by decide +kernel
theorem dX12_mercy_9 : decode cX12_mercy 9 = .ok (.ifCond .eq 15, 3) := by decide +kernel
theorem dX12_mercy_12 : decode cX12_mercy 12 = .ok (.iload_n 2, 1) := by decide +kernel
theorem dX12_mercy_13 : decode cX12_mercy 13 = .ok (.i2l, 1) := by decide +kernel
theorem dX12_mercy_14 : decode cX12_mercy 14 = .ok (.lconst 0, 1) := by decide +kernel
theorem dX12_mercy_15 : decode cX12_mercy 15 = .ok (.ldc2_w 267, 3) := by decide +kernel
theorem dX12_mercy_18 : decode cX12_mercy 18 = .ok (.invokestatic 96, 3) := by decide +kernel
theorem dX12_mercy_21 : decode cX12_mercy 21 = .ok (.ifCond .ne 6, 3) := by decide +kernel
theorem dX12_mercy_24 : decode cX12_mercy 24 = .ok (.ldc 105, 2) := by decide +kernel
theorem dX12_mercy_26 : decode cX12_mercy 26 = .ok (.ireturn, 1) := by decide +kernel
theorem dX12_mercy_27 : decode cX12_mercy 27 = .ok (.ldc2_w 269, 3) := by decide +kernel
theorem dX12_mercy_30 : decode cX12_mercy 30 = .ok (.lstore_n 3, 1) := by decide +kernel
theorem dX12_mercy_31 : decode cX12_mercy 31 = .ok (.iconst 0, 1) := by decide +kernel
theorem dX12_mercy_32 : decode cX12_mercy 32 = .ok (.istore 5, 2) := by decide +kernel
theorem dX12_mercy_34 : decode cX12_mercy 34 = .ok (.iload 5, 2) := by decide +kernel
theorem dX12_mercy_36 : decode cX12_mercy 36 = .ok (.iload_n 1, 1) := by decide +kernel
theorem dX12_mercy_37 : decode cX12_mercy 37 = .ok (.if_icmp .ge 21, 3) := by decide +kernel
theorem dX12_mercy_40 : decode cX12_mercy 40 = .ok (.lload_n 3, 1) := by decide +kernel
theorem dX12_mercy_41 : decode cX12_mercy 41 = .ok (.bipush 100, 2) := by decide +kernel
theorem dX12_mercy_43 : decode cX12_mercy 43 = .ok (.iload_n 2, 1) := by decide +kernel
theorem dX12_mercy_44 : decode cX12_mercy 44 = .ok (.isub, 1) := by decide +kernel
theorem dX12_mercy_45 : decode cX12_mercy 45 = .ok (.i2l, 1) := by decide +kernel
theorem dX12_mercy_46 : decode cX12_mercy 46 = .ok (.lmul, 1) := by decide +kernel
theorem dX12_mercy_47 : decode cX12_mercy 47 = .ok (.ldc2_w 267, 3) := by decide +kernel
theorem dX12_mercy_50 : decode cX12_mercy 50 = .ok (.ldiv, 1) := by decide +kernel
theorem dX12_mercy_51 : decode cX12_mercy 51 = .ok (.lstore_n 3, 1) := by decide +kernel
theorem dX12_mercy_52 : decode cX12_mercy 52 = .ok (.iinc 5 1, 3) := by decide +kernel
theorem dX12_mercy_55 : decode cX12_mercy 55 = .ok (.goto (-21), 3) := by decide +kernel
theorem dX12_mercy_58 : decode cX12_mercy 58 = .ok (.lload_n 3, 1) := by decide +kernel
theorem dX12_mercy_59 : decode cX12_mercy 59 = .ok (.l2i, 1) := by decide +kernel
theorem dX12_mercy_60 : decode cX12_mercy 60 = .ok (.ireturn, 1) := by decide +kernel
theorem dX12_see_0 : decode cX12_see 0 = .ok (.aload_n 0, 1) := by decide +kernel
theorem dX12_see_1 : decode cX12_see 1 = .ok (.iload_n 1, 1) := by decide +kernel
theorem dX12_see_2 : decode cX12_see 2 = .ok (.invokevirtual 201, 3) := by decide +kernel
theorem dX12_see_5 : decode cX12_see 5 = .ok (.ifCond .eq 11, 3) := by decide +kernel
theorem dX12_see_8 : decode cX12_see 8 = .ok (.aload_n 0, 1) := by decide +kernel
theorem dX12_see_9 : decode cX12_see 9 = .ok (.iload_n 3, 1) := by decide +kernel
theorem dX12_see_10 : decode cX12_see 10 = .ok (.invokevirtual 244, 3) := by decide +kernel
theorem dX12_see_13 : decode cX12_see 13 = .ok (.ifCond .ne 6, 3) := by decide +kernel
theorem dX12_see_16 : decode cX12_see 16 = .ok (.ldc 200, 2) := by decide +kernel
theorem dX12_see_18 : decode cX12_see 18 = .ok (.ireturn, 1) := by decide +kernel
theorem dX12_see_19 : decode cX12_see 19 = .ok (.iload_n 2, 1) := by decide +kernel
theorem dX12_see_20 : decode cX12_see 20 = .ok (.i2l, 1) := by decide +kernel
theorem dX12_see_21 : decode cX12_see 21 = .ok (.lconst 0, 1) := by decide +kernel
theorem dX12_see_22 : decode cX12_see 22 = .ok (.ldc2_w 271, 3) := by decide +kernel
theorem dX12_see_25 : decode cX12_see 25 = .ok (.invokestatic 96, 3) := by decide +kernel
theorem dX12_see_28 : decode cX12_see 28 = .ok (.ifCond .ne 6, 3) := by decide +kernel
theorem dX12_see_31 : decode cX12_see 31 = .ok (.ldc 105, 2) := by decide +kernel
theorem dX12_see_33 : decode cX12_see 33 = .ok (.ireturn, 1) := by decide +kernel
theorem dX12_see_34 : decode cX12_see 34 = .ok (.aload_n 0, 1) := by decide +kernel
theorem dX12_see_35 : decode cX12_see 35 = .ok (.getfield 169, 3) := by decide +kernel
theorem dX12_see_38 : decode cX12_see 38 = .ok (.bipush 6, 2) := by decide +kernel
theorem dX12_see_40 : decode cX12_see 40 = .ok (.if_icmp .ne 6, 3) := by decide +kernel
theorem dX12_see_43 : decode cX12_see 43 = .ok (.ldc 109, 2) := by decide +kernel
theorem dX12_see_45 : decode cX12_see 45 = .ok (.ireturn, 1) := by decide +kernel
theorem dX12_see_46 : decode cX12_see 46 = .ok (.aload_n 0, 1) := by decide +kernel
theorem dX12_see_47 : decode cX12_see 47 = .ok (.getfield 65, 3) := by decide +kernel
theorem dX12_see_50 : decode cX12_see 50 = .ok (.aload_n 0, 1) := by decide +kernel
theorem dX12_see_51 : decode cX12_see 51 = .ok (.getfield 169, 3) := by decide +kernel
theorem dX12_see_54 : decode cX12_see 54 = .ok (.iload_n 1, 1) := by decide +kernel
theorem dX12_see_55 : decode cX12_see 55 = .ok (.iastore, 1) := by decide +kernel
theorem dX12_see_56 : decode cX12_see 56 = .ok (.aload_n 0, 1) := by decide +kernel
theorem dX12_see_57 : decode cX12_see 57 = .ok (.getfield 68, 3) := by decide +kernel
theorem dX12_see_60 : decode cX12_see 60 = .ok (.aload_n 0, 1) := by decide +kernel
theorem dX12_see_61 : decode cX12_see 61 = .ok (.getfield 169, 3) := by decide +kernel
theorem dX12_see_64 : decode cX12_see 64 = .ok (.iload_n 2, 1) := by decide +kernel
theorem dX12_see_65 : decode cX12_see 65 = .ok (.iastore, 1) := by decide +kernel
theorem dX12_see_66 : decode cX12_see 66 = .ok (.aload_n 0, 1) := by decide +kernel
theorem dX12_see_67 : decode cX12_see 67 = .ok (.getfield 71, 3) := by decide +kernel
theorem dX12_see_70 : decode cX12_see 70 = .ok (.aload_n 0, 1) := by decide +kernel
theorem dX12_see_71 : decode cX12_see 71 = .ok (.getfield 169, 3) := by decide +kernel
theorem dX12_see_74 : decode cX12_see 74 = .ok (.iload_n 3, 1) := by decide +kernel
theorem dX12_see_75 : decode cX12_see 75 = .ok (.iastore, 1) := by decide +kernel
theorem dX12_see_76 : decode cX12_see 76 = .ok (.aload_n 0, 1) := by decide +kernel
theorem dX12_see_77 : decode cX12_see 77 = .ok (.dup, 1) := by decide +kernel
theorem dX12_see_78 : decode cX12_see 78 = .ok (.getfield 169, 3) := by decide +kernel
theorem dX12_see_81 : decode cX12_see 81 = .ok (.iconst 1, 1) := by decide +kernel
theorem dX12_see_82 : decode cX12_see 82 = .ok (.iadd, 1) := by decide +kernel
theorem dX12_see_83 : decode cX12_see 83 = .ok (.putfield 169, 3) := by decide +kernel
theorem dX12_see_86 : decode cX12_see 86 = .ok (.aload_n 0, 1) := by decide +kernel
theorem dX12_see_87 : decode cX12_see 87 = .ok (.getfield 169, 3) := by decide +kernel
theorem dX12_see_90 : decode cX12_see 90 = .ok (.ireturn, 1) := by decide +kernel
theorem dX12_findWay_0 : decode cX12_findWay 0 = .ok (.aload_n 0, 1) := by decide +kernel
theorem dX12_findWay_1 : decode cX12_findWay 1 = .ok (.iload_n 1, 1) := by decide +kernel
theorem dX12_findWay_2 : decode cX12_findWay 2 = .ok (.invokevirtual 190, 3) := by decide +kernel
theorem dX12_findWay_5 : decode cX12_findWay 5 = .ok (.aload_n 0, 1) := by decide +kernel
theorem dX12_findWay_6 : decode cX12_findWay 6 = .ok (.iconst (-1), 1) := by decide +kernel
theorem dX12_findWay_7 : decode cX12_findWay 7 = .ok (.putfield 181, 3) := by decide +kernel
theorem dX12_findWay_10 : decode cX12_findWay 10 = .ok (.aload_n 0, 1) := by decide +kernel
theorem dX12_findWay_11 : decode cX12_findWay 11 = .ok (.iload_n 2, 1) := by decide +kernel
theorem dX12_findWay_12 : decode cX12_findWay 12 = .ok (.putfield 184, 3) := by decide +kernel
theorem dX12_findWay_15 : decode cX12_findWay 15 = .ok (.aload_n 0, 1) := by decide +kernel
theorem dX12_findWay_16 : decode cX12_findWay 16 = .ok (.getfield 74, 3) := by decide +kernel
theorem dX12_findWay_19 : decode cX12_findWay 19 = .ok (.iconst 0, 1) := by decide +kernel
theorem dX12_findWay_20 : decode cX12_findWay 20 = .ok (.aload_n 0, 1) := by decide +kernel
theorem dX12_findWay_21 : decode cX12_findWay 21 = .ok (.getfield 178, 3) := by decide +kernel
theorem dX12_findWay_24 : decode cX12_findWay 24 = .ok (.iastore, 1) := by decide +kernel
theorem dX12_findWay_25 : decode cX12_findWay 25 = .ok (.iconst 1, 1) := by decide +kernel
theorem dX12_findWay_26 : decode cX12_findWay 26 = .ok (.istore_n 3, 1) := by decide +kernel
theorem dX12_findWay_27 : decode cX12_findWay 27 = .ok (.iconst 1, 1) := by decide +kernel
theorem dX12_findWay_28 : decode cX12_findWay 28 = .ok (.istore 4, 2) := by decide +kernel
theorem dX12_findWay_30 : decode cX12_findWay 30 = .ok (.iload 4, 2) := by decide +kernel
theorem dX12_findWay_32 : decode cX12_findWay 32 = .ok (.bipush 31, 2) := by decide +kernel
theorem dX12_findWay_34 : decode cX12_findWay 34 = .ok (.if_icmp .ge 43, 3) := by decide +kernel
theorem dX12_findWay_37 : decode cX12_findWay 37 = .ok (.iload_n 3, 1) := by decide +kernel
theorem dX12_findWay_38 : decode cX12_findWay 38 = .ok (.ifCond .eq 20, 3) := by decide +kernel
theorem dX12_findWay_41 : decode cX12_findWay 41 = .ok (.aload_n 0, 1) := by decide +kernel
theorem dX12_findWay_42 : decode cX12_findWay 42 = .ok (.aload_n 0, 1) := by decide +kernel
theorem dX12_findWay_43 : decode cX12_findWay 43 = .ok (.getfield 22, 3) := by decide +kernel
theorem dX12_findWay_46 : decode cX12_findWay 46 = .ok (.iload_n 1, 1) := by decide +kernel
theorem dX12_findWay_47 : decode cX12_findWay 47 = .ok (.iaload, 1) := by decide +kernel
theorem dX12_findWay_48 : decode cX12_findWay 48 = .ok (.invokevirtual 204, 3) := by decide +kernel
theorem dX12_findWay_51 : decode cX12_findWay 51 = .ok (.ifCond .eq 7, 3) := by decide +kernel
theorem dX12_findWay_54 : decode cX12_findWay 54 = .ok (.iconst 1, 1) := by decide +kernel
theorem dX12_findWay_55 : decode cX12_findWay 55 = .ok (.goto 4, 3) := by decide +kernel
theorem dX12_findWay_58 : decode cX12_findWay 58 = .ok (.iconst 0, 1) := by decide +kernel
theorem dX12_findWay_59 : decode cX12_findWay 59 = .ok (.istore_n 3, 1) := by decide +kernel
theorem dX12_findWay_60 : decode cX12_findWay 60 = .ok (.aload_n 0, 1) := by decide +kernel
theorem dX12_findWay_61 : decode cX12_findWay 61 = .ok (.getfield 74, 3) := by decide +kernel
theorem dX12_findWay_64 : decode cX12_findWay 64 = .ok (.iload 4, 2) := by decide +kernel
theorem dX12_findWay_66 : decode cX12_findWay 66 = .ok (.aload_n 0, 1) := by decide +kernel
theorem dX12_findWay_67 : decode cX12_findWay 67 = .ok (.getfield 178, 3) := by decide +kernel
theorem dX12_findWay_70 : decode cX12_findWay 70 = .ok (.iastore, 1) := by decide +kernel
theorem dX12_findWay_71 : decode cX12_findWay 71 = .ok (.iinc 4 1, 3) := by decide +kernel
theorem dX12_findWay_74 : decode cX12_findWay 74 = .ok (.goto (-44), 3) := by decide +kernel
theorem dX12_findWay_77 : decode cX12_findWay 77 = .ok (.return_, 1) := by decide +kernel
theorem dX12_couldBe_0 : decode cX12_couldBe 0 = .ok (.aload_n 0, 1) := by decide +kernel
theorem dX12_couldBe_1 : decode cX12_couldBe 1 = .ok (.iload_n 1, 1) := by decide +kernel
theorem dX12_couldBe_2 : decode cX12_couldBe 2 = .ok (.iload_n 2, 1) := by decide +kernel
theorem dX12_couldBe_3 : decode cX12_couldBe 3 = .ok (.invokevirtual 273, 3) := by decide +kernel
theorem dX12_couldBe_6 : decode cX12_couldBe 6 = .ok (.iconst 1, 1) := by decide +kernel
theorem dX12_couldBe_7 : decode cX12_couldBe 7 = .ok (.istore_n 3, 1) := by decide +kernel
theorem dX12_couldBe_8 : decode cX12_couldBe 8 = .ok (.iconst 0, 1) := by decide +kernel
theorem dX12_couldBe_9 : decode cX12_couldBe 9 = .ok (.istore 4, 2) := by decide +kernel
theorem dX12_couldBe_11 : decode cX12_couldBe 11 = .ok (.iload 4, 2) := by decide +kernel
theorem dX12_couldBe_13 : decode cX12_couldBe 13 = .ok (.aload_n 0, 1) := by decide +kernel
theorem dX12_couldBe_14 : decode cX12_couldBe 14 = .ok (.getfield 169, 3) := by decide +kernel
theorem dX12_couldBe_17 : decode cX12_couldBe 17 = .ok (.if_icmp .ge 52, 3) := by decide +kernel
theorem dX12_couldBe_20 : decode cX12_couldBe 20 = .ok (.iload_n 3, 1) := by decide +kernel
theorem dX12_couldBe_21 : decode cX12_couldBe 21 = .ok (.ifCond .eq 40, 3) := by decide +kernel
theorem dX12_couldBe_24 : decode cX12_couldBe 24 = .ok (.aload_n 0, 1) := by decide +kernel
theorem dX12_couldBe_25 : decode cX12_couldBe 25 = .ok (.getfield 65, 3) := by decide +kernel
theorem dX12_couldBe_28 : decode cX12_couldBe 28 = .ok (.iload 4, 2) := by decide +kernel
theorem dX12_couldBe_30 : decode cX12_couldBe 30 = .ok (.iaload, 1) := by decide +kernel
theorem dX12_couldBe_31 : decode cX12_couldBe 31 = .ok (.iload_n 1, 1) := by decide +kernel
theorem dX12_couldBe_32 : decode cX12_couldBe 32 = .ok (.if_icmp .ne 25, 3) := by decide +kernel
theorem dX12_couldBe_35 : decode cX12_couldBe 35 = .ok (.aload_n 0, 1) := by decide +kernel
theorem dX12_couldBe_36 : decode cX12_couldBe 36 = .ok (.getfield 74, 3) := by decide +kernel
theorem dX12_couldBe_39 : decode cX12_couldBe 39 = .ok (.aload_n 0, 1) := by decide +kernel
theorem dX12_couldBe_40 : decode cX12_couldBe 40 = .ok (.getfield 68, 3) := by decide +kernel
theorem dX12_couldBe_43 : decode cX12_couldBe 43 = .ok (.iload 4, 2) := by decide +kernel
theorem dX12_couldBe_45 : decode cX12_couldBe 45 = .ok (.iaload, 1) := by decide +kernel
theorem dX12_couldBe_46 : decode cX12_couldBe 46 = .ok (.iaload, 1) := by decide +kernel
theorem dX12_couldBe_47 : decode cX12_couldBe 47 = .ok (.aload_n 0, 1) := by decide +kernel
theorem dX12_couldBe_48 : decode cX12_couldBe 48 = .ok (.getfield 71, 3) := by decide +kernel
theorem dX12_couldBe_51 : decode cX12_couldBe 51 = .ok (.iload 4, 2) := by decide +kernel
theorem dX12_couldBe_53 : decode cX12_couldBe 53 = .ok (.iaload, 1) := by decide +kernel
theorem dX12_couldBe_54 : decode cX12_couldBe 54 = .ok (.if_icmp .ne 7, 3) := by decide +kernel
theorem dX12_couldBe_57 : decode cX12_couldBe 57 = .ok (.iconst 1, 1) := by decide +kernel
theorem dX12_couldBe_58 : decode cX12_couldBe 58 = .ok (.goto 4, 3) := by decide +kernel
theorem dX12_couldBe_61 : decode cX12_couldBe 61 = .ok (.iconst 0, 1) := by decide +kernel
theorem dX12_couldBe_62 : decode cX12_couldBe 62 = .ok (.istore_n 3, 1) := by decide +kernel
theorem dX12_couldBe_63 : decode cX12_couldBe 63 = .ok (.iinc 4 1, 3) := by decide +kernel
theorem dX12_couldBe_66 : decode cX12_couldBe 66 = .ok (.goto (-55), 3) := by decide +kernel
theorem dX12_couldBe_69 : decode cX12_couldBe 69 = .ok (.iload_n 3, 1) := by decide +kernel
theorem dX12_couldBe_70 : decode cX12_couldBe 70 = .ok (.ireturn, 1) := by decide +kernel
theorem dX12_left_0 : decode cX12_left 0 = .ok (.aload_n 0, 1) := by decide +kernel
theorem dX12_left_1 : decode cX12_left 1 = .ok (.iload_n 1, 1) := by decide +kernel
theorem dX12_left_2 : decode cX12_left 2 = .ok (.invokevirtual 201, 3) := by decide +kernel
theorem dX12_left_5 : decode cX12_left 5 = .ok (.ifCond .ne 6, 3) := by decide +kernel
theorem dX12_left_8 : decode cX12_left 8 = .ok (.ldc 200, 2) := by decide +kernel
theorem dX12_left_10 : decode cX12_left 10 = .ok (.ireturn, 1) := by decide +kernel
theorem dX12_left_11 : decode cX12_left 11 = .ok (.iconst 0, 1) := by decide +kernel
theorem dX12_left_12 : decode cX12_left 12 = .ok (.istore_n 3, 1) := by decide +kernel
theorem dX12_left_13 : decode cX12_left 13 = .ok (.iconst 0, 1) := by decide +kernel
theorem dX12_left_14 : decode cX12_left 14 = .ok (.istore 4, 2) := by decide +kernel
theorem dX12_left_16 : decode cX12_left 16 = .ok (.iload 4, 2) := by decide +kernel
theorem dX12_left_18 : decode cX12_left 18 = .ok (.sipush 999, 3) := by decide +kernel
theorem dX12_left_21 : decode cX12_left 21 = .ok (.if_icmp .gt 30, 3) := by decide +kernel
theorem dX12_left_24 : decode cX12_left 24 = .ok (.aload_n 0, 1) := by decide +kernel
theorem dX12_left_25 : decode cX12_left 25 = .ok (.iload_n 1, 1) := by decide +kernel
theorem dX12_left_26 : decode cX12_left 26 = .ok (.iload 4, 2) := by decide +kernel
theorem dX12_left_28 : decode cX12_left 28 = .ok (.invokevirtual 276, 3) := by decide +kernel
theorem dX12_left_31 : decode cX12_left 31 = .ok (.ifCond .eq 14, 3) := by decide +kernel
theorem dX12_left_34 : decode cX12_left 34 = .ok (.iload_n 3, 1) := by decide +kernel
theorem dX12_left_35 : decode cX12_left 35 = .ok (.iload_n 2, 1) := by decide +kernel
theorem dX12_left_36 : decode cX12_left 36 = .ok (.if_icmp .ne 6, 3) := by decide +kernel
theorem dX12_left_39 : decode cX12_left 39 = .ok (.iload 4, 2) := by decide +kernel
theorem dX12_left_41 : decode cX12_left 41 = .ok (.ireturn, 1) := by decide +kernel
theorem dX12_left_42 : decode cX12_left 42 = .ok (.iinc 3 1, 3) := by decide +kernel
theorem dX12_left_45 : decode cX12_left 45 = .ok (.iinc 4 1, 3) := by decide +kernel
theorem dX12_left_48 : decode cX12_left 48 = .ok (.goto (-32), 3) := by decide +kernel
theorem dX12_left_51 : decode cX12_left 51 = .ok (.iload_n 2, 1) := by decide +kernel
theorem dX12_left_52 : decode cX12_left 52 = .ok (.iconst (-1), 1) := by decide +kernel
theorem dX12_left_53 : decode cX12_left 53 = .ok (.if_icmp .ne 7, 3) := by decide +kernel
theorem dX12_left_56 : decode cX12_left 56 = .ok (.iload_n 3, 1) := by decide +kernel
theorem dX12_left_57 : decode cX12_left 57 = .ok (.goto 4, 3) := by decide +kernel
theorem dX12_left_60 : decode cX12_left 60 = .ok (.iconst (-1), 1) := by decide +kernel
theorem dX12_left_61 : decode cX12_left 61 = .ok (.ireturn, 1) := by decide +kernel
theorem dX12_look_0 : decode cX12_look 0 = .ok (.aload_n 0, 1) := by decide +kernel
theorem dX12_look_1 : decode cX12_look 1 = .ok (.iload_n 1, 1) := by decide +kernel
theorem dX12_look_2 : decode cX12_look 2 = .ok (.invokevirtual 201, 3) := by decide +kernel
theorem dX12_look_5 : decode cX12_look 5 = .ok (.ifCond .ne 6, 3) := by decide +kernel
theorem dX12_look_8 : decode cX12_look 8 = .ok (.ldc 200, 2) := by decide +kernel
theorem dX12_look_10 : decode cX12_look 10 = .ok (.ireturn, 1) := by decide +kernel
theorem dX12_look_11 : decode cX12_look 11 = .ok (.iconst 0, 1) := by decide +kernel
theorem dX12_look_12 : decode cX12_look 12 = .ok (.istore_n 2, 1) := by decide +kernel
theorem dX12_look_13 : decode cX12_look 13 = .ok (.iload_n 2, 1) := by decide +kernel
theorem dX12_look_14 : decode cX12_look 14 = .ok (.sipush 279, 3) := by decide +kernel
theorem dX12_look_17 : decode cX12_look 17 = .ok (.if_icmp .ge 16, 3) := by decide +kernel
theorem dX12_look_20 : decode cX12_look 20 = .ok (.aload_n 0, 1) := by decide +kernel
theorem dX12_look_21 : decode cX12_look 21 = .ok (.getfield 77, 3) := by decide +kernel
theorem dX12_look_24 : decode cX12_look 24 = .ok (.iload_n 2, 1) := by decide +kernel
theorem dX12_look_25 : decode cX12_look 25 = .ok (.iconst 0, 1) := by decide +kernel
theorem dX12_look_26 : decode cX12_look 26 = .ok (.iastore, 1) := by decide +kernel
theorem dX12_look_27 : decode cX12_look 27 = .ok (.iinc 2 1, 3) := by decide +kernel
theorem dX12_look_30 : decode cX12_look 30 = .ok (.goto (-17), 3) := by decide +kernel
theorem dX12_look_33 : decode cX12_look 33 = .ok (.iconst 0, 1) := by decide +kernel
theorem dX12_look_34 : decode cX12_look 34 = .ok (.istore_n 2, 1) := by decide +kernel
theorem dX12_look_35 : decode cX12_look 35 = .ok (.iconst 0, 1) := by decide +kernel
theorem dX12_look_36 : decode cX12_look 36 = .ok (.istore_n 3, 1) := by decide +kernel
theorem dX12_look_37 : decode cX12_look 37 = .ok (.iload_n 3, 1) := by decide +kernel
theorem dX12_look_38 : decode cX12_look 38 = .ok (.sipush 999, 3) := by decide +kernel
theorem dX12_look_41 : decode cX12_look 41 = .ok (.if_icmp .gt 59, 3) := by decide +kernel
theorem dX12_look_44 : decode cX12_look 44 = .ok (.aload_n 0, 1) := by decide +kernel
theorem dX12_look_45 : decode cX12_look 45 = .ok (.iload_n 1, 1) := by decide +kernel
theorem dX12_look_46 : decode cX12_look 46 = .ok (.iload_n 3, 1) := by decide +kernel
theorem dX12_look_47 : decode cX12_look 47 = .ok (.invokevirtual 276, 3) := by decide +kernel
theorem dX12_look_50 : decode cX12_look 50 = .ok (.ifCond .eq 44, 3) := by decide +kernel
theorem dX12_look_53 : decode cX12_look 53 = .ok (.iinc 2 1, 3) := by decide +kernel
theorem dX12_look_56 : decode cX12_look 56 = .ok (.iconst 0, 1) := by decide +kernel
theorem dX12_look_57 : decode cX12_look 57 = .ok (.istore 4, 2) := by decide +kernel
theorem dX12_look_59 : decode cX12_look 59 = .ok (.iload 4, 2) := by decide +kernel
theorem dX12_look_61 : decode cX12_look 61 = .ok (.bipush 31, 2) := by decide +kernel
theorem dX12_look_63 : decode cX12_look 63 = .ok (.if_icmp .ge 31, 3) := by decide +kernel
theorem dX12_look_66 : decode cX12_look 66 = .ok (.aload_n 0, 1) := by decide +kernel
theorem dX12_look_67 : decode cX12_look 67 = .ok (.getfield 77, 3) := by decide +kernel
theorem dX12_look_70 : decode cX12_look 70 = .ok (.bipush 9, 2) := by decide +kernel
theorem dX12_look_72 : decode cX12_look 72 = .ok (.iload 4, 2) := by decide +kernel
theorem dX12_look_74 : decode cX12_look 74 = .ok (.imul, 1) := by decide +kernel
theorem dX12_look_75 : decode cX12_look 75 = .ok (.aload_n 0, 1) := by decide +kernel
theorem dX12_look_76 : decode cX12_look 76 = .ok (.getfield 74, 3) := by decide +kernel
theorem dX12_look_79 : decode cX12_look 79 = .ok (.iload 4, 2) := by decide +kernel
theorem dX12_look_81 : decode cX12_look 81 = .ok (.iaload, 1) := by decide +kernel
theorem dX12_look_82 : decode cX12_look 82 = .ok (.iadd, 1) := by decide +kernel
theorem dX12_look_83 : decode cX12_look 83 = .ok (.dup2, 1) := by decide +kernel
theorem dX12_look_84 : decode cX12_look 84 = .ok (.iaload, 1) := by decide +kernel
theorem dX12_look_85 : decode cX12_look 85 = .ok (.iconst 1, 1) := by decide +kernel
theorem dX12_look_86 : decode cX12_look 86 = .ok (.iadd, 1) := by decide +kernel
theorem dX12_look_87 : decode cX12_look 87 = .ok (.iastore, 1) := by decide +kernel
theorem dX12_look_88 : decode cX12_look 88 = .ok (.iinc 4 1, 3) := by decide +kernel
theorem dX12_look_91 : decode cX12_look 91 = .ok (.goto (-32), 3) := by decide +kernel
theorem dX12_look_94 : decode cX12_look 94 = .ok (.iinc 3 1, 3) := by decide +kernel
theorem dX12_look_97 : decode cX12_look 97 = .ok (.goto (-60), 3) := by decide +kernel
theorem dX12_look_100 : decode cX12_look 100 = .ok (.iconst (-1), 1) := by decide +kernel
theorem dX12_look_101 : decode cX12_look 101 = .ok (.istore_n 3, 1) := by decide +kernel
theorem dX12_look_102 : decode cX12_look 102 = .ok (.iload_n 2, 1) := by decide +kernel
theorem dX12_look_103 : decode cX12_look 103 = .ok (.istore 4, 2) := by decide +kernel
theorem dX12_look_105 : decode cX12_look 105 = .ok (.iconst 1, 1) := by decide +kernel
theorem dX12_look_106 : decode cX12_look 106 = .ok (.istore 5, 2) := by decide +kernel
theorem dX12_look_108 : decode cX12_look 108 = .ok (.iload 5, 2) := by decide +kernel
theorem dX12_look_110 : decode cX12_look 110 = .ok (.bipush 31, 2) := by decide +kernel
theorem dX12_look_112 : decode cX12_look 112 = .ok (.if_icmp .ge 96, 3) := by decide +kernel
theorem dX12_look_115 : decode cX12_look 115 = .ok (.iconst 0, 1) := by decide +kernel
theorem dX12_look_116 : decode cX12_look 116 = .ok (.istore 6, 2) := by decide +kernel
theorem dX12_look_118 : decode cX12_look 118 = .ok (.iconst 0, 1) := by decide +kernel
theorem dX12_look_119 : decode cX12_look 119 = .ok (.istore 7, 2) := by decide +kernel
theorem dX12_look_121 : decode cX12_look 121 = .ok (.iload 7, 2) := by decide +kernel
theorem dX12_look_123 : decode cX12_look 123 = .ok (.bipush 9, 2) := by decide +kernel
theorem dX12_look_125 : decode cX12_look 125 = .ok (.if_icmp .ge 47, 3) := by decide +kernel
theorem dX12_look_128 : decode cX12_look 128 = .ok (.aload_n 0, 1) := by decide +kernel
theorem dX12_look_129 : decode cX12_look 129 = .ok (.getfield 77, 3) := by decide +kernel
theorem dX12_look_132 : decode cX12_look 132 = .ok (.bipush 9, 2) := by decide +kernel
theorem dX12_look_134 : decode cX12_look 134 = .ok (.iload 5, 2) := by decide +kernel
theorem dX12_look_136 : decode cX12_look 136 = .ok (.imul, 1) := by decide +kernel
theorem dX12_look_137 : decode cX12_look 137 = .ok (.iload 7, 2) := by decide +kernel
theorem dX12_look_139 : decode cX12_look 139 = .ok (.iadd, 1) := by decide +kernel
theorem dX12_look_140 : decode cX12_look 140 = .ok (.iaload, 1) := by decide +kernel
theorem dX12_look_141 : decode cX12_look 141 = .ok (.iload 6, 2) := by decide +kernel
theorem dX12_look_143 : decode cX12_look 143 = .ok (.if_icmp .le 19, 3) := by decide +kernel
theorem dX12_look_146 : decode cX12_look 146 = .ok (.aload_n 0, 1) := by decide +kernel
theorem dX12_look_147 : decode cX12_look 147 = .ok (.getfield 77, 3) := by decide +kernel
theorem dX12_look_150 : decode cX12_look 150 = .ok (.bipush 9, 2) := by decide +kernel
theorem dX12_look_152 : decode cX12_look 152 = .ok (.iload 5, 2) := by decide +kernel
theorem dX12_look_154 : decode cX12_look 154 = .ok (.imul, 1) := by decide +kernel
theorem dX12_look_155 : decode cX12_look 155 = .ok (.iload 7, 2) := by decide +kernel
theorem dX12_look_157 : decode cX12_look 157 = .ok (.iadd, 1) := by decide +kernel
theorem dX12_look_158 : decode cX12_look 158 = .ok (.iaload, 1) := by decide +kernel
theorem dX12_look_159 : decode cX12_look 159 = .ok (.goto 5, 3) := by decide +kernel
theorem dX12_look_162 : decode cX12_look 162 = .ok (.iload 6, 2) := by decide +kernel
theorem dX12_look_164 : decode cX12_look 164 = .ok (.istore 6, 2) := by decide +kernel
theorem dX12_look_166 : decode cX12_look 166 = .ok (.iinc 7 1, 3) := by decide +kernel
theorem dX12_look_169 : decode cX12_look 169 = .ok (.goto (-48), 3) := by decide +kernel
theorem dX12_look_172 : decode cX12_look 172 = .ok (.iload 6, 2) := by decide +kernel
theorem dX12_look_174 : decode cX12_look 174 = .ok (.iload 4, 2) := by decide +kernel
theorem dX12_look_176 : decode cX12_look 176 = .ok (.if_icmp .ge 8, 3) := by decide +kernel
theorem dX12_look_179 : decode cX12_look 179 = .ok (.iload 5, 2) := by decide +kernel
theorem dX12_look_181 : decode cX12_look 181 = .ok (.goto 4, 3) := by decide +kernel
theorem dX12_look_184 : decode cX12_look 184 = .ok (.iload_n 3, 1) := by decide +kernel
theorem dX12_look_185 : decode cX12_look 185 = .ok (.istore_n 3, 1) := by decide +kernel
theorem dX12_look_186 : decode cX12_look 186 = .ok (.iload 6, 2) := by decide +kernel
theorem dX12_look_188 : decode cX12_look 188 = .ok (.iload 4, 2) := by decide +kernel
theorem dX12_look_190 : decode cX12_look 190 = .ok (.if_icmp .ge 8, 3) := by decide +kernel
theorem dX12_look_193 : decode cX12_look 193 = .ok (.iload 6, 2) := by decide +kernel
theorem dX12_look_195 : decode cX12_look 195 = .ok (.goto 5, 3) := by decide +kernel
theorem dX12_look_198 : decode cX12_look 198 = .ok (.iload 4, 2) := by decide +kernel
theorem dX12_look_200 : decode cX12_look 200 = .ok (.istore 4, 2) := by decide +kernel
theorem dX12_look_202 : decode cX12_look 202 = .ok (.iinc 5 1, 3) := by decide +kernel
theorem dX12_look_205 : decode cX12_look 205 = .ok (.goto (-97), 3) := by decide +kernel
theorem dX12_look_208 : decode cX12_look 208 = .ok (.iload_n 3, 1) := by decide +kernel
theorem dX12_look_209 : decode cX12_look 209 = .ok (.ireturn, 1) := by decide +kernel
theorem dX12_write_0 : decode cX12_write 0 = .ok (.aload_n 0, 1) := by decide +kernel
theorem dX12_write_1 : decode cX12_write 1 = .ok (.iload_n 1, 1) := by decide +kernel
theorem dX12_write_2 : decode cX12_write 2 = .ok (.invokevirtual 201, 3) := by decide +kernel
theorem dX12_write_5 : decode cX12_write 5 = .ok (.ifCond .eq 11, 3) := by decide +kernel
theorem dX12_write_8 : decode cX12_write 8 = .ok (.aload_n 0, 1) := by decide +kernel
theorem dX12_write_9 : decode cX12_write 9 = .ok (.iload_n 2, 1) := by decide +kernel
theorem dX12_write_10 : decode cX12_write 10 = .ok (.invokevirtual 244, 3) := by decide +kernel
theorem dX12_write_13 : decode cX12_write 13 = .ok (.ifCond .ne 6, 3) := by decide +kernel
theorem dX12_write_16 : decode cX12_write 16 = .ok (.ldc 200, 2) := by decide +kernel
theorem dX12_write_18 : decode cX12_write 18 = .ok (.ireturn, 1) := by decide +kernel
theorem dX12_write_19 : decode cX12_write 19 = .ok (.aload_n 0, 1) := by decide +kernel
theorem dX12_write_20 : decode cX12_write 20 = .ok (.getfield 172, 3) := by decide +kernel
theorem dX12_write_23 : decode cX12_write 23 = .ok (.bipush 15, 2) := by decide +kernel
theorem dX12_write_25 : decode cX12_write 25 = .ok (.if_icmp .ne 6, 3) := by decide +kernel
theorem dX12_write_28 : decode cX12_write 28 = .ok (.ldc 109, 2) := by decide +kernel
theorem dX12_write_30 : decode cX12_write 30 = .ok (.ireturn, 1) := by decide +kernel
theorem dX12_write_31 : decode cX12_write 31 = .ok (.aload_n 0, 1) := by decide +kernel
theorem dX12_write_32 : decode cX12_write 32 = .ok (.getfield 80, 3) := by decide +kernel
theorem dX12_write_35 : decode cX12_write 35 = .ok (.aload_n 0, 1) := by decide +kernel
theorem dX12_write_36 : decode cX12_write 36 = .ok (.getfield 172, 3) := by decide +kernel
theorem dX12_write_39 : decode cX12_write 39 = .ok (.iload_n 1, 1) := by decide +kernel
theorem dX12_write_40 : decode cX12_write 40 = .ok (.iastore, 1) := by decide +kernel
theorem dX12_write_41 : decode cX12_write 41 = .ok (.aload_n 0, 1) := by decide +kernel
theorem dX12_write_42 : decode cX12_write 42 = .ok (.getfield 83, 3) := by decide +kernel
theorem dX12_write_45 : decode cX12_write 45 = .ok (.aload_n 0, 1) := by decide +kernel
theorem dX12_write_46 : decode cX12_write 46 = .ok (.getfield 172, 3) := by decide +kernel
theorem dX12_write_49 : decode cX12_write 49 = .ok (.iload_n 2, 1) := by decide +kernel
theorem dX12_write_50 : decode cX12_write 50 = .ok (.iastore, 1) := by decide +kernel
theorem dX12_write_51 : decode cX12_write 51 = .ok (.aload_n 0, 1) := by decide +kernel
theorem dX12_write_52 : decode cX12_write 52 = .ok (.dup, 1) := by decide +kernel
theorem dX12_write_53 : decode cX12_write 53 = .ok (.getfield 172, 3) := by decide +kernel
theorem dX12_write_56 : decode cX12_write 56 = .ok (.iconst 1, 1) := by decide +kernel
theorem dX12_write_57 : decode cX12_write 57 = .ok (.iadd, 1) := by decide +kernel
theorem dX12_write_58 : decode cX12_write 58 = .ok (.putfield 172, 3) := by decide +kernel
theorem dX12_write_61 : decode cX12_write 61 = .ok (.aload_n 0, 1) := by decide +kernel
theorem dX12_write_62 : decode cX12_write 62 = .ok (.getfield 172, 3) := by decide +kernel
theorem dX12_write_65 : decode cX12_write 65 = .ok (.ireturn, 1) := by decide +kernel
theorem dX12_tear_0 : decode cX12_tear 0 = .ok (.aload_n 0, 1) := by decide +kernel
theorem dX12_tear_1 : decode cX12_tear 1 = .ok (.getfield 169, 3) := by decide +kernel
theorem dX12_tear_4 : decode cX12_tear 4 = .ok (.aload_n 0, 1) := by decide +kernel
theorem dX12_tear_5 : decode cX12_tear 5 = .ok (.getfield 172, 3) := by decide +kernel
theorem dX12_tear_8 : decode cX12_tear 8 = .ok (.iadd, 1) := by decide +kernel
theorem dX12_tear_9 : decode cX12_tear 9 = .ok (.istore_n 1, 1) := by decide +kernel
theorem dX12_tear_10 : decode cX12_tear 10 = .ok (.aload_n 0, 1) := by decide +kernel
theorem dX12_tear_11 : decode cX12_tear 11 = .ok (.iconst 0, 1) := by decide +kernel
theorem dX12_tear_12 : decode cX12_tear 12 = .ok (.putfield 169, 3) := by decide +kernel
theorem dX12_tear_15 : decode cX12_tear 15 = .ok (.aload_n 0, 1) := by decide +kernel
theorem dX12_tear_16 : decode cX12_tear 16 = .ok (.iconst 0, 1) := by decide +kernel
theorem dX12_tear_17 : decode cX12_tear 17 = .ok (.putfield 172, 3) := by decide +kernel
theorem dX12_tear_20 : decode cX12_tear 20 = .ok (.iload_n 1, 1) := by decide +kernel
theorem dX12_tear_21 : decode cX12_tear 21 = .ok (.ireturn, 1) := by decide +kernel
theorem dX12_judge_0 : decode cX12_judge 0 = .ok (.iconst 0, 1) := by decide +kernel
theorem dX12_judge_1 : decode cX12_judge 1 = .ok (.istore_n 1, 1) := by decide +kernel
theorem dX12_judge_2 : decode cX12_judge 2 = .ok (.iload_n 1, 1) := by decide +kernel
theorem dX12_judge_3 : decode cX12_judge 3 = .ok (.aload_n 0, 1) := by decide +kernel
theorem dX12_judge_4 : decode cX12_judge 4 = .ok (.getfield 172, 3) := by decide +kernel
theorem dX12_judge_7 : decode cX12_judge 7 = .ok (.if_icmp .ge 31, 3) := by decide +kernel
theorem dX12_judge_10 : decode cX12_judge 10 = .ok (.aload_n 0, 1) := by decide +kernel
theorem dX12_judge_11 : decode cX12_judge 11 = .ok (.getfield 28, 3) := by decide +kernel
theorem dX12_judge_14 : decode cX12_judge 14 = .ok (.aload_n 0, 1) := by decide +kernel
theorem dX12_judge_15 : decode cX12_judge 15 = .ok (.getfield 80, 3) := by decide +kernel
theorem dX12_judge_18 : decode cX12_judge 18 = .ok (.iload_n 1, 1) := by decide +kernel
theorem dX12_judge_19 : decode cX12_judge 19 = .ok (.iaload, 1) := by decide +kernel
theorem dX12_judge_20 : decode cX12_judge 20 = .ok (.iaload, 1) := by decide +kernel
theorem dX12_judge_21 : decode cX12_judge 21 = .ok (.aload_n 0, 1) := by decide +kernel
theorem dX12_judge_22 : decode cX12_judge 22 = .ok (.getfield 83, 3) := by decide +kernel
theorem dX12_judge_25 : decode cX12_judge 25 = .ok (.iload_n 1, 1) := by decide +kernel
theorem dX12_judge_26 : decode cX12_judge 26 = .ok (.iaload, 1) := by decide +kernel
theorem dX12_judge_27 : decode cX12_judge 27 = .ok (.if_icmp .eq 5, 3) := by decide +kernel
theorem dX12_judge_30 : decode cX12_judge 30 = .ok (.iload_n 1, 1) := by decide +kernel
theorem dX12_judge_31 : decode cX12_judge 31 = .ok (.ireturn, 1) := by decide +kernel
theorem dX12_judge_32 : decode cX12_judge 32 = .ok (.iinc 1 1, 3) := by decide +kernel
theorem dX12_judge_35 : decode cX12_judge 35 = .ok (.goto (-33), 3) := by decide +kernel
theorem dX12_judge_38 : decode cX12_judge 38 = .ok (.iconst (-1), 1) := by decide +kernel
theorem dX12_judge_39 : decode cX12_judge 39 = .ok (.ireturn, 1) := by decide +kernel
theorem dX12_seed_0 : decode cX12_seed 0 = .ok (.iload_n 1, 1) := by decide +kernel
theorem dX12_seed_1 : decode cX12_seed 1 = .ok (.ifCond .ge 6, 3) := by decide +kernel
theorem dX12_seed_4 : decode cX12_seed 4 = .ok (.ldc 105, 2) := by decide +kernel
theorem dX12_seed_6 : decode cX12_seed 6 = .ok (.ireturn, 1) := by decide +kernel
theorem dX12_seed_7 : decode cX12_seed 7 = .ok (.aload_n 0, 1) := by decide +kernel
theorem dX12_seed_8 : decode cX12_seed 8 = .ok (.getfield 228, 3) := by decide +kernel
theorem dX12_seed_11 : decode cX12_seed 11 = .ok (.istore_n 2, 1) := by decide +kernel
theorem dX12_seed_12 : decode cX12_seed 12 = .ok (.aload_n 0, 1) := by decide +kernel
theorem dX12_seed_13 : decode cX12_seed 13 = .ok (.iload_n 1, 1) := by decide +kernel
theorem dX12_seed_14 : decode cX12_seed 14 = .ok (.putfield 228, 3) := by decide +kernel
theorem dX12_seed_17 : decode cX12_seed 17 = .ok (.iload_n 2, 1) := by decide +kernel
theorem dX12_seed_18 : decode cX12_seed 18 = .ok (.ireturn, 1) := by decide +kernel
theorem dX12_keep_0 : decode cX12_keep 0 = .ok (.iload_n 1, 1) := by decide +kernel
theorem dX12_keep_1 : decode cX12_keep 1 = .ok (.i2l, 1) := by decide +kernel
theorem dX12_keep_2 : decode cX12_keep 2 = .ok (.lconst 0, 1) := by decide +kernel
theorem dX12_keep_3 : decode cX12_keep 3 = .ok (.lconst 1, 1) := by decide +kernel
theorem dX12_keep_4 : decode cX12_keep 4 = .ok (.invokestatic 96, 3) := by decide +kernel
theorem dX12_keep_7 : decode cX12_keep 7 = .ok (.ifCond .ne 6, 3) := by decide +kernel
theorem dX12_keep_10 : decode cX12_keep 10 = .ok (.ldc 200, 2) := by decide +kernel
theorem dX12_keep_12 : decode cX12_keep 12 = .ok (.ireturn, 1) := by decide +kernel
theorem dX12_keep_13 : decode cX12_keep 13 = .ok (.iconst 0, 1) := by decide +kernel
theorem dX12_keep_14 : decode cX12_keep 14 = .ok (.istore_n 2, 1) := by decide +kernel
theorem dX12_keep_15 : decode cX12_keep 15 = .ok (.iload_n 2, 1) := by decide +kernel
theorem dX12_keep_16 : decode cX12_keep 16 = .ok (.bipush 21, 2) := by decide +kernel
theorem dX12_keep_18 : decode cX12_keep 18 = .ok (.if_icmp .ge 26, 3) := by decide +kernel
theorem dX12_keep_21 : decode cX12_keep 21 = .ok (.aload_n 0, 1) := by decide +kernel
theorem dX12_keep_22 : decode cX12_keep 22 = .ok (.getfield 86, 3) := by decide +kernel
theorem dX12_keep_25 : decode cX12_keep 25 = .ok (.bipush 22, 2) := by decide +kernel
theorem dX12_keep_27 : decode cX12_keep 27 = .ok (.iload_n 1, 1) := by decide +kernel
theorem dX12_keep_28 : decode cX12_keep 28 = .ok (.imul, 1) := by decide +kernel
theorem dX12_keep_29 : decode cX12_keep 29 = .ok (.iload_n 2, 1) := by decide +kernel
theorem dX12_keep_30 : decode cX12_keep 30 = .ok (.iadd, 1) := by decide +kernel
theorem dX12_keep_31 : decode cX12_keep 31 = .ok (.aload_n 0, 1) := by decide +kernel
theorem dX12_keep_32 : decode cX12_keep 32 = .ok (.getfield 28, 3) := by decide +kernel
theorem dX12_keep_35 : decode cX12_keep 35 = .ok (.iload_n 2, 1) := by decide +kernel
theorem dX12_keep_36 : decode cX12_keep 36 = .ok (.iaload, 1) := by decide +kernel
theorem dX12_keep_37 : decode cX12_keep 37 = .ok (.iastore, 1) := by decide +kernel
theorem dX12_keep_38 : decode cX12_keep 38 = .ok (.iinc 2 1, 3) := by decide +kernel
theorem dX12_keep_41 : decode cX12_keep 41 = .ok (.goto (-26), 3) := by decide +kernel
theorem dX12_keep_44 : decode cX12_keep 44 = .ok (.aload_n 0, 1) := by decide +kernel
theorem dX12_keep_45 : decode cX12_keep 45 = .ok (.getfield 86, 3) := by decide +kernel
theorem dX12_keep_48 : decode cX12_keep 48 = .ok (.bipush 22, 2) := by decide +kernel
theorem dX12_keep_50 : decode cX12_keep 50 = .ok (.iload_n 1, 1) := by decide +kernel
theorem dX12_keep_51 : decode cX12_keep 51 = .ok (.imul, 1) := by decide +kernel
theorem dX12_keep_52 : decode cX12_keep 52 = .ok (.bipush 21, 2) := by decide +kernel
theorem dX12_keep_54 : decode cX12_keep 54 = .ok (.iadd, 1) := by decide +kernel
theorem dX12_keep_55 : decode cX12_keep 55 = .ok (.aload_n 0, 1) := by decide +kernel
theorem dX12_keep_56 : decode cX12_keep 56 = .ok (.getfield 228, 3) := by decide +kernel
theorem dX12_keep_59 : decode cX12_keep 59 = .ok (.iastore, 1) := by decide +kernel
theorem dX12_keep_60 : decode cX12_keep 60 = .ok (.aload_n 0, 1) := by decide +kernel
theorem dX12_keep_61 : decode cX12_keep 61 = .ok (.getfield 89, 3) := by decide +kernel
theorem dX12_keep_64 : decode cX12_keep 64 = .ok (.iload_n 1, 1) := by decide +kernel
theorem dX12_keep_65 : decode cX12_keep 65 = .ok (.iconst 1, 1) := by decide +kernel
theorem dX12_keep_66 : decode cX12_keep 66 = .ok (.bastore, 1) := by decide +kernel
theorem dX12_keep_67 : decode cX12_keep 67 = .ok (.aload_n 0, 1) := by decide +kernel
theorem dX12_keep_68 : decode cX12_keep 68 = .ok (.iconst 0, 1) := by decide +kernel
theorem dX12_keep_69 : decode cX12_keep 69 = .ok (.putfield 175, 3) := by decide +kernel
theorem dX12_keep_72 : decode cX12_keep 72 = .ok (.iconst 1, 1) := by decide +kernel
theorem dX12_keep_73 : decode cX12_keep 73 = .ok (.ireturn, 1) := by decide +kernel
theorem dX12_goBack_0 : decode cX12_goBack 0 = .ok (.iload_n 1, 1) := by decide +kernel
theorem dX12_goBack_1 : decode cX12_goBack 1 = .ok (.i2l, 1) := by decide +kernel
theorem dX12_goBack_2 : decode cX12_goBack 2 = .ok (.lconst 0, 1) := by decide +kernel
theorem dX12_goBack_3 : decode cX12_goBack 3 = .ok (.lconst 1, 1) := by decide +kernel
theorem dX12_goBack_4 : decode cX12_goBack 4 = .ok (.invokestatic 96, 3) := by decide +kernel
theorem dX12_goBack_7 : decode cX12_goBack 7 = .ok (.ifCond .ne 6, 3) := by decide +kernel
theorem dX12_goBack_10 : decode cX12_goBack 10 = .ok (.ldc 200, 2) := by decide +kernel
theorem dX12_goBack_12 : decode cX12_goBack 12 = .ok (.ireturn, 1) := by decide +kernel
theorem dX12_goBack_13 : decode cX12_goBack 13 = .ok (.aload_n 0, 1) := by decide +kernel
theorem dX12_goBack_14 : decode cX12_goBack 14 = .ok (.getfield 89, 3) := by decide +kernel
theorem dX12_goBack_17 : decode cX12_goBack 17 = .ok (.iload_n 1, 1) := by decide +kernel
theorem dX12_goBack_18 : decode cX12_goBack 18 = .ok (.baload, 1) := by decide +kernel
theorem dX12_goBack_19 : decode cX12_goBack 19 = .ok (.ifCond .ne 6, 3) := by decide +kernel
theorem dX12_goBack_22 : decode cX12_goBack 22 = .ok (.ldc 209, 2) := by decide +kernel
theorem dX12_goBack_24 : decode cX12_goBack 24 = .ok (.ireturn, 1) := by decide +kernel
theorem dX12_goBack_25 : decode cX12_goBack 25 = .ok (.iconst 0, 1) := by decide +kernel
theorem dX12_goBack_26 : decode cX12_goBack 26 = .ok (.istore_n 2, 1) := by decide +kernel
theorem dX12_goBack_27 : decode cX12_goBack 27 = .ok (.iload_n 2, 1) := by decide +kernel
theorem dX12_goBack_28 : decode cX12_goBack 28 = .ok (.bipush 21, 2) := by decide +kernel
theorem dX12_goBack_30 : decode cX12_goBack 30 = .ok (.if_icmp .ge 26, 3) := by decide +kernel
theorem dX12_goBack_33 : decode cX12_goBack 33 = .ok (.aload_n 0, 1) := by decide +kernel
theorem dX12_goBack_34 : decode cX12_goBack 34 = .ok (.getfield 28, 3) := by decide +kernel
theorem dX12_goBack_37 : decode cX12_goBack 37 = .ok (.iload_n 2, 1) := by decide +kernel
theorem dX12_goBack_38 : decode cX12_goBack 38 = .ok (.aload_n 0, 1) := by decide +kernel
theorem dX12_goBack_39 : decode cX12_goBack 39 = .ok (.getfield 86, 3) := by decide +kernel
theorem dX12_goBack_42 : decode cX12_goBack 42 = .ok (.bipush 22, 2) := by decide +kernel
theorem dX12_goBack_44 : decode cX12_goBack 44 = .ok (.iload_n 1, 1) := by decide +kernel
theorem dX12_goBack_45 : decode cX12_goBack 45 = .ok (.imul, 1) := by decide +kernel
theorem dX12_goBack_46 : decode cX12_goBack 46 = .ok (.iload_n 2, 1) := by decide +kernel
theorem dX12_goBack_47 : decode cX12_goBack 47 = .ok (.iadd, 1) := by decide +kernel
theorem dX12_goBack_48 : decode cX12_goBack 48 = .ok (.iaload, 1) := by decide +kernel
theorem dX12_goBack_49 : decode cX12_goBack 49 = .ok (.iastore, 1) := by decide +kernel
theorem dX12_goBack_50 : decode cX12_goBack 50 = .ok (.iinc 2 1, 3) := by decide +kernel
theorem dX12_goBack_53 : decode cX12_goBack 53 = .ok (.goto (-26), 3) := by decide +kernel
theorem dX12_goBack_56 : decode cX12_goBack 56 = .ok (.aload_n 0, 1) := by decide +kernel
theorem dX12_goBack_57 : decode cX12_goBack 57 = .ok (.aload_n 0, 1) := by decide +kernel
theorem dX12_goBack_58 : decode cX12_goBack 58 = .ok (.getfield 86, 3) := by decide +kernel
theorem dX12_goBack_61 : decode cX12_goBack 61 = .ok (.bipush 22, 2) := by decide +kernel
theorem dX12_goBack_63 : decode cX12_goBack 63 = .ok (.iload_n 1, 1) := by decide +kernel
theorem dX12_goBack_64 : decode cX12_goBack 64 = .ok (.imul, 1) := by decide +kernel
theorem dX12_goBack_65 : decode cX12_goBack 65 = .ok (.bipush 21, 2) := by decide +kernel
theorem dX12_goBack_67 : decode cX12_goBack 67 = .ok (.iadd, 1) := by decide +kernel
theorem dX12_goBack_68 : decode cX12_goBack 68 = .ok (.iaload, 1) := by decide +kernel
theorem dX12_goBack_69 : decode cX12_goBack 69 = .ok (.putfield 228, 3) := by decide +kernel
theorem dX12_goBack_72 : decode cX12_goBack 72 = .ok (.aload_n 0, 1) := by decide +kernel
theorem dX12_goBack_73 : decode cX12_goBack 73 = .ok (.iconst 0, 1) := by decide +kernel
theorem dX12_goBack_74 : decode cX12_goBack 74 = .ok (.putfield 175, 3) := by decide +kernel
theorem dX12_goBack_77 : decode cX12_goBack 77 = .ok (.iconst 1, 1) := by decide +kernel
theorem dX12_goBack_78 : decode cX12_goBack 78 = .ok (.ireturn, 1) := by decide +kernel
theorem dJ9_max_7cf53_0 : decode cJ9_max_7cf53 0 = .ok (.iload_n 0, 1) := by decide +kernel
theorem dJ9_max_7cf53_1 : decode cJ9_max_7cf53 1 = .ok (.iload_n 1, 1) := by decide +kernel
theorem dJ9_max_7cf53_2 : decode cJ9_max_7cf53 2 = .ok (.if_icmp .lt 7, 3) := by decide +kernel
theorem dJ9_max_7cf53_5 : decode cJ9_max_7cf53 5 = .ok (.iload_n 0, 1) := by decide +kernel
theorem dJ9_max_7cf53_6 : decode cJ9_max_7cf53 6 = .ok (.goto 4, 3) := by decide +kernel
theorem dJ9_max_7cf53_9 : decode cJ9_max_7cf53 9 = .ok (.iload_n 1, 1) := by decide +kernel
theorem dJ9_max_7cf53_10 : decode cJ9_max_7cf53 10 = .ok (.ireturn, 1) := by decide +kernel
theorem dJ9_min_7cf53_0 : decode cJ9_min_7cf53 0 = .ok (.iload_n 0, 1) := by decide +kernel
theorem dJ9_min_7cf53_1 : decode cJ9_min_7cf53 1 = .ok (.iload_n 1, 1) := by decide +kernel
theorem dJ9_min_7cf53_2 : decode cJ9_min_7cf53 2 = .ok (.if_icmp .gt 7, 3) := by decide +kernel
theorem dJ9_min_7cf53_5 : decode cJ9_min_7cf53 5 = .ok (.iload_n 0, 1) := by decide +kernel
theorem dJ9_min_7cf53_6 : decode cJ9_min_7cf53 6 = .ok (.goto 4, 3) := by decide +kernel
theorem dJ9_min_7cf53_9 : decode cJ9_min_7cf53 9 = .ok (.iload_n 1, 1) := by decide +kernel
theorem dJ9_min_7cf53_10 : decode cJ9_min_7cf53 10 = .ok (.ireturn, 1) := by decide +kernel
theorem dL_law_0 : decode cL_law 0 = .ok (.new 7, 3) := by decide +kernel
theorem dL_law_3 : decode cL_law 3 = .ok (.dup, 1) := by decide +kernel
theorem dL_law_4 : decode cL_law 4 = .ok (.invokespecial 9, 3) := by decide +kernel
theorem dL_law_7 : decode cL_law 7 = .ok (.astore_n 1, 1) := by decide +kernel
theorem dL_law_8 : decode cL_law 8 = .ok (.new 10, 3) := by decide +kernel
theorem dL_law_11 : decode cL_law 11 = .ok (.dup, 1) := by decide +kernel
theorem dL_law_12 : decode cL_law 12 = .ok (.invokespecial 12, 3) := by decide +kernel
theorem dL_law_15 : decode cL_law 15 = .ok (.astore_n 2, 1) := by decide +kernel
theorem dL_law_16 : decode cL_law 16 = .ok (.iconst 0, 1) := by decide +kernel
theorem dL_law_17 : decode cL_law 17 = .ok (.istore_n 3, 1) := by decide +kernel
theorem dL_law_18 : decode cL_law 18 = .ok (.iload_n 3, 1) := by decide +kernel
theorem dL_law_19 : decode cL_law 19 = .ok (.aload_n 0, 1) := by decide +kernel
theorem dL_law_20 : decode cL_law 20 = .ok (.arraylength, 1) := by decide +kernel
theorem dL_law_21 : decode cL_law 21 = .ok (.iconst 4, 1) := by decide +kernel
theorem dL_law_22 : decode cL_law 22 = .ok (.isub, 1) := by decide +kernel
theorem dL_law_23 : decode cL_law 23 = .ok (.if_icmp .gt 978, 3) := by decide +kernel
theorem dL_law_26 : decode cL_law 26 = .ok (.aload_n 0, 1) := by decide +kernel
theorem dL_law_27 : decode cL_law 27 = .ok (.iload_n 3, 1) := by decide +kernel
theorem dL_law_28 : decode cL_law 28 = .ok (.iaload, 1) := by decide +kernel
theorem dL_law_29 : decode cL_law 29 = .ok (.bipush 31, 2) := by decide +kernel
theorem dL_law_31 : decode cL_law 31 = .ok (.iand, 1) := by decide +kernel
theorem dL_law_32 : decode cL_law 32 = .ok (.tableswitch 963 0 30 #[140, 163, 176, 189, 212, 245, 278, 301, 334, 367, 400, 423, 446, 459, 492, 535, 558, 581, 624, 657, 680, 703, 736, 779, 812, 835, 868, 881, 894, 917, 940], 140) := by decide +kernel
theorem dL_law_172 : decode cL_law 172 = .ok (.aload_n 1, 1) := by decide +kernel
theorem dL_law_173 : decode cL_law 173 = .ok (.aload_n 0, 1) := by decide +kernel
theorem dL_law_174 : decode cL_law 174 = .ok (.iload_n 3, 1) := by decide +kernel
theorem dL_law_175 : decode cL_law 175 = .ok (.iconst 1, 1) := by decide +kernel
theorem dL_law_176 : decode cL_law 176 = .ok (.iadd, 1) := by decide +kernel
theorem dL_law_177 : decode cL_law 177 = .ok (.iaload, 1) := by decide +kernel
theorem dL_law_178 : decode cL_law 178 = .ok (.invokevirtual 13, 3) := by decide +kernel
theorem dL_law_181 : decode cL_law 181 = .ok (.aload_n 2, 1) := by decide +kernel
theorem dL_law_182 : decode cL_law 182 = .ok (.aload_n 0, 1) := by decide +kernel
theorem dL_law_183 : decode cL_law 183 = .ok (.iload_n 3, 1) := by decide +kernel
theorem dL_law_184 : decode cL_law 184 = .ok (.iconst 1, 1) := by decide +kernel
theorem dL_law_185 : decode cL_law 185 = .ok (.iadd, 1) := by decide +kernel
theorem dL_law_186 : decode cL_law 186 = .ok (.iaload, 1) := by decide +kernel
theorem dL_law_187 : decode cL_law 187 = .ok (.invokevirtual 17, 3) := by decide +kernel
theorem dL_law_190 : decode cL_law 190 = .ok (.if_icmp .eq 805, 3) := by decide +kernel
theorem dL_law_193 : decode cL_law 193 = .ok (.iconst 0, 1) := by decide +kernel
theorem dL_law_194 : decode cL_law 194 = .ok (.ireturn, 1) := by decide +kernel
theorem dL_law_195 : decode cL_law 195 = .ok (.aload_n 1, 1) := by decide +kernel
theorem dL_law_196 : decode cL_law 196 = .ok (.invokevirtual 18, 3) := by decide +kernel
theorem dL_law_199 : decode cL_law 199 = .ok (.aload_n 2, 1) := by decide +kernel
theorem dL_law_200 : decode cL_law 200 = .ok (.invokevirtual 22, 3) := by decide +kernel
theorem dL_law_203 : decode cL_law 203 = .ok (.if_icmp .eq 792, 3) := by decide +kernel
theorem dL_law_206 : decode cL_law 206 = .ok (.iconst 0, 1) := by decide +kernel
theorem dL_law_207 : decode cL_law 207 = .ok (.ireturn, 1) := by decide +kernel
theorem dL_law_208 : decode cL_law 208 = .ok (.aload_n 1, 1) := by decide +kernel
theorem dL_law_209 : decode cL_law 209 = .ok (.invokevirtual 23, 3) := by decide +kernel
theorem dL_law_212 : decode cL_law 212 = .ok (.aload_n 2, 1) := by decide +kernel
theorem dL_law_213 : decode cL_law 213 = .ok (.invokevirtual 26, 3) := by decide +kernel
theorem dL_law_216 : decode cL_law 216 = .ok (.if_icmp .eq 779, 3) := by decide +kernel
theorem dL_law_219 : decode cL_law 219 = .ok (.iconst 0, 1) := by decide +kernel
theorem dL_law_220 : decode cL_law 220 = .ok (.ireturn, 1) := by decide +kernel
theorem dL_law_221 : decode cL_law 221 = .ok (.aload_n 1, 1) := by decide +kernel
theorem dL_law_222 : decode cL_law 222 = .ok (.aload_n 0, 1) := by decide +kernel
theorem dL_law_223 : decode cL_law 223 = .ok (.iload_n 3, 1) := by decide +kernel
theorem dL_law_224 : decode cL_law 224 = .ok (.iconst 1, 1) := by decide +kernel
theorem dL_law_225 : decode cL_law 225 = .ok (.iadd, 1) := by decide +kernel
theorem dL_law_226 : decode cL_law 226 = .ok (.iaload, 1) := by decide +kernel
theorem dL_law_227 : decode cL_law 227 = .ok (.invokevirtual 27, 3) := by decide +kernel
theorem dL_law_230 : decode cL_law 230 = .ok (.aload_n 2, 1) := by decide +kernel
theorem dL_law_231 : decode cL_law 231 = .ok (.aload_n 0, 1) := by decide +kernel
theorem dL_law_232 : decode cL_law 232 = .ok (.iload_n 3, 1) := by decide +kernel
theorem dL_law_233 : decode cL_law 233 = .ok (.iconst 1, 1) := by decide +kernel
theorem dL_law_234 : decode cL_law 234 = .ok (.iadd, 1) := by decide +kernel
theorem dL_law_235 : decode cL_law 235 = .ok (.iaload, 1) := by decide +kernel
theorem dL_law_236 : decode cL_law 236 = .ok (.invokevirtual 30, 3) := by decide +kernel
theorem dL_law_239 : decode cL_law 239 = .ok (.if_icmp .eq 756, 3) := by decide +kernel
theorem dL_law_242 : decode cL_law 242 = .ok (.iconst 0, 1) := by decide +kernel
theorem dL_law_243 : decode cL_law 243 = .ok (.ireturn, 1) := by decide +kernel
theorem dL_law_244 : decode cL_law 244 = .ok (.aload_n 1, 1) := by decide +kernel
theorem dL_law_245 : decode cL_law 245 = .ok (.aload_n 0, 1) := by decide +kernel
theorem dL_law_246 : decode cL_law 246 = .ok (.iload_n 3, 1) := by decide +kernel
theorem dL_law_247 : decode cL_law 247 = .ok (.iconst 1, 1) := by decide +kernel
theorem dL_law_248 : decode cL_law 248 = .ok (.iadd, 1) := by decide +kernel
theorem dL_law_249 : decode cL_law 249 = .ok (.iaload, 1) := by decide +kernel
theorem dL_law_250 : decode cL_law 250 = .ok (.aload_n 0, 1) := by decide +kernel
theorem dL_law_251 : decode cL_law 251 = .ok (.iload_n 3, 1) := by decide +kernel
theorem dL_law_252 : decode cL_law 252 = .ok (.iconst 2, 1) := by decide +kernel
theorem dL_law_253 : decode cL_law 253 = .ok (.iadd, 1) := by decide +kernel
theorem dL_law_254 : decode cL_law 254 = .ok (.iaload, 1) := by decide +kernel
theorem dL_law_255 : decode cL_law 255 = .ok (.invokevirtual 31, 3) := by decide +kernel
theorem dL_law_258 : decode cL_law 258 = .ok (.aload_n 2, 1) := by decide +kernel
theorem dL_law_259 : decode cL_law 259 = .ok (.aload_n 0, 1) := by decide +kernel
theorem dL_law_260 : decode cL_law 260 = .ok (.iload_n 3, 1) := by decide +kernel
theorem dL_law_261 : decode cL_law 261 = .ok (.iconst 1, 1) := by decide +kernel
theorem dL_law_262 : decode cL_law 262 = .ok (.iadd, 1) := by decide +kernel
theorem dL_law_263 : decode cL_law 263 = .ok (.iaload, 1) := by decide +kernel
theorem dL_law_264 : decode cL_law 264 = .ok (.aload_n 0, 1) := by decide +kernel
theorem dL_law_265 : decode cL_law 265 = .ok (.iload_n 3, 1) := by decide +kernel
theorem dL_law_266 : decode cL_law 266 = .ok (.iconst 2, 1) := by decide +kernel
theorem dL_law_267 : decode cL_law 267 = .ok (.iadd, 1) := by decide +kernel
theorem dL_law_268 : decode cL_law 268 = .ok (.iaload, 1) := by decide +kernel
theorem dL_law_269 : decode cL_law 269 = .ok (.invokevirtual 35, 3) := by decide +kernel
theorem dL_law_272 : decode cL_law 272 = .ok (.if_icmp .eq 723, 3) := by decide +kernel
theorem dL_law_275 : decode cL_law 275 = .ok (.iconst 0, 1) := by decide +kernel
theorem dL_law_276 : decode cL_law 276 = .ok (.ireturn, 1) := by decide +kernel
theorem dL_law_277 : decode cL_law 277 = .ok (.aload_n 1, 1) := by decide +kernel
theorem dL_law_278 : decode cL_law 278 = .ok (.aload_n 0, 1) := by decide +kernel
theorem dL_law_279 : decode cL_law 279 = .ok (.iload_n 3, 1) := by decide +kernel
theorem dL_law_280 : decode cL_law 280 = .ok (.iconst 1, 1) := by decide +kernel
theorem dL_law_281 : decode cL_law 281 = .ok (.iadd, 1) := by decide +kernel
theorem dL_law_282 : decode cL_law 282 = .ok (.iaload, 1) := by decide +kernel
theorem dL_law_283 : decode cL_law 283 = .ok (.aload_n 0, 1) := by decide +kernel
theorem dL_law_284 : decode cL_law 284 = .ok (.iload_n 3, 1) := by decide +kernel
theorem dL_law_285 : decode cL_law 285 = .ok (.iconst 2, 1) := by decide +kernel
theorem dL_law_286 : decode cL_law 286 = .ok (.iadd, 1) := by decide +kernel
theorem dL_law_287 : decode cL_law 287 = .ok (.iaload, 1) := by decide +kernel
theorem dL_law_288 : decode cL_law 288 = .ok (.invokevirtual 36, 3) := by decide +kernel
theorem dL_law_291 : decode cL_law 291 = .ok (.aload_n 2, 1) := by decide +kernel
theorem dL_law_292 : decode cL_law 292 = .ok (.aload_n 0, 1) := by decide +kernel
theorem dL_law_293 : decode cL_law 293 = .ok (.iload_n 3, 1) := by decide +kernel
theorem dL_law_294 : decode cL_law 294 = .ok (.iconst 1, 1) := by decide +kernel
theorem dL_law_295 : decode cL_law 295 = .ok (.iadd, 1) := by decide +kernel
theorem dL_law_296 : decode cL_law 296 = .ok (.iaload, 1) := by decide +kernel
theorem dL_law_297 : decode cL_law 297 = .ok (.aload_n 0, 1) := by decide +kernel
theorem dL_law_298 : decode cL_law 298 = .ok (.iload_n 3, 1) := by decide +kernel
theorem dL_law_299 : decode cL_law 299 = .ok (.iconst 2, 1) := by decide +kernel
theorem dL_law_300 : decode cL_law 300 = .ok (.iadd, 1) := by decide +kernel
theorem dL_law_301 : decode cL_law 301 = .ok (.iaload, 1) := by decide +kernel
theorem dL_law_302 : decode cL_law 302 = .ok (.invokevirtual 39, 3) := by decide +kernel
theorem dL_law_305 : decode cL_law 305 = .ok (.if_icmp .eq 690, 3) := by decide +kernel
theorem dL_law_308 : decode cL_law 308 = .ok (.iconst 0, 1) := by decide +kernel
theorem dL_law_309 : decode cL_law 309 = .ok (.ireturn, 1) := by decide +kernel
theorem dL_law_310 : decode cL_law 310 = .ok (.aload_n 1, 1) := by decide +kernel
theorem dL_law_311 : decode cL_law 311 = .ok (.aload_n 0, 1) := by decide +kernel
theorem dL_law_312 : decode cL_law 312 = .ok (.iload_n 3, 1) := by decide +kernel
theorem dL_law_313 : decode cL_law 313 = .ok (.iconst 1, 1) := by decide +kernel
theorem dL_law_314 : decode cL_law 314 = .ok (.iadd, 1) := by decide +kernel
theorem dL_law_315 : decode cL_law 315 = .ok (.iaload, 1) := by decide +kernel
theorem dL_law_316 : decode cL_law 316 = .ok (.invokevirtual 40, 3) := by decide +kernel
theorem dL_law_319 : decode cL_law 319 = .ok (.aload_n 2, 1) := by decide +kernel
theorem dL_law_320 : decode cL_law 320 = .ok (.aload_n 0, 1) := by decide +kernel
theorem dL_law_321 : decode cL_law 321 = .ok (.iload_n 3, 1) := by decide +kernel
theorem dL_law_322 : decode cL_law 322 = .ok (.iconst 1, 1) := by decide +kernel
theorem dL_law_323 : decode cL_law 323 = .ok (.iadd, 1) := by decide +kernel
theorem dL_law_324 : decode cL_law 324 = .ok (.iaload, 1) := by decide +kernel
theorem dL_law_325 : decode cL_law 325 = .ok (.invokevirtual 43, 3) := by decide +kernel
theorem dL_law_328 : decode cL_law 328 = .ok (.if_icmp .eq 667, 3) := by decide +kernel
theorem dL_law_331 : decode cL_law 331 = .ok (.iconst 0, 1) := by decide +kernel
theorem dL_law_332 : decode cL_law 332 = .ok (.ireturn, 1) := by decide +kernel
theorem dL_law_333 : decode cL_law 333 = .ok (.aload_n 1, 1) := by decide +kernel
theorem dL_law_334 : decode cL_law 334 = .ok (.aload_n 0, 1) := by decide +kernel
theorem dL_law_335 : decode cL_law 335 = .ok (.iload_n 3, 1) := by decide +kernel
theorem dL_law_336 : decode cL_law 336 = .ok (.iconst 1, 1) := by decide +kernel
theorem dL_law_337 : decode cL_law 337 = .ok (.iadd, 1) := by decide +kernel
theorem dL_law_338 : decode cL_law 338 = .ok (.iaload, 1) := by decide +kernel
theorem dL_law_339 : decode cL_law 339 = .ok (.aload_n 0, 1) := by decide +kernel
theorem dL_law_340 : decode cL_law 340 = .ok (.iload_n 3, 1) := by decide +kernel
theorem dL_law_341 : decode cL_law 341 = .ok (.iconst 2, 1) := by decide +kernel
theorem dL_law_342 : decode cL_law 342 = .ok (.iadd, 1) := by decide +kernel
theorem dL_law_343 : decode cL_law 343 = .ok (.iaload, 1) := by decide +kernel
theorem dL_law_344 : decode cL_law 344 = .ok (.invokevirtual 44, 3) := by decide +kernel
theorem dL_law_347 : decode cL_law 347 = .ok (.aload_n 2, 1) := by decide +kernel
theorem dL_law_348 : decode cL_law 348 = .ok (.aload_n 0, 1) := by decide +kernel
theorem dL_law_349 : decode cL_law 349 = .ok (.iload_n 3, 1) := by decide +kernel
theorem dL_law_350 : decode cL_law 350 = .ok (.iconst 1, 1) := by decide +kernel
theorem dL_law_351 : decode cL_law 351 = .ok (.iadd, 1) := by decide +kernel
theorem dL_law_352 : decode cL_law 352 = .ok (.iaload, 1) := by decide +kernel
theorem dL_law_353 : decode cL_law 353 = .ok (.aload_n 0, 1) := by decide +kernel
theorem dL_law_354 : decode cL_law 354 = .ok (.iload_n 3, 1) := by decide +kernel
theorem dL_law_355 : decode cL_law 355 = .ok (.iconst 2, 1) := by decide +kernel
theorem dL_law_356 : decode cL_law 356 = .ok (.iadd, 1) := by decide +kernel
theorem dL_law_357 : decode cL_law 357 = .ok (.iaload, 1) := by decide +kernel
theorem dL_law_358 : decode cL_law 358 = .ok (.invokevirtual 47, 3) := by decide +kernel
theorem dL_law_361 : decode cL_law 361 = .ok (.if_icmp .eq 634, 3) := by decide +kernel
theorem dL_law_364 : decode cL_law 364 = .ok (.iconst 0, 1) := by decide +kernel
theorem dL_law_365 : decode cL_law 365 = .ok (.ireturn, 1) := by decide +kernel
theorem dL_law_366 : decode cL_law 366 = .ok (.aload_n 1, 1) := by decide +kernel
theorem dL_law_367 : decode cL_law 367 = .ok (.aload_n 0, 1) := by decide +kernel
theorem dL_law_368 : decode cL_law 368 = .ok (.iload_n 3, 1) := by decide +kernel
theorem dL_law_369 : decode cL_law 369 = .ok (.iconst 1, 1) := by decide +kernel
theorem dL_law_370 : decode cL_law 370 = .ok (.iadd, 1) := by decide +kernel
theorem dL_law_371 : decode cL_law 371 = .ok (.iaload, 1) := by decide +kernel
theorem dL_law_372 : decode cL_law 372 = .ok (.aload_n 0, 1) := by decide +kernel
theorem dL_law_373 : decode cL_law 373 = .ok (.iload_n 3, 1) := by decide +kernel
theorem dL_law_374 : decode cL_law 374 = .ok (.iconst 2, 1) := by decide +kernel
theorem dL_law_375 : decode cL_law 375 = .ok (.iadd, 1) := by decide +kernel
theorem dL_law_376 : decode cL_law 376 = .ok (.iaload, 1) := by decide +kernel
theorem dL_law_377 : decode cL_law 377 = .ok (.invokevirtual 48, 3) := by decide +kernel
theorem dL_law_380 : decode cL_law 380 = .ok (.aload_n 2, 1) := by decide +kernel
theorem dL_law_381 : decode cL_law 381 = .ok (.aload_n 0, 1) := by decide +kernel
theorem dL_law_382 : decode cL_law 382 = .ok (.iload_n 3, 1) := by decide +kernel
theorem dL_law_383 : decode cL_law 383 = .ok (.iconst 1, 1) := by decide +kernel
theorem dL_law_384 : decode cL_law 384 = .ok (.iadd, 1) := by decide +kernel
theorem dL_law_385 : decode cL_law 385 = .ok (.iaload, 1) := by decide +kernel
theorem dL_law_386 : decode cL_law 386 = .ok (.aload_n 0, 1) := by decide +kernel
theorem dL_law_387 : decode cL_law 387 = .ok (.iload_n 3, 1) := by decide +kernel
theorem dL_law_388 : decode cL_law 388 = .ok (.iconst 2, 1) := by decide +kernel
theorem dL_law_389 : decode cL_law 389 = .ok (.iadd, 1) := by decide +kernel
theorem dL_law_390 : decode cL_law 390 = .ok (.iaload, 1) := by decide +kernel
theorem dL_law_391 : decode cL_law 391 = .ok (.invokevirtual 51, 3) := by decide +kernel
theorem dL_law_394 : decode cL_law 394 = .ok (.if_icmp .eq 601, 3) := by decide +kernel
theorem dL_law_397 : decode cL_law 397 = .ok (.iconst 0, 1) := by decide +kernel
theorem dL_law_398 : decode cL_law 398 = .ok (.ireturn, 1) := by decide +kernel
theorem dL_law_399 : decode cL_law 399 = .ok (.aload_n 1, 1) := by decide +kernel
theorem dL_law_400 : decode cL_law 400 = .ok (.aload_n 0, 1) := by decide +kernel
theorem dL_law_401 : decode cL_law 401 = .ok (.iload_n 3, 1) := by decide +kernel
theorem dL_law_402 : decode cL_law 402 = .ok (.iconst 1, 1) := by decide +kernel
theorem dL_law_403 : decode cL_law 403 = .ok (.iadd, 1) := by decide +kernel
theorem dL_law_404 : decode cL_law 404 = .ok (.iaload, 1) := by decide +kernel
theorem dL_law_405 : decode cL_law 405 = .ok (.aload_n 0, 1) := by decide +kernel
theorem dL_law_406 : decode cL_law 406 = .ok (.iload_n 3, 1) := by decide +kernel
theorem dL_law_407 : decode cL_law 407 = .ok (.iconst 2, 1) := by decide +kernel
theorem dL_law_408 : decode cL_law 408 = .ok (.iadd, 1) := by decide +kernel
theorem dL_law_409 : decode cL_law 409 = .ok (.iaload, 1) := by decide +kernel
theorem dL_law_410 : decode cL_law 410 = .ok (.invokevirtual 52, 3) := by decide +kernel
theorem dL_law_413 : decode cL_law 413 = .ok (.aload_n 2, 1) := by decide +kernel
theorem dL_law_414 : decode cL_law 414 = .ok (.aload_n 0, 1) := by decide +kernel
theorem dL_law_415 : decode cL_law 415 = .ok (.iload_n 3, 1) := by decide +kernel
theorem dL_law_416 : decode cL_law 416 = .ok (.iconst 1, 1) := by decide +kernel
theorem dL_law_417 : decode cL_law 417 = .ok (.iadd, 1) := by decide +kernel
theorem dL_law_418 : decode cL_law 418 = .ok (.iaload, 1) := by decide +kernel
theorem dL_law_419 : decode cL_law 419 = .ok (.aload_n 0, 1) := by decide +kernel
theorem dL_law_420 : decode cL_law 420 = .ok (.iload_n 3, 1) := by decide +kernel
theorem dL_law_421 : decode cL_law 421 = .ok (.iconst 2, 1) := by decide +kernel
theorem dL_law_422 : decode cL_law 422 = .ok (.iadd, 1) := by decide +kernel
theorem dL_law_423 : decode cL_law 423 = .ok (.iaload, 1) := by decide +kernel
theorem dL_law_424 : decode cL_law 424 = .ok (.invokevirtual 55, 3) := by decide +kernel
theorem dL_law_427 : decode cL_law 427 = .ok (.if_icmp .eq 568, 3) := by decide +kernel
theorem dL_law_430 : decode cL_law 430 = .ok (.iconst 0, 1) := by decide +kernel
theorem dL_law_431 : decode cL_law 431 = .ok (.ireturn, 1) := by decide +kernel
theorem dL_law_432 : decode cL_law 432 = .ok (.aload_n 1, 1) := by decide +kernel
theorem dL_law_433 : decode cL_law 433 = .ok (.aload_n 0, 1) := by decide +kernel
theorem dL_law_434 : decode cL_law 434 = .ok (.iload_n 3, 1) := by decide +kernel
theorem dL_law_435 : decode cL_law 435 = .ok (.iconst 1, 1) := by decide +kernel
theorem dL_law_436 : decode cL_law 436 = .ok (.iadd, 1) := by decide +kernel
theorem dL_law_437 : decode cL_law 437 = .ok (.iaload, 1) := by decide +kernel
theorem dL_law_438 : decode cL_law 438 = .ok (.invokevirtual 56, 3) := by decide +kernel
theorem dL_law_441 : decode cL_law 441 = .ok (.aload_n 2, 1) := by decide +kernel
theorem dL_law_442 : decode cL_law 442 = .ok (.aload_n 0, 1) := by decide +kernel
theorem dL_law_443 : decode cL_law 443 = .ok (.iload_n 3, 1) := by decide +kernel
theorem dL_law_444 : decode cL_law 444 = .ok (.iconst 1, 1) := by decide +kernel
theorem dL_law_445 : decode cL_law 445 = .ok (.iadd, 1) := by decide +kernel
theorem dL_law_446 : decode cL_law 446 = .ok (.iaload, 1) := by decide +kernel
theorem dL_law_447 : decode cL_law 447 = .ok (.invokevirtual 59, 3) := by decide +kernel
theorem dL_law_450 : decode cL_law 450 = .ok (.if_icmp .eq 545, 3) := by decide +kernel
theorem dL_law_453 : decode cL_law 453 = .ok (.iconst 0, 1) := by decide +kernel
theorem dL_law_454 : decode cL_law 454 = .ok (.ireturn, 1) := by decide +kernel
theorem dL_law_455 : decode cL_law 455 = .ok (.aload_n 1, 1) := by decide +kernel
theorem dL_law_456 : decode cL_law 456 = .ok (.aload_n 0, 1) := by decide +kernel
theorem dL_law_457 : decode cL_law 457 = .ok (.iload_n 3, 1) := by decide +kernel
theorem dL_law_458 : decode cL_law 458 = .ok (.iconst 1, 1) := by decide +kernel
theorem dL_law_459 : decode cL_law 459 = .ok (.iadd, 1) := by decide +kernel
theorem dL_law_460 : decode cL_law 460 = .ok (.iaload, 1) := by decide +kernel
theorem dL_law_461 : decode cL_law 461 = .ok (.invokevirtual 60, 3) := by decide +kernel
theorem dL_law_464 : decode cL_law 464 = .ok (.aload_n 2, 1) := by decide +kernel
theorem dL_law_465 : decode cL_law 465 = .ok (.aload_n 0, 1) := by decide +kernel
theorem dL_law_466 : decode cL_law 466 = .ok (.iload_n 3, 1) := by decide +kernel
theorem dL_law_467 : decode cL_law 467 = .ok (.iconst 1, 1) := by decide +kernel
theorem dL_law_468 : decode cL_law 468 = .ok (.iadd, 1) := by decide +kernel
theorem dL_law_469 : decode cL_law 469 = .ok (.iaload, 1) := by decide +kernel
theorem dL_law_470 : decode cL_law 470 = .ok (.invokevirtual 63, 3) := by decide +kernel
theorem dL_law_473 : decode cL_law 473 = .ok (.if_icmp .eq 522, 3) := by decide +kernel
theorem dL_law_476 : decode cL_law 476 = .ok (.iconst 0, 1) := by decide +kernel
theorem dL_law_477 : decode cL_law 477 = .ok (.ireturn, 1) := by decide +kernel
theorem dL_law_478 : decode cL_law 478 = .ok (.aload_n 1, 1) := by decide +kernel
theorem dL_law_479 : decode cL_law 479 = .ok (.invokevirtual 64, 3) := by decide +kernel
theorem dL_law_482 : decode cL_law 482 = .ok (.aload_n 2, 1) := by decide +kernel
theorem dL_law_483 : decode cL_law 483 = .ok (.invokevirtual 67, 3) := by decide +kernel
theorem dL_law_486 : decode cL_law 486 = .ok (.if_icmp .eq 509, 3) := by decide +kernel
theorem dL_law_489 : decode cL_law 489 = .ok (.iconst 0, 1) := by decide +kernel
theorem dL_law_490 : decode cL_law 490 = .ok (.ireturn, 1) := by decide +kernel
theorem dL_law_491 : decode cL_law 491 = .ok (.aload_n 1, 1) := by decide +kernel
theorem dL_law_492 : decode cL_law 492 = .ok (.aload_n 0, 1) := by decide +kernel
theorem dL_law_493 : decode cL_law 493 = .ok (.iload_n 3, 1) := by decide +kernel
theorem dL_law_494 : decode cL_law 494 = .ok (.iconst 1, 1) := by decide +kernel
theorem dL_law_495 : decode cL_law 495 = .ok (.iadd, 1) := by decide +kernel
theorem dL_law_496 : decode cL_law 496 = .ok (.iaload, 1) := by decide +kernel
theorem dL_law_497 : decode cL_law 497 = .ok (.aload_n 0, 1) := by decide +kernel
theorem dL_law_498 : decode cL_law 498 = .ok (.iload_n 3, 1) := by decide +kernel
theorem dL_law_499 : decode cL_law 499 = .ok (.iconst 2, 1) := by decide +kernel
theorem dL_law_500 : decode cL_law 500 = .ok (.iadd, 1) := by decide +kernel
theorem dL_law_501 : decode cL_law 501 = .ok (.iaload, 1) := by decide +kernel
theorem dL_law_502 : decode cL_law 502 = .ok (.invokevirtual 68, 3) := by decide +kernel
theorem dL_law_505 : decode cL_law 505 = .ok (.aload_n 2, 1) := by decide +kernel
theorem dL_law_506 : decode cL_law 506 = .ok (.aload_n 0, 1) := by decide +kernel
theorem dL_law_507 : decode cL_law 507 = .ok (.iload_n 3, 1) := by decide +kernel
theorem dL_law_508 : decode cL_law 508 = .ok (.iconst 1, 1) := by decide +kernel
theorem dL_law_509 : decode cL_law 509 = .ok (.iadd, 1) := by decide +kernel
theorem dL_law_510 : decode cL_law 510 = .ok (.iaload, 1) := by decide +kernel
theorem dL_law_511 : decode cL_law 511 = .ok (.aload_n 0, 1) := by decide +kernel
theorem dL_law_512 : decode cL_law 512 = .ok (.iload_n 3, 1) := by decide +kernel
theorem dL_law_513 : decode cL_law 513 = .ok (.iconst 2, 1) := by decide +kernel
theorem dL_law_514 : decode cL_law 514 = .ok (.iadd, 1) := by decide +kernel
theorem dL_law_515 : decode cL_law 515 = .ok (.iaload, 1) := by decide +kernel
theorem dL_law_516 : decode cL_law 516 = .ok (.invokevirtual 71, 3) := by decide +kernel
theorem dL_law_519 : decode cL_law 519 = .ok (.if_icmp .eq 476, 3) := by decide +kernel
theorem dL_law_522 : decode cL_law 522 = .ok (.iconst 0, 1) := by decide +kernel
theorem dL_law_523 : decode cL_law 523 = .ok (.ireturn, 1) := by decide +kernel
theorem dL_law_524 : decode cL_law 524 = .ok (.aload_n 1, 1) := by decide +kernel
theorem dL_law_525 : decode cL_law 525 = .ok (.aload_n 0, 1) := by decide +kernel
theorem dL_law_526 : decode cL_law 526 = .ok (.iload_n 3, 1) := by decide +kernel
theorem dL_law_527 : decode cL_law 527 = .ok (.iconst 1, 1) := by decide +kernel
theorem dL_law_528 : decode cL_law 528 = .ok (.iadd, 1) := by decide +kernel
theorem dL_law_529 : decode cL_law 529 = .ok (.iaload, 1) := by decide +kernel
theorem dL_law_530 : decode cL_law 530 = .ok (.aload_n 0, 1) := by decide +kernel
theorem dL_law_531 : decode cL_law 531 = .ok (.iload_n 3, 1) := by decide +kernel
theorem dL_law_532 : decode cL_law 532 = .ok (.iconst 2, 1) := by decide +kernel
theorem dL_law_533 : decode cL_law 533 = .ok (.iadd, 1) := by decide +kernel
theorem dL_law_534 : decode cL_law 534 = .ok (.iaload, 1) := by decide +kernel
theorem dL_law_535 : decode cL_law 535 = .ok (.aload_n 0, 1) := by decide +kernel
theorem dL_law_536 : decode cL_law 536 = .ok (.iload_n 3, 1) := by decide +kernel
theorem dL_law_537 : decode cL_law 537 = .ok (.iconst 3, 1) := by decide +kernel
theorem dL_law_538 : decode cL_law 538 = .ok (.iadd, 1) := by decide +kernel
theorem dL_law_539 : decode cL_law 539 = .ok (.iaload, 1) := by decide +kernel
theorem dL_law_540 : decode cL_law 540 = .ok (.invokevirtual 72, 3) := by decide +kernel
theorem dL_law_543 : decode cL_law 543 = .ok (.aload_n 2, 1) := by decide +kernel
theorem dL_law_544 : decode cL_law 544 = .ok (.aload_n 0, 1) := by decide +kernel
theorem dL_law_545 : decode cL_law 545 = .ok (.iload_n 3, 1) := by decide +kernel
theorem dL_law_546 : decode cL_law 546 = .ok (.iconst 1, 1) := by decide +kernel
theorem dL_law_547 : decode cL_law 547 = .ok (.iadd, 1) := by decide +kernel
theorem dL_law_548 : decode cL_law 548 = .ok (.iaload, 1) := by decide +kernel
theorem dL_law_549 : decode cL_law 549 = .ok (.aload_n 0, 1) := by decide +kernel
theorem dL_law_550 : decode cL_law 550 = .ok (.iload_n 3, 1) := by decide +kernel
theorem dL_law_551 : decode cL_law 551 = .ok (.iconst 2, 1) := by decide +kernel
theorem dL_law_552 : decode cL_law 552 = .ok (.iadd, 1) := by decide +kernel
theorem dL_law_553 : decode cL_law 553 = .ok (.iaload, 1) := by decide +kernel
theorem dL_law_554 : decode cL_law 554 = .ok (.aload_n 0, 1) := by decide +kernel
theorem dL_law_555 : decode cL_law 555 = .ok (.iload_n 3, 1) := by decide +kernel
theorem dL_law_556 : decode cL_law 556 = .ok (.iconst 3, 1) := by decide +kernel
theorem dL_law_557 : decode cL_law 557 = .ok (.iadd, 1) := by decide +kernel
theorem dL_law_558 : decode cL_law 558 = .ok (.iaload, 1) := by decide +kernel
theorem dL_law_559 : decode cL_law 559 = .ok (.invokevirtual 76, 3) := by decide +kernel
theorem dL_law_562 : decode cL_law 562 = .ok (.if_icmp .eq 433, 3) := by decide +kernel
theorem dL_law_565 : decode cL_law 565 = .ok (.iconst 0, 1) := by decide +kernel
theorem dL_law_566 : decode cL_law 566 = .ok (.ireturn, 1) := by decide +kernel
theorem dL_law_567 : decode cL_law 567 = .ok (.aload_n 1, 1) := by decide +kernel
theorem dL_law_568 : decode cL_law 568 = .ok (.aload_n 0, 1) := by decide +kernel
theorem dL_law_569 : decode cL_law 569 = .ok (.iload_n 3, 1) := by decide +kernel
theorem dL_law_570 : decode cL_law 570 = .ok (.iconst 1, 1) := by decide +kernel
theorem dL_law_571 : decode cL_law 571 = .ok (.iadd, 1) := by decide +kernel
theorem dL_law_572 : decode cL_law 572 = .ok (.iaload, 1) := by decide +kernel
theorem dL_law_573 : decode cL_law 573 = .ok (.invokevirtual 77, 3) := by decide +kernel
theorem dL_law_576 : decode cL_law 576 = .ok (.aload_n 2, 1) := by decide +kernel
theorem dL_law_577 : decode cL_law 577 = .ok (.aload_n 0, 1) := by decide +kernel
theorem dL_law_578 : decode cL_law 578 = .ok (.iload_n 3, 1) := by decide +kernel
theorem dL_law_579 : decode cL_law 579 = .ok (.iconst 1, 1) := by decide +kernel
theorem dL_law_580 : decode cL_law 580 = .ok (.iadd, 1) := by decide +kernel
theorem dL_law_581 : decode cL_law 581 = .ok (.iaload, 1) := by decide +kernel
theorem dL_law_582 : decode cL_law 582 = .ok (.invokevirtual 80, 3) := by decide +kernel
theorem dL_law_585 : decode cL_law 585 = .ok (.if_icmp .eq 410, 3) := by decide +kernel
theorem dL_law_588 : decode cL_law 588 = .ok (.iconst 0, 1) := by decide +kernel
theorem dL_law_589 : decode cL_law 589 = .ok (.ireturn, 1) := by decide +kernel
theorem dL_law_590 : decode cL_law 590 = .ok (.aload_n 1, 1) := by decide +kernel
theorem dL_law_591 : decode cL_law 591 = .ok (.aload_n 0, 1) := by decide +kernel
theorem dL_law_592 : decode cL_law 592 = .ok (.iload_n 3, 1) := by decide +kernel
theorem dL_law_593 : decode cL_law 593 = .ok (.iconst 1, 1) := by decide +kernel
theorem dL_law_594 : decode cL_law 594 = .ok (.iadd, 1) := by decide +kernel
theorem dL_law_595 : decode cL_law 595 = .ok (.iaload, 1) := by decide +kernel
theorem dL_law_596 : decode cL_law 596 = .ok (.invokevirtual 81, 3) := by decide +kernel
theorem dL_law_599 : decode cL_law 599 = .ok (.aload_n 2, 1) := by decide +kernel
theorem dL_law_600 : decode cL_law 600 = .ok (.aload_n 0, 1) := by decide +kernel
theorem dL_law_601 : decode cL_law 601 = .ok (.iload_n 3, 1) := by decide +kernel
theorem dL_law_602 : decode cL_law 602 = .ok (.iconst 1, 1) := by decide +kernel
theorem dL_law_603 : decode cL_law 603 = .ok (.iadd, 1) := by decide +kernel
theorem dL_law_604 : decode cL_law 604 = .ok (.iaload, 1) := by decide +kernel
theorem dL_law_605 : decode cL_law 605 = .ok (.invokevirtual 84, 3) := by decide +kernel
theorem dL_law_608 : decode cL_law 608 = .ok (.if_icmp .eq 387, 3) := by decide +kernel
theorem dL_law_611 : decode cL_law 611 = .ok (.iconst 0, 1) := by decide +kernel
theorem dL_law_612 : decode cL_law 612 = .ok (.ireturn, 1) := by decide +kernel
theorem dL_law_613 : decode cL_law 613 = .ok (.aload_n 1, 1) := by decide +kernel
theorem dL_law_614 : decode cL_law 614 = .ok (.aload_n 0, 1) := by decide +kernel
theorem dL_law_615 : decode cL_law 615 = .ok (.iload_n 3, 1) := by decide +kernel
theorem dL_law_616 : decode cL_law 616 = .ok (.iconst 1, 1) := by decide +kernel
theorem dL_law_617 : decode cL_law 617 = .ok (.iadd, 1) := by decide +kernel
theorem dL_law_618 : decode cL_law 618 = .ok (.iaload, 1) := by decide +kernel
theorem dL_law_619 : decode cL_law 619 = .ok (.aload_n 0, 1) := by decide +kernel
theorem dL_law_620 : decode cL_law 620 = .ok (.iload_n 3, 1) := by decide +kernel
theorem dL_law_621 : decode cL_law 621 = .ok (.iconst 2, 1) := by decide +kernel
theorem dL_law_622 : decode cL_law 622 = .ok (.iadd, 1) := by decide +kernel
theorem dL_law_623 : decode cL_law 623 = .ok (.iaload, 1) := by decide +kernel
theorem dL_law_624 : decode cL_law 624 = .ok (.aload_n 0, 1) := by decide +kernel
theorem dL_law_625 : decode cL_law 625 = .ok (.iload_n 3, 1) := by decide +kernel
theorem dL_law_626 : decode cL_law 626 = .ok (.iconst 3, 1) := by decide +kernel
theorem dL_law_627 : decode cL_law 627 = .ok (.iadd, 1) := by decide +kernel
theorem dL_law_628 : decode cL_law 628 = .ok (.iaload, 1) := by decide +kernel
theorem dL_law_629 : decode cL_law 629 = .ok (.invokevirtual 85, 3) := by decide +kernel
theorem dL_law_632 : decode cL_law 632 = .ok (.aload_n 2, 1) := by decide +kernel
theorem dL_law_633 : decode cL_law 633 = .ok (.aload_n 0, 1) := by decide +kernel
theorem dL_law_634 : decode cL_law 634 = .ok (.iload_n 3, 1) := by decide +kernel
theorem dL_law_635 : decode cL_law 635 = .ok (.iconst 1, 1) := by decide +kernel
theorem dL_law_636 : decode cL_law 636 = .ok (.iadd, 1) := by decide +kernel
theorem dL_law_637 : decode cL_law 637 = .ok (.iaload, 1) := by decide +kernel
theorem dL_law_638 : decode cL_law 638 = .ok (.aload_n 0, 1) := by decide +kernel
theorem dL_law_639 : decode cL_law 639 = .ok (.iload_n 3, 1) := by decide +kernel
theorem dL_law_640 : decode cL_law 640 = .ok (.iconst 2, 1) := by decide +kernel
theorem dL_law_641 : decode cL_law 641 = .ok (.iadd, 1) := by decide +kernel
theorem dL_law_642 : decode cL_law 642 = .ok (.iaload, 1) := by decide +kernel
theorem dL_law_643 : decode cL_law 643 = .ok (.aload_n 0, 1) := by decide +kernel
theorem dL_law_644 : decode cL_law 644 = .ok (.iload_n 3, 1) := by decide +kernel
theorem dL_law_645 : decode cL_law 645 = .ok (.iconst 3, 1) := by decide +kernel
theorem dL_law_646 : decode cL_law 646 = .ok (.iadd, 1) := by decide +kernel
theorem dL_law_647 : decode cL_law 647 = .ok (.iaload, 1) := by decide +kernel
theorem dL_law_648 : decode cL_law 648 = .ok (.invokevirtual 88, 3) := by decide +kernel
theorem dL_law_651 : decode cL_law 651 = .ok (.if_icmp .eq 344, 3) := by decide +kernel
theorem dL_law_654 : decode cL_law 654 = .ok (.iconst 0, 1) := by decide +kernel
theorem dL_law_655 : decode cL_law 655 = .ok (.ireturn, 1) := by decide +kernel
theorem dL_law_656 : decode cL_law 656 = .ok (.aload_n 1, 1) := by decide +kernel
theorem dL_law_657 : decode cL_law 657 = .ok (.aload_n 0, 1) := by decide +kernel
theorem dL_law_658 : decode cL_law 658 = .ok (.iload_n 3, 1) := by decide +kernel
theorem dL_law_659 : decode cL_law 659 = .ok (.iconst 1, 1) := by decide +kernel
theorem dL_law_660 : decode cL_law 660 = .ok (.iadd, 1) := by decide +kernel
theorem dL_law_661 : decode cL_law 661 = .ok (.iaload, 1) := by decide +kernel
theorem dL_law_662 : decode cL_law 662 = .ok (.aload_n 0, 1) := by decide +kernel
theorem dL_law_663 : decode cL_law 663 = .ok (.iload_n 3, 1) := by decide +kernel
theorem dL_law_664 : decode cL_law 664 = .ok (.iconst 2, 1) := by decide +kernel
theorem dL_law_665 : decode cL_law 665 = .ok (.iadd, 1) := by decide +kernel
theorem dL_law_666 : decode cL_law 666 = .ok (.iaload, 1) := by decide +kernel
theorem dL_law_667 : decode cL_law 667 = .ok (.invokevirtual 89, 3) := by decide +kernel
theorem dL_law_670 : decode cL_law 670 = .ok (.aload_n 2, 1) := by decide +kernel
theorem dL_law_671 : decode cL_law 671 = .ok (.aload_n 0, 1) := by decide +kernel
theorem dL_law_672 : decode cL_law 672 = .ok (.iload_n 3, 1) := by decide +kernel
theorem dL_law_673 : decode cL_law 673 = .ok (.iconst 1, 1) := by decide +kernel
theorem dL_law_674 : decode cL_law 674 = .ok (.iadd, 1) := by decide +kernel
theorem dL_law_675 : decode cL_law 675 = .ok (.iaload, 1) := by decide +kernel
theorem dL_law_676 : decode cL_law 676 = .ok (.aload_n 0, 1) := by decide +kernel
theorem dL_law_677 : decode cL_law 677 = .ok (.iload_n 3, 1) := by decide +kernel
theorem dL_law_678 : decode cL_law 678 = .ok (.iconst 2, 1) := by decide +kernel
theorem dL_law_679 : decode cL_law 679 = .ok (.iadd, 1) := by decide +kernel
theorem dL_law_680 : decode cL_law 680 = .ok (.iaload, 1) := by decide +kernel
theorem dL_law_681 : decode cL_law 681 = .ok (.invokevirtual 92, 3) := by decide +kernel
theorem dL_law_684 : decode cL_law 684 = .ok (.if_icmp .eq 311, 3) := by decide +kernel
theorem dL_law_687 : decode cL_law 687 = .ok (.iconst 0, 1) := by decide +kernel
theorem dL_law_688 : decode cL_law 688 = .ok (.ireturn, 1) := by decide +kernel
theorem dL_law_689 : decode cL_law 689 = .ok (.aload_n 1, 1) := by decide +kernel
theorem dL_law_690 : decode cL_law 690 = .ok (.aload_n 0, 1) := by decide +kernel
theorem dL_law_691 : decode cL_law 691 = .ok (.iload_n 3, 1) := by decide +kernel
theorem dL_law_692 : decode cL_law 692 = .ok (.iconst 1, 1) := by decide +kernel
theorem dL_law_693 : decode cL_law 693 = .ok (.iadd, 1) := by decide +kernel
theorem dL_law_694 : decode cL_law 694 = .ok (.iaload, 1) := by decide +kernel
theorem dL_law_695 : decode cL_law 695 = .ok (.invokevirtual 93, 3) := by decide +kernel
theorem dL_law_698 : decode cL_law 698 = .ok (.aload_n 2, 1) := by decide +kernel
theorem dL_law_699 : decode cL_law 699 = .ok (.aload_n 0, 1) := by decide +kernel
theorem dL_law_700 : decode cL_law 700 = .ok (.iload_n 3, 1) := by decide +kernel
theorem dL_law_701 : decode cL_law 701 = .ok (.iconst 1, 1) := by decide +kernel
theorem dL_law_702 : decode cL_law 702 = .ok (.iadd, 1) := by decide +kernel
theorem dL_law_703 : decode cL_law 703 = .ok (.iaload, 1) := by decide +kernel
theorem dL_law_704 : decode cL_law 704 = .ok (.invokevirtual 96, 3) := by decide +kernel
theorem dL_law_707 : decode cL_law 707 = .ok (.if_icmp .eq 288, 3) := by decide +kernel
theorem dL_law_710 : decode cL_law 710 = .ok (.iconst 0, 1) := by decide +kernel
theorem dL_law_711 : decode cL_law 711 = .ok (.ireturn, 1) := by decide +kernel
theorem dL_law_712 : decode cL_law 712 = .ok (.aload_n 1, 1) := by decide +kernel
theorem dL_law_713 : decode cL_law 713 = .ok (.aload_n 0, 1) := by decide +kernel
theorem dL_law_714 : decode cL_law 714 = .ok (.iload_n 3, 1) := by decide +kernel
theorem dL_law_715 : decode cL_law 715 = .ok (.iconst 1, 1) := by decide +kernel
theorem dL_law_716 : decode cL_law 716 = .ok (.iadd, 1) := by decide +kernel
theorem dL_law_717 : decode cL_law 717 = .ok (.iaload, 1) := by decide +kernel
theorem dL_law_718 : decode cL_law 718 = .ok (.invokevirtual 97, 3) := by decide +kernel
theorem dL_law_721 : decode cL_law 721 = .ok (.aload_n 2, 1) := by decide +kernel
theorem dL_law_722 : decode cL_law 722 = .ok (.aload_n 0, 1) := by decide +kernel
theorem dL_law_723 : decode cL_law 723 = .ok (.iload_n 3, 1) := by decide +kernel
theorem dL_law_724 : decode cL_law 724 = .ok (.iconst 1, 1) := by decide +kernel
theorem dL_law_725 : decode cL_law 725 = .ok (.iadd, 1) := by decide +kernel
theorem dL_law_726 : decode cL_law 726 = .ok (.iaload, 1) := by decide +kernel
theorem dL_law_727 : decode cL_law 727 = .ok (.invokevirtual 100, 3) := by decide +kernel
theorem dL_law_730 : decode cL_law 730 = .ok (.if_icmp .eq 265, 3) := by decide +kernel
theorem dL_law_733 : decode cL_law 733 = .ok (.iconst 0, 1) := by decide +kernel
theorem dL_law_734 : decode cL_law 734 = .ok (.ireturn, 1) := by decide +kernel
theorem dL_law_735 : decode cL_law 735 = .ok (.aload_n 1, 1) := by decide +kernel
theorem dL_law_736 : decode cL_law 736 = .ok (.aload_n 0, 1) := by decide +kernel
theorem dL_law_737 : decode cL_law 737 = .ok (.iload_n 3, 1) := by decide +kernel
theorem dL_law_738 : decode cL_law 738 = .ok (.iconst 1, 1) := by decide +kernel
theorem dL_law_739 : decode cL_law 739 = .ok (.iadd, 1) := by decide +kernel
theorem dL_law_740 : decode cL_law 740 = .ok (.iaload, 1) := by decide +kernel
theorem dL_law_741 : decode cL_law 741 = .ok (.aload_n 0, 1) := by decide +kernel
theorem dL_law_742 : decode cL_law 742 = .ok (.iload_n 3, 1) := by decide +kernel
theorem dL_law_743 : decode cL_law 743 = .ok (.iconst 2, 1) := by decide +kernel
theorem dL_law_744 : decode cL_law 744 = .ok (.iadd, 1) := by decide +kernel
theorem dL_law_745 : decode cL_law 745 = .ok (.iaload, 1) := by decide +kernel
theorem dL_law_746 : decode cL_law 746 = .ok (.invokevirtual 101, 3) := by decide +kernel
theorem dL_law_749 : decode cL_law 749 = .ok (.aload_n 2, 1) := by decide +kernel
theorem dL_law_750 : decode cL_law 750 = .ok (.aload_n 0, 1) := by decide +kernel
theorem dL_law_751 : decode cL_law 751 = .ok (.iload_n 3, 1) := by decide +kernel
theorem dL_law_752 : decode cL_law 752 = .ok (.iconst 1, 1) := by decide +kernel
theorem dL_law_753 : decode cL_law 753 = .ok (.iadd, 1) := by decide +kernel
theorem dL_law_754 : decode cL_law 754 = .ok (.iaload, 1) := by decide +kernel
theorem dL_law_755 : decode cL_law 755 = .ok (.aload_n 0, 1) := by decide +kernel
theorem dL_law_756 : decode cL_law 756 = .ok (.iload_n 3, 1) := by decide +kernel
theorem dL_law_757 : decode cL_law 757 = .ok (.iconst 2, 1) := by decide +kernel
theorem dL_law_758 : decode cL_law 758 = .ok (.iadd, 1) := by decide +kernel
theorem dL_law_759 : decode cL_law 759 = .ok (.iaload, 1) := by decide +kernel
theorem dL_law_760 : decode cL_law 760 = .ok (.invokevirtual 104, 3) := by decide +kernel
theorem dL_law_763 : decode cL_law 763 = .ok (.if_icmp .eq 232, 3) := by decide +kernel
theorem dL_law_766 : decode cL_law 766 = .ok (.iconst 0, 1) := by decide +kernel
theorem dL_law_767 : decode cL_law 767 = .ok (.ireturn, 1) := by decide +kernel
theorem dL_law_768 : decode cL_law 768 = .ok (.aload_n 1, 1) := by decide +kernel
theorem dL_law_769 : decode cL_law 769 = .ok (.aload_n 0, 1) := by decide +kernel
theorem dL_law_770 : decode cL_law 770 = .ok (.iload_n 3, 1) := by decide +kernel
theorem dL_law_771 : decode cL_law 771 = .ok (.iconst 1, 1) := by decide +kernel
theorem dL_law_772 : decode cL_law 772 = .ok (.iadd, 1) := by decide +kernel
theorem dL_law_773 : decode cL_law 773 = .ok (.iaload, 1) := by decide +kernel
theorem dL_law_774 : decode cL_law 774 = .ok (.aload_n 0, 1) := by decide +kernel
theorem dL_law_775 : decode cL_law 775 = .ok (.iload_n 3, 1) := by decide +kernel
theorem dL_law_776 : decode cL_law 776 = .ok (.iconst 2, 1) := by decide +kernel
theorem dL_law_777 : decode cL_law 777 = .ok (.iadd, 1) := by decide +kernel
theorem dL_law_778 : decode cL_law 778 = .ok (.iaload, 1) := by decide +kernel
theorem dL_law_779 : decode cL_law 779 = .ok (.aload_n 0, 1) := by decide +kernel
theorem dL_law_780 : decode cL_law 780 = .ok (.iload_n 3, 1) := by decide +kernel
theorem dL_law_781 : decode cL_law 781 = .ok (.iconst 3, 1) := by decide +kernel
theorem dL_law_782 : decode cL_law 782 = .ok (.iadd, 1) := by decide +kernel
theorem dL_law_783 : decode cL_law 783 = .ok (.iaload, 1) := by decide +kernel
theorem dL_law_784 : decode cL_law 784 = .ok (.invokevirtual 105, 3) := by decide +kernel
theorem dL_law_787 : decode cL_law 787 = .ok (.aload_n 2, 1) := by decide +kernel
theorem dL_law_788 : decode cL_law 788 = .ok (.aload_n 0, 1) := by decide +kernel
theorem dL_law_789 : decode cL_law 789 = .ok (.iload_n 3, 1) := by decide +kernel
theorem dL_law_790 : decode cL_law 790 = .ok (.iconst 1, 1) := by decide +kernel
theorem dL_law_791 : decode cL_law 791 = .ok (.iadd, 1) := by decide +kernel
theorem dL_law_792 : decode cL_law 792 = .ok (.iaload, 1) := by decide +kernel
theorem dL_law_793 : decode cL_law 793 = .ok (.aload_n 0, 1) := by decide +kernel
theorem dL_law_794 : decode cL_law 794 = .ok (.iload_n 3, 1) := by decide +kernel
theorem dL_law_795 : decode cL_law 795 = .ok (.iconst 2, 1) := by decide +kernel
theorem dL_law_796 : decode cL_law 796 = .ok (.iadd, 1) := by decide +kernel
theorem dL_law_797 : decode cL_law 797 = .ok (.iaload, 1) := by decide +kernel
theorem dL_law_798 : decode cL_law 798 = .ok (.aload_n 0, 1) := by decide +kernel
theorem dL_law_799 : decode cL_law 799 = .ok (.iload_n 3, 1) := by decide +kernel
theorem dL_law_800 : decode cL_law 800 = .ok (.iconst 3, 1) := by decide +kernel
theorem dL_law_801 : decode cL_law 801 = .ok (.iadd, 1) := by decide +kernel
theorem dL_law_802 : decode cL_law 802 = .ok (.iaload, 1) := by decide +kernel
theorem dL_law_803 : decode cL_law 803 = .ok (.invokevirtual 108, 3) := by decide +kernel
theorem dL_law_806 : decode cL_law 806 = .ok (.if_icmp .eq 189, 3) := by decide +kernel
theorem dL_law_809 : decode cL_law 809 = .ok (.iconst 0, 1) := by decide +kernel
theorem dL_law_810 : decode cL_law 810 = .ok (.ireturn, 1) := by decide +kernel
theorem dL_law_811 : decode cL_law 811 = .ok (.aload_n 1, 1) := by decide +kernel
theorem dL_law_812 : decode cL_law 812 = .ok (.aload_n 0, 1) := by decide +kernel
theorem dL_law_813 : decode cL_law 813 = .ok (.iload_n 3, 1) := by decide +kernel
theorem dL_law_814 : decode cL_law 814 = .ok (.iconst 1, 1) := by decide +kernel
theorem dL_law_815 : decode cL_law 815 = .ok (.iadd, 1) := by decide +kernel
theorem dL_law_816 : decode cL_law 816 = .ok (.iaload, 1) := by decide +kernel
theorem dL_law_817 : decode cL_law 817 = .ok (.aload_n 0, 1) := by decide +kernel
theorem dL_law_818 : decode cL_law 818 = .ok (.iload_n 3, 1) := by decide +kernel
theorem dL_law_819 : decode cL_law 819 = .ok (.iconst 2, 1) := by decide +kernel
theorem dL_law_820 : decode cL_law 820 = .ok (.iadd, 1) := by decide +kernel
theorem dL_law_821 : decode cL_law 821 = .ok (.iaload, 1) := by decide +kernel
theorem dL_law_822 : decode cL_law 822 = .ok (.invokevirtual 109, 3) := by decide +kernel
theorem dL_law_825 : decode cL_law 825 = .ok (.aload_n 2, 1) := by decide +kernel
theorem dL_law_826 : decode cL_law 826 = .ok (.aload_n 0, 1) := by decide +kernel
theorem dL_law_827 : decode cL_law 827 = .ok (.iload_n 3, 1) := by decide +kernel
theorem dL_law_828 : decode cL_law 828 = .ok (.iconst 1, 1) := by decide +kernel
theorem dL_law_829 : decode cL_law 829 = .ok (.iadd, 1) := by decide +kernel
theorem dL_law_830 : decode cL_law 830 = .ok (.iaload, 1) := by decide +kernel
theorem dL_law_831 : decode cL_law 831 = .ok (.aload_n 0, 1) := by decide +kernel
theorem dL_law_832 : decode cL_law 832 = .ok (.iload_n 3, 1) := by decide +kernel
theorem dL_law_833 : decode cL_law 833 = .ok (.iconst 2, 1) := by decide +kernel
theorem dL_law_834 : decode cL_law 834 = .ok (.iadd, 1) := by decide +kernel
theorem dL_law_835 : decode cL_law 835 = .ok (.iaload, 1) := by decide +kernel
theorem dL_law_836 : decode cL_law 836 = .ok (.invokevirtual 112, 3) := by decide +kernel
theorem dL_law_839 : decode cL_law 839 = .ok (.if_icmp .eq 156, 3) := by decide +kernel
theorem dL_law_842 : decode cL_law 842 = .ok (.iconst 0, 1) := by decide +kernel
theorem dL_law_843 : decode cL_law 843 = .ok (.ireturn, 1) := by decide +kernel
theorem dL_law_844 : decode cL_law 844 = .ok (.aload_n 1, 1) := by decide +kernel
theorem dL_law_845 : decode cL_law 845 = .ok (.aload_n 0, 1) := by decide +kernel
theorem dL_law_846 : decode cL_law 846 = .ok (.iload_n 3, 1) := by decide +kernel
theorem dL_law_847 : decode cL_law 847 = .ok (.iconst 1, 1) := by decide +kernel
theorem dL_law_848 : decode cL_law 848 = .ok (.iadd, 1) := by decide +kernel
theorem dL_law_849 : decode cL_law 849 = .ok (.iaload, 1) := by decide +kernel
theorem dL_law_850 : decode cL_law 850 = .ok (.invokevirtual 113, 3) := by decide +kernel
theorem dL_law_853 : decode cL_law 853 = .ok (.aload_n 2, 1) := by decide +kernel
theorem dL_law_854 : decode cL_law 854 = .ok (.aload_n 0, 1) := by decide +kernel
theorem dL_law_855 : decode cL_law 855 = .ok (.iload_n 3, 1) := by decide +kernel
theorem dL_law_856 : decode cL_law 856 = .ok (.iconst 1, 1) := by decide +kernel
theorem dL_law_857 : decode cL_law 857 = .ok (.iadd, 1) := by decide +kernel
theorem dL_law_858 : decode cL_law 858 = .ok (.iaload, 1) := by decide +kernel
theorem dL_law_859 : decode cL_law 859 = .ok (.invokevirtual 116, 3) := by decide +kernel
theorem dL_law_862 : decode cL_law 862 = .ok (.if_icmp .eq 133, 3) := by decide +kernel
theorem dL_law_865 : decode cL_law 865 = .ok (.iconst 0, 1) := by decide +kernel
theorem dL_law_866 : decode cL_law 866 = .ok (.ireturn, 1) := by decide +kernel
theorem dL_law_867 : decode cL_law 867 = .ok (.aload_n 1, 1) := by decide +kernel
theorem dL_law_868 : decode cL_law 868 = .ok (.aload_n 0, 1) := by decide +kernel
theorem dL_law_869 : decode cL_law 869 = .ok (.iload_n 3, 1) := by decide +kernel
theorem dL_law_870 : decode cL_law 870 = .ok (.iconst 1, 1) := by decide +kernel
theorem dL_law_871 : decode cL_law 871 = .ok (.iadd, 1) := by decide +kernel
theorem dL_law_872 : decode cL_law 872 = .ok (.iaload, 1) := by decide +kernel
theorem dL_law_873 : decode cL_law 873 = .ok (.aload_n 0, 1) := by decide +kernel
theorem dL_law_874 : decode cL_law 874 = .ok (.iload_n 3, 1) := by decide +kernel
theorem dL_law_875 : decode cL_law 875 = .ok (.iconst 2, 1) := by decide +kernel
theorem dL_law_876 : decode cL_law 876 = .ok (.iadd, 1) := by decide +kernel
theorem dL_law_877 : decode cL_law 877 = .ok (.iaload, 1) := by decide +kernel
theorem dL_law_878 : decode cL_law 878 = .ok (.invokevirtual 117, 3) := by decide +kernel
theorem dL_law_881 : decode cL_law 881 = .ok (.aload_n 2, 1) := by decide +kernel
theorem dL_law_882 : decode cL_law 882 = .ok (.aload_n 0, 1) := by decide +kernel
theorem dL_law_883 : decode cL_law 883 = .ok (.iload_n 3, 1) := by decide +kernel
theorem dL_law_884 : decode cL_law 884 = .ok (.iconst 1, 1) := by decide +kernel
theorem dL_law_885 : decode cL_law 885 = .ok (.iadd, 1) := by decide +kernel
theorem dL_law_886 : decode cL_law 886 = .ok (.iaload, 1) := by decide +kernel
theorem dL_law_887 : decode cL_law 887 = .ok (.aload_n 0, 1) := by decide +kernel
theorem dL_law_888 : decode cL_law 888 = .ok (.iload_n 3, 1) := by decide +kernel
theorem dL_law_889 : decode cL_law 889 = .ok (.iconst 2, 1) := by decide +kernel
theorem dL_law_890 : decode cL_law 890 = .ok (.iadd, 1) := by decide +kernel
theorem dL_law_891 : decode cL_law 891 = .ok (.iaload, 1) := by decide +kernel
theorem dL_law_892 : decode cL_law 892 = .ok (.invokevirtual 120, 3) := by decide +kernel
theorem dL_law_895 : decode cL_law 895 = .ok (.if_icmp .eq 100, 3) := by decide +kernel
theorem dL_law_898 : decode cL_law 898 = .ok (.iconst 0, 1) := by decide +kernel
theorem dL_law_899 : decode cL_law 899 = .ok (.ireturn, 1) := by decide +kernel
theorem dL_law_900 : decode cL_law 900 = .ok (.aload_n 1, 1) := by decide +kernel
theorem dL_law_901 : decode cL_law 901 = .ok (.invokevirtual 121, 3) := by decide +kernel
theorem dL_law_904 : decode cL_law 904 = .ok (.aload_n 2, 1) := by decide +kernel
theorem dL_law_905 : decode cL_law 905 = .ok (.invokevirtual 124, 3) := by decide +kernel
theorem dL_law_908 : decode cL_law 908 = .ok (.if_icmp .eq 87, 3) := by decide +kernel
theorem dL_law_911 : decode cL_law 911 = .ok (.iconst 0, 1) := by decide +kernel
theorem dL_law_912 : decode cL_law 912 = .ok (.ireturn, 1) := by decide +kernel
theorem dL_law_913 : decode cL_law 913 = .ok (.aload_n 1, 1) := by decide +kernel
theorem dL_law_914 : decode cL_law 914 = .ok (.invokevirtual 125, 3) := by decide +kernel
theorem dL_law_917 : decode cL_law 917 = .ok (.aload_n 2, 1) := by decide +kernel
theorem dL_law_918 : decode cL_law 918 = .ok (.invokevirtual 128, 3) := by decide +kernel
theorem dL_law_921 : decode cL_law 921 = .ok (.if_icmp .eq 74, 3) := by decide +kernel
theorem dL_law_924 : decode cL_law 924 = .ok (.iconst 0, 1) := by decide +kernel
theorem dL_law_925 : decode cL_law 925 = .ok (.ireturn, 1) := by decide +kernel
theorem dL_law_926 : decode cL_law 926 = .ok (.aload_n 1, 1) := by decide +kernel
theorem dL_law_927 : decode cL_law 927 = .ok (.aload_n 0, 1) := by decide +kernel
theorem dL_law_928 : decode cL_law 928 = .ok (.iload_n 3, 1) := by decide +kernel
theorem dL_law_929 : decode cL_law 929 = .ok (.iconst 1, 1) := by decide +kernel
theorem dL_law_930 : decode cL_law 930 = .ok (.iadd, 1) := by decide +kernel
theorem dL_law_931 : decode cL_law 931 = .ok (.iaload, 1) := by decide +kernel
theorem dL_law_932 : decode cL_law 932 = .ok (.invokevirtual 129, 3) := by decide +kernel
theorem dL_law_935 : decode cL_law 935 = .ok (.aload_n 2, 1) := by decide +kernel
theorem dL_law_936 : decode cL_law 936 = .ok (.aload_n 0, 1) := by decide +kernel
theorem dL_law_937 : decode cL_law 937 = .ok (.iload_n 3, 1) := by decide +kernel
theorem dL_law_938 : decode cL_law 938 = .ok (.iconst 1, 1) := by decide +kernel
theorem dL_law_939 : decode cL_law 939 = .ok (.iadd, 1) := by decide +kernel
theorem dL_law_940 : decode cL_law 940 = .ok (.iaload, 1) := by decide +kernel
theorem dL_law_941 : decode cL_law 941 = .ok (.invokevirtual 132, 3) := by decide +kernel
theorem dL_law_944 : decode cL_law 944 = .ok (.if_icmp .eq 51, 3) := by decide +kernel
theorem dL_law_947 : decode cL_law 947 = .ok (.iconst 0, 1) := by decide +kernel
theorem dL_law_948 : decode cL_law 948 = .ok (.ireturn, 1) := by decide +kernel
theorem dL_law_949 : decode cL_law 949 = .ok (.aload_n 1, 1) := by decide +kernel
theorem dL_law_950 : decode cL_law 950 = .ok (.aload_n 0, 1) := by decide +kernel
theorem dL_law_951 : decode cL_law 951 = .ok (.iload_n 3, 1) := by decide +kernel
theorem dL_law_952 : decode cL_law 952 = .ok (.iconst 1, 1) := by decide +kernel
theorem dL_law_953 : decode cL_law 953 = .ok (.iadd, 1) := by decide +kernel
theorem dL_law_954 : decode cL_law 954 = .ok (.iaload, 1) := by decide +kernel
theorem dL_law_955 : decode cL_law 955 = .ok (.invokevirtual 133, 3) := by decide +kernel
theorem dL_law_958 : decode cL_law 958 = .ok (.aload_n 2, 1) := by decide +kernel
theorem dL_law_959 : decode cL_law 959 = .ok (.aload_n 0, 1) := by decide +kernel
theorem dL_law_960 : decode cL_law 960 = .ok (.iload_n 3, 1) := by decide +kernel
theorem dL_law_961 : decode cL_law 961 = .ok (.iconst 1, 1) := by decide +kernel
theorem dL_law_962 : decode cL_law 962 = .ok (.iadd, 1) := by decide +kernel
theorem dL_law_963 : decode cL_law 963 = .ok (.iaload, 1) := by decide +kernel
theorem dL_law_964 : decode cL_law 964 = .ok (.invokevirtual 136, 3) := by decide +kernel
theorem dL_law_967 : decode cL_law 967 = .ok (.if_icmp .eq 28, 3) := by decide +kernel
theorem dL_law_970 : decode cL_law 970 = .ok (.iconst 0, 1) := by decide +kernel
theorem dL_law_971 : decode cL_law 971 = .ok (.ireturn, 1) := by decide +kernel
theorem dL_law_972 : decode cL_law 972 = .ok (.aload_n 1, 1) := by decide +kernel
theorem dL_law_973 : decode cL_law 973 = .ok (.aload_n 0, 1) := by decide +kernel
theorem dL_law_974 : decode cL_law 974 = .ok (.iload_n 3, 1) := by decide +kernel
theorem dL_law_975 : decode cL_law 975 = .ok (.iconst 1, 1) := by decide +kernel
theorem dL_law_976 : decode cL_law 976 = .ok (.iadd, 1) := by decide +kernel
theorem dL_law_977 : decode cL_law 977 = .ok (.iaload, 1) := by decide +kernel
theorem dL_law_978 : decode cL_law 978 = .ok (.invokevirtual 137, 3) := by decide +kernel
theorem dL_law_981 : decode cL_law 981 = .ok (.aload_n 2, 1) := by decide +kernel
theorem dL_law_982 : decode cL_law 982 = .ok (.aload_n 0, 1) := by decide +kernel
theorem dL_law_983 : decode cL_law 983 = .ok (.iload_n 3, 1) := by decide +kernel
theorem dL_law_984 : decode cL_law 984 = .ok (.iconst 1, 1) := by decide +kernel
theorem dL_law_985 : decode cL_law 985 = .ok (.iadd, 1) := by decide +kernel
theorem dL_law_986 : decode cL_law 986 = .ok (.iaload, 1) := by decide +kernel
theorem dL_law_987 : decode cL_law 987 = .ok (.invokevirtual 140, 3) := by decide +kernel
theorem dL_law_990 : decode cL_law 990 = .ok (.if_icmp .eq 5, 3) := by decide +kernel
theorem dL_law_993 : decode cL_law 993 = .ok (.iconst 0, 1) := by decide +kernel
theorem dL_law_994 : decode cL_law 994 = .ok (.ireturn, 1) := by decide +kernel
theorem dL_law_995 : decode cL_law 995 = .ok (.iinc 3 4, 3) := by decide +kernel
theorem dL_law_998 : decode cL_law 998 = .ok (.goto (-980), 3) := by decide +kernel
theorem dL_law_1001 : decode cL_law 1001 = .ok (.iconst 1, 1) := by decide +kernel
theorem dL_law_1002 : decode cL_law 1002 = .ok (.ireturn, 1) := by decide +kernel
