theorem dX9_addBoat_7 : decode cX9_addBoat 7 = .ok (.aload_n 0, 1) := by decide +kernel
theorem dX9_addBoat_8 : decode cX9_addBoat 8 = .ok (.getfield 18, 3) := by decide +kernel
theorem dX9_addBoat_11 : decode cX9_addBoat 11 = .ok (.iconst 5, 1) := by decide +kernel
theorem dX9_addBoat_12 : decode cX9_addBoat 12 = .ok (.if_icmp .lt 4, 3) := by decide +kernel
theorem dX9_addBoat_15 : decode cX9_addBoat 15 = .ok (.return_, 1) := by decide +kernel
theorem dX9_addBoat_16 : decode cX9_addBoat 16 = .ok (.aload_n 0, 1) := by decide +kernel
theorem dX9_addBoat_17 : decode cX9_addBoat 17 = .ok (.getfield 31, 3) := by decide +kernel
theorem dX9_addBoat_20 : decode cX9_addBoat 20 = .ok (.aload_n 0, 1) := by decide +kernel
theorem dX9_addBoat_21 : decode cX9_addBoat 21 = .ok (.getfield 18, 3) := by decide +kernel
theorem dX9_addBoat_24 : decode cX9_addBoat 24 = .ok (.iload_n 1, 1) := by decide +kernel
theorem dX9_addBoat_25 : decode cX9_addBoat 25 = .ok (.iastore, 1) := by decide +kernel
theorem dX9_addBoat_26 : decode cX9_addBoat 26 = .ok (.aload_n 0, 1) := by decide +kernel
theorem dX9_addBoat_27 : decode cX9_addBoat 27 = .ok (.getfield 34, 3) := by decide +kernel
theorem dX9_addBoat_30 : decode cX9_addBoat 30 = .ok (.aload_n 0, 1) := by decide +kernel
theorem dX9_addBoat_31 : decode cX9_addBoat 31 = .ok (.getfield 18, 3) := by decide +kernel
theorem dX9_addBoat_34 : decode cX9_addBoat 34 = .ok (.iload_n 2, 1) := by decide +kernel
theorem dX9_addBoat_35 : decode cX9_addBoat 35 = .ok (.iastore, 1) := by decide +kernel
theorem dX9_addBoat_36 : decode cX9_addBoat 36 = .ok (.aload_n 0, 1) := by decide +kernel
theorem dX9_addBoat_37 : decode cX9_addBoat 37 = .ok (.getfield 37, 3) := by decide +kernel
theorem dX9_addBoat_40 : decode cX9_addBoat 40 = .ok (.aload_n 0, 1) := by decide +kernel
theorem dX9_addBoat_41 : decode cX9_addBoat 41 = .ok (.getfield 18, 3) := by decide +kernel
theorem dX9_addBoat_44 : decode cX9_addBoat 44 = .ok (.iload_n 3, 1) := by decide +kernel
theorem dX9_addBoat_45 : decode cX9_addBoat 45 = .ok (.iastore, 1) := by decide +kernel
theorem dX9_addBoat_46 : decode cX9_addBoat 46 = .ok (.aload_n 0, 1) := by decide +kernel
theorem dX9_addBoat_47 : decode cX9_addBoat 47 = .ok (.dup, 1) := by decide +kernel
theorem dX9_addBoat_48 : decode cX9_addBoat 48 = .ok (.getfield 18, 3) := by decide +kernel
theorem dX9_addBoat_51 : decode cX9_addBoat 51 = .ok (.iconst 1, 1) := by decide +kernel
theorem dX9_addBoat_52 : decode cX9_addBoat 52 = .ok (.iadd, 1) := by decide +kernel
theorem dX9_addBoat_53 : decode cX9_addBoat 53 = .ok (.putfield 18, 3) := by decide +kernel
theorem dX9_addBoat_56 : decode cX9_addBoat 56 = .ok (.return_, 1) := by decide +kernel
theorem dX9_findOnward_0 : decode cX9_findOnward 0 = .ok (.iconst 0, 1) := by decide +kernel
theorem dX9_findOnward_1 : decode cX9_findOnward 1 = .ok (.istore_n 1, 1) := by decide +kernel
theorem dX9_findOnward_2 : decode cX9_findOnward 2 = .ok (.iload_n 1, 1) := by decide +kernel
theorem dX9_findOnward_3 : decode cX9_findOnward 3 = .ok (.bipush 9, 2) := by decide +kernel
theorem dX9_findOnward_5 : decode cX9_findOnward 5 = .ok (.if_icmp .ge 29, 3) := by decide +kernel
theorem dX9_findOnward_8 : decode cX9_findOnward 8 = .ok (.iconst (-1), 1) := by decide +kernel
theorem dX9_findOnward_9 : decode cX9_findOnward 9 = .ok (.istore_n 2, 1) := by decide +kernel
theorem dX9_findOnward_10 : decode cX9_findOnward 10 = .ok (.iload_n 2, 1) := by decide +kernel
theorem dX9_findOnward_11 : decode cX9_findOnward 11 = .ok (.bipush 9, 2) := by decide +kernel
theorem dX9_findOnward_13 : decode cX9_findOnward 13 = .ok (.if_icmp .ge 15, 3) := by decide +kernel
theorem dX9_findOnward_16 : decode cX9_findOnward 16 = .ok (.aload_n 0, 1) := by decide +kernel
theorem dX9_findOnward_17 : decode cX9_findOnward 17 = .ok (.iload_n 1, 1) := by decide +kernel
theorem dX9_findOnward_18 : decode cX9_findOnward 18 = .ok (.iload_n 2, 1) := by decide +kernel
theorem dX9_findOnward_19 : decode cX9_findOnward 19 = .ok (.invokevirtual 54, 3) := by decide +kernel
theorem dX9_findOnward_22 : decode cX9_findOnward 22 = .ok (.iinc 2 1, 3) := by decide +kernel
theorem dX9_findOnward_25 : decode cX9_findOnward 25 = .ok (.goto (-15), 3) := by decide +kernel
theorem dX9_findOnward_28 : decode cX9_findOnward 28 = .ok (.iinc 1 1, 3) := by decide +kernel
theorem dX9_findOnward_31 : decode cX9_findOnward 31 = .ok (.goto (-29), 3) := by decide +kernel
theorem dX9_findOnward_34 : decode cX9_findOnward 34 = .ok (.return_, 1) := by decide +kernel
theorem dX9_findOnwardFrom_0 : decode cX9_findOnwardFrom 0 = .ok (.iconst (-1), 1) := by decide +kernel
theorem dX9_findOnwardFrom_1 : decode cX9_findOnwardFrom 1 = .ok (.istore_n 3, 1) := by decide +kernel
theorem dX9_findOnwardFrom_2 : decode cX9_findOnwardFrom 2 = .ok (.sipush 1000, 3) := by decide +kernel
theorem dX9_findOnwardFrom_5 : decode cX9_findOnwardFrom 5 = .ok (.istore 4, 2) := by decide +kernel
theorem dX9_findOnwardFrom_7 : decode cX9_findOnwardFrom 7 = .ok (.iconst 0, 1) := by decide +kernel
theorem dX9_findOnwardFrom_8 : decode cX9_findOnwardFrom 8 = .ok (.istore 5, 2) := by decide +kernel
theorem dX9_findOnwardFrom_10 : decode cX9_findOnwardFrom 10 = .ok (.iload 5, 2) := by decide +kernel
theorem dX9_findOnwardFrom_12 : decode cX9_findOnwardFrom 12 = .ok (.aload_n 0, 1) := by decide +kernel
theorem dX9_findOnwardFrom_13 : decode cX9_findOnwardFrom 13 = .ok (.getfield 15, 3) := by decide +kernel
theorem dX9_findOnwardFrom_16 : decode cX9_findOnwardFrom 16 = .ok (.if_icmp .ge 82, 3) := by decide +kernel
theorem dX9_findOnwardFrom_19 : decode cX9_findOnwardFrom 19 = .ok (.iload 5, 2) := by decide +kernel
theorem dX9_findOnwardFrom_21 : decode cX9_findOnwardFrom 21 = .ok (.bipush 14, 2) := by decide +kernel
theorem dX9_findOnwardFrom_23 : decode cX9_findOnwardFrom 23 = .ok (.if_icmp .ge 75, 3) := by decide +kernel
theorem dX9_findOnwardFrom_26 : decode cX9_findOnwardFrom 26 = .ok (.aload_n 0, 1) := by decide +kernel
theorem dX9_findOnwardFrom_27 : decode cX9_findOnwardFrom 27 = .ok (.iload 5, 2) := by decide +kernel
theorem dX9_findOnwardFrom_29 : decode cX9_findOnwardFrom 29 = .ok (.iload_n 1, 1) := by decide +kernel
theorem dX9_findOnwardFrom_30 : decode cX9_findOnwardFrom 30 = .ok (.invokevirtual 50, 3) := by decide +kernel
theorem dX9_findOnwardFrom_33 : decode cX9_findOnwardFrom 33 = .ok (.istore 6, 2) := by decide +kernel
theorem dX9_findOnwardFrom_35 : decode cX9_findOnwardFrom 35 = .ok (.iload 6, 2) := by decide +kernel
theorem dX9_findOnwardFrom_37 : decode cX9_findOnwardFrom 37 = .ok (.iconst (-1), 1) := by decide +kernel
theorem dX9_findOnwardFrom_38 : decode cX9_findOnwardFrom 38 = .ok (.if_icmp .eq 54, 3) := by decide +kernel
theorem dX9_findOnwardFrom_41 : decode cX9_findOnwardFrom 41 = .ok (.iload 6, 2) := by decide +kernel
theorem dX9_findOnwardFrom_43 : decode cX9_findOnwardFrom 43 = .ok (.iload_n 2, 1) := by decide +kernel
theorem dX9_findOnwardFrom_44 : decode cX9_findOnwardFrom 44 = .ok (.if_icmp .ne 6, 3) := by decide +kernel
theorem dX9_findOnwardFrom_47 : decode cX9_findOnwardFrom 47 = .ok (.goto 45, 3) := by decide +kernel
theorem dX9_findOnwardFrom_50 : decode cX9_findOnwardFrom 50 = .ok (.aload_n 0, 1) := by decide +kernel
theorem dX9_findOnwardFrom_51 : decode cX9_findOnwardFrom 51 = .ok (.getfield 28, 3) := by decide +kernel
theorem dX9_findOnwardFrom_54 : decode cX9_findOnwardFrom 54 = .ok (.iload 5, 2) := by decide +kernel
theorem dX9_findOnwardFrom_56 : decode cX9_findOnwardFrom 56 = .ok (.iaload, 1) := by decide +kernel
theorem dX9_findOnwardFrom_57 : decode cX9_findOnwardFrom 57 = .ok (.iload 4, 2) := by decide +kernel
theorem dX9_findOnwardFrom_59 : decode cX9_findOnwardFrom 59 = .ok (.if_icmp .lt 21, 3) := by decide +kernel
theorem dX9_findOnwardFrom_62 : decode cX9_findOnwardFrom 62 = .ok (.aload_n 0, 1) := by decide +kernel
theorem dX9_findOnwardFrom_63 : decode cX9_findOnwardFrom 63 = .ok (.getfield 28, 3) := by decide +kernel
theorem dX9_findOnwardFrom_66 : decode cX9_findOnwardFrom 66 = .ok (.iload 5, 2) := by decide +kernel
theorem dX9_findOnwardFrom_68 : decode cX9_findOnwardFrom 68 = .ok (.iaload, 1) := by decide +kernel
theorem dX9_findOnwardFrom_69 : decode cX9_findOnwardFrom 69 = .ok (.iload 4, 2) := by decide +kernel
theorem dX9_findOnwardFrom_71 : decode cX9_findOnwardFrom 71 = .ok (.if_icmp .ne 21, 3) := by decide +kernel
theorem dX9_findOnwardFrom_74 : decode cX9_findOnwardFrom 74 = .ok (.iload 6, 2) := by decide +kernel
theorem dX9_findOnwardFrom_76 : decode cX9_findOnwardFrom 76 = .ok (.iload_n 3, 1) := by decide +kernel
theorem dX9_findOnwardFrom_77 : decode cX9_findOnwardFrom 77 = .ok (.if_icmp .ge 15, 3) := by decide +kernel
theorem dX9_findOnwardFrom_80 : decode cX9_findOnwardFrom 80 = .ok (.iload 6, 2) := by decide +kernel
theorem dX9_findOnwardFrom_82 : decode cX9_findOnwardFrom 82 = .ok (.istore_n 3, 1) := by decide +kernel
theorem dX9_findOnwardFrom_83 : decode cX9_findOnwardFrom 83 = .ok (.aload_n 0, 1) := by decide +kernel
theorem dX9_findOnwardFrom_84 : decode cX9_findOnwardFrom 84 = .ok (.getfield 28, 3) := by decide +kernel
theorem dX9_findOnwardFrom_87 : decode cX9_findOnwardFrom 87 = .ok (.iload 5, 2) := by decide +kernel
theorem dX9_findOnwardFrom_89 : decode cX9_findOnwardFrom 89 = .ok (.iaload, 1) := by decide +kernel
theorem dX9_findOnwardFrom_90 : decode cX9_findOnwardFrom 90 = .ok (.istore 4, 2) := by decide +kernel
theorem dX9_findOnwardFrom_92 : decode cX9_findOnwardFrom 92 = .ok (.iinc 5 1, 3) := by decide +kernel
theorem dX9_findOnwardFrom_95 : decode cX9_findOnwardFrom 95 = .ok (.goto (-85), 3) := by decide +kernel
theorem dX9_findOnwardFrom_98 : decode cX9_findOnwardFrom 98 = .ok (.aload_n 0, 1) := by decide +kernel
theorem dX9_findOnwardFrom_99 : decode cX9_findOnwardFrom 99 = .ok (.iload_n 1, 1) := by decide +kernel
theorem dX9_findOnwardFrom_100 : decode cX9_findOnwardFrom 100 = .ok (.iload_n 2, 1) := by decide +kernel
theorem dX9_findOnwardFrom_101 : decode cX9_findOnwardFrom 101 = .ok (.invokevirtual 58, 3) := by decide +kernel
theorem dX9_findOnwardFrom_104 : decode cX9_findOnwardFrom 104 = .ok (.istore 5, 2) := by decide +kernel
theorem dX9_findOnwardFrom_106 : decode cX9_findOnwardFrom 106 = .ok (.iload 5, 2) := by decide +kernel
theorem dX9_findOnwardFrom_108 : decode cX9_findOnwardFrom 108 = .ok (.iconst (-1), 1) := by decide +kernel
theorem dX9_findOnwardFrom_109 : decode cX9_findOnwardFrom 109 = .ok (.if_icmp .ne 4, 3) := by decide +kernel
theorem dX9_findOnwardFrom_112 : decode cX9_findOnwardFrom 112 = .ok (.return_, 1) := by decide +kernel
theorem dX9_findOnwardFrom_113 : decode cX9_findOnwardFrom 113 = .ok (.aload_n 0, 1) := by decide +kernel
theorem dX9_findOnwardFrom_114 : decode cX9_findOnwardFrom 114 = .ok (.getfield 40, 3) := by decide +kernel
theorem dX9_findOnwardFrom_117 : decode cX9_findOnwardFrom 117 = .ok (.iload 5, 2) := by decide +kernel
theorem dX9_findOnwardFrom_119 : decode cX9_findOnwardFrom 119 = .ok (.iload_n 3, 1) := by decide +kernel
theorem dX9_findOnwardFrom_120 : decode cX9_findOnwardFrom 120 = .ok (.iastore, 1) := by decide +kernel
theorem dX9_findOnwardFrom_121 : decode cX9_findOnwardFrom 121 = .ok (.aload_n 0, 1) := by decide +kernel
theorem dX9_findOnwardFrom_122 : decode cX9_findOnwardFrom 122 = .ok (.getfield 43, 3) := by decide +kernel
theorem dX9_findOnwardFrom_125 : decode cX9_findOnwardFrom 125 = .ok (.iload 5, 2) := by decide +kernel
theorem dX9_findOnwardFrom_127 : decode cX9_findOnwardFrom 127 = .ok (.iload 4, 2) := by decide +kernel
theorem dX9_findOnwardFrom_129 : decode cX9_findOnwardFrom 129 = .ok (.iastore, 1) := by decide +kernel
theorem dX9_findOnwardFrom_130 : decode cX9_findOnwardFrom 130 = .ok (.return_, 1) := by decide +kernel
theorem dX9_goesTo_0 : decode cX9_goesTo 0 = .ok (.aload_n 0, 1) := by decide +kernel
theorem dX9_goesTo_1 : decode cX9_goesTo 1 = .ok (.iload_n 1, 1) := by decide +kernel
theorem dX9_goesTo_2 : decode cX9_goesTo 2 = .ok (.iload_n 2, 1) := by decide +kernel
theorem dX9_goesTo_3 : decode cX9_goesTo 3 = .ok (.invokevirtual 58, 3) := by decide +kernel
theorem dX9_goesTo_6 : decode cX9_goesTo 6 = .ok (.istore_n 3, 1) := by decide +kernel
theorem dX9_goesTo_7 : decode cX9_goesTo 7 = .ok (.iload_n 3, 1) := by decide +kernel
theorem dX9_goesTo_8 : decode cX9_goesTo 8 = .ok (.iconst (-1), 1) := by decide +kernel
theorem dX9_goesTo_9 : decode cX9_goesTo 9 = .ok (.if_icmp .ne 7, 3) := by decide +kernel
theorem dX9_goesTo_12 : decode cX9_goesTo 12 = .ok (.iconst (-1), 1) := by decide +kernel
theorem dX9_goesTo_13 : decode cX9_goesTo 13 = .ok (.goto 9, 3) := by decide +kernel
theorem dX9_goesTo_16 : decode cX9_goesTo 16 = .ok (.aload_n 0, 1) := by decide +kernel
theorem dX9_goesTo_17 : decode cX9_goesTo 17 = .ok (.getfield 40, 3) := by decide +kernel
theorem dX9_goesTo_20 : decode cX9_goesTo 20 = .ok (.iload_n 3, 1) := by decide +kernel
theorem dX9_goesTo_21 : decode cX9_goesTo 21 = .ok (.iaload, 1) := by decide +kernel
theorem dX9_goesTo_22 : decode cX9_goesTo 22 = .ok (.ireturn, 1) := by decide +kernel
theorem dX9_hardOn_0 : decode cX9_hardOn 0 = .ok (.aload_n 0, 1) := by decide +kernel
theorem dX9_hardOn_1 : decode cX9_hardOn 1 = .ok (.iload_n 1, 1) := by decide +kernel
theorem dX9_hardOn_2 : decode cX9_hardOn 2 = .ok (.iload_n 2, 1) := by decide +kernel
theorem dX9_hardOn_3 : decode cX9_hardOn 3 = .ok (.invokevirtual 58, 3) := by decide +kernel
theorem dX9_hardOn_6 : decode cX9_hardOn 6 = .ok (.istore_n 3, 1) := by decide +kernel
theorem dX9_hardOn_7 : decode cX9_hardOn 7 = .ok (.iload_n 3, 1) := by decide +kernel
theorem dX9_hardOn_8 : decode cX9_hardOn 8 = .ok (.iconst (-1), 1) := by decide +kernel
theorem dX9_hardOn_9 : decode cX9_hardOn 9 = .ok (.if_icmp .ne 9, 3) := by decide +kernel
theorem dX9_hardOn_12 : decode cX9_hardOn 12 = .ok (.sipush 1000, 3) := by decide +kernel
theorem dX9_hardOn_15 : decode cX9_hardOn 15 = .ok (.goto 9, 3) := by decide +kernel
theorem dX9_hardOn_18 : decode cX9_hardOn 18 = .ok (.aload_n 0, 1) := by decide +kernel
theorem dX9_hardOn_19 : decode cX9_hardOn 19 = .ok (.getfield 43, 3) := by decide +kernel
theorem dX9_hardOn_22 : decode cX9_hardOn 22 = .ok (.iload_n 3, 1) := by decide +kernel
theorem dX9_hardOn_23 : decode cX9_hardOn 23 = .ok (.iaload, 1) := by decide +kernel
theorem dX9_hardOn_24 : decode cX9_hardOn 24 = .ok (.ireturn, 1) := by decide +kernel
theorem dX9_slotOf_0 : decode cX9_slotOf 0 = .ok (.iload_n 1, 1) := by decide +kernel
theorem dX9_slotOf_1 : decode cX9_slotOf 1 = .ok (.ifCond .lt 20, 3) := by decide +kernel
theorem dX9_slotOf_4 : decode cX9_slotOf 4 = .ok (.iload_n 1, 1) := by decide +kernel
theorem dX9_slotOf_5 : decode cX9_slotOf 5 = .ok (.bipush 9, 2) := by decide +kernel
theorem dX9_slotOf_7 : decode cX9_slotOf 7 = .ok (.if_icmp .ge 14, 3) := by decide +kernel
theorem dX9_slotOf_10 : decode cX9_slotOf 10 = .ok (.iload_n 2, 1) := by decide +kernel
theorem dX9_slotOf_11 : decode cX9_slotOf 11 = .ok (.iconst (-1), 1) := by decide +kernel
theorem dX9_slotOf_12 : decode cX9_slotOf 12 = .ok (.if_icmp .lt 9, 3) := by decide +kernel
theorem dX9_slotOf_15 : decode cX9_slotOf 15 = .ok (.iload_n 2, 1) := by decide +kernel
theorem dX9_slotOf_16 : decode cX9_slotOf 16 = .ok (.bipush 9, 2) := by decide +kernel
theorem dX9_slotOf_18 : decode cX9_slotOf 18 = .ok (.if_icmp .lt 5, 3) := by decide +kernel
theorem dX9_slotOf_21 : decode cX9_slotOf 21 = .ok (.iconst (-1), 1) := by decide +kernel
theorem dX9_slotOf_22 : decode cX9_slotOf 22 = .ok (.ireturn, 1) := by decide +kernel
theorem dX9_slotOf_23 : decode cX9_slotOf 23 = .ok (.iload_n 1, 1) := by decide +kernel
theorem dX9_slotOf_24 : decode cX9_slotOf 24 = .ok (.bipush 10, 2) := by decide +kernel
theorem dX9_slotOf_26 : decode cX9_slotOf 26 = .ok (.imul, 1) := by decide +kernel
theorem dX9_slotOf_27 : decode cX9_slotOf 27 = .ok (.iload_n 2, 1) := by decide +kernel
theorem dX9_slotOf_28 : decode cX9_slotOf 28 = .ok (.iadd, 1) := by decide +kernel
theorem dX9_slotOf_29 : decode cX9_slotOf 29 = .ok (.iconst 1, 1) := by decide +kernel
theorem dX9_slotOf_30 : decode cX9_slotOf 30 = .ok (.iadd, 1) := by decide +kernel
theorem dX9_slotOf_31 : decode cX9_slotOf 31 = .ok (.ireturn, 1) := by decide +kernel
theorem dX9_otherEnd_0 : decode cX9_otherEnd 0 = .ok (.aload_n 0, 1) := by decide +kernel
theorem dX9_otherEnd_1 : decode cX9_otherEnd 1 = .ok (.iload_n 1, 1) := by decide +kernel
theorem dX9_otherEnd_2 : decode cX9_otherEnd 2 = .ok (.invokevirtual 61, 3) := by decide +kernel
theorem dX9_otherEnd_5 : decode cX9_otherEnd 5 = .ok (.ifCond .ne 5, 3) := by decide +kernel
theorem dX9_otherEnd_8 : decode cX9_otherEnd 8 = .ok (.iconst (-1), 1) := by decide +kernel
theorem dX9_otherEnd_9 : decode cX9_otherEnd 9 = .ok (.ireturn, 1) := by decide +kernel
theorem dX9_otherEnd_10 : decode cX9_otherEnd 10 = .ok (.aload_n 0, 1) := by decide +kernel
theorem dX9_otherEnd_11 : decode cX9_otherEnd 11 = .ok (.getfield 21, 3) := by decide +kernel
theorem dX9_otherEnd_14 : decode cX9_otherEnd 14 = .ok (.iload_n 1, 1) := by decide +kernel
theorem dX9_otherEnd_15 : decode cX9_otherEnd 15 = .ok (.iaload, 1) := by decide +kernel
theorem dX9_otherEnd_16 : decode cX9_otherEnd 16 = .ok (.iload_n 2, 1) := by decide +kernel
theorem dX9_otherEnd_17 : decode cX9_otherEnd 17 = .ok (.if_icmp .ne 10, 3) := by decide +kernel
theorem dX9_otherEnd_20 : decode cX9_otherEnd 20 = .ok (.aload_n 0, 1) := by decide +kernel
theorem dX9_otherEnd_21 : decode cX9_otherEnd 21 = .ok (.getfield 25, 3) := by decide +kernel
theorem dX9_otherEnd_24 : decode cX9_otherEnd 24 = .ok (.iload_n 1, 1) := by decide +kernel
theorem dX9_otherEnd_25 : decode cX9_otherEnd 25 = .ok (.iaload, 1) := by decide +kernel
theorem dX9_otherEnd_26 : decode cX9_otherEnd 26 = .ok (.ireturn, 1) := by decide +kernel
theorem dX9_otherEnd_27 : decode cX9_otherEnd 27 = .ok (.aload_n 0, 1) := by decide +kernel
theorem dX9_otherEnd_28 : decode cX9_otherEnd 28 = .ok (.getfield 25, 3) := by decide +kernel
theorem dX9_otherEnd_31 : decode cX9_otherEnd 31 = .ok (.iload_n 1, 1) := by decide +kernel
theorem dX9_otherEnd_32 : decode cX9_otherEnd 32 = .ok (.iaload, 1) := by decide +kernel
theorem dX9_otherEnd_33 : decode cX9_otherEnd 33 = .ok (.iload_n 2, 1) := by decide +kernel
theorem dX9_otherEnd_34 : decode cX9_otherEnd 34 = .ok (.if_icmp .ne 12, 3) := by decide +kernel
theorem dX9_otherEnd_37 : decode cX9_otherEnd 37 = .ok (.aload_n 0, 1) := by decide +kernel
theorem dX9_otherEnd_38 : decode cX9_otherEnd 38 = .ok (.getfield 21, 3) := by decide +kernel
theorem dX9_otherEnd_41 : decode cX9_otherEnd 41 = .ok (.iload_n 1, 1) := by decide +kernel
theorem dX9_otherEnd_42 : decode cX9_otherEnd 42 = .ok (.iaload, 1) := by decide +kernel
theorem dX9_otherEnd_43 : decode cX9_otherEnd 43 = .ok (.goto 4, 3) := by decide +kernel
theorem dX9_otherEnd_46 : decode cX9_otherEnd 46 = .ok (.iconst (-1), 1) := by decide +kernel
theorem dX9_otherEnd_47 : decode cX9_otherEnd 47 = .ok (.ireturn, 1) := by decide +kernel
theorem dX10_init_0 : decode cX10_init 0 = .ok (.aload_n 0, 1) := by decide +kernel
theorem dX10_init_1 : decode cX10_init 1 = .ok (.invokespecial 3, 3) := by decide +kernel
theorem dX10_init_4 : decode cX10_init 4 = .ok (.aload_n 0, 1) := by decide +kernel
theorem dX10_init_5 : decode cX10_init 5 = .ok (.sipush 202, 3) := by decide +kernel
theorem dX10_init_8 : decode cX10_init 8 = .ok (.newarray .int, 2) := by decide +kernel
theorem dX10_init_10 : decode cX10_init 10 = .ok (.putfield 11, 3) := by decide +kernel
theorem dX10_init_13 : decode cX10_init 13 = .ok (.aload_n 0, 1) := by decide +kernel
theorem dX10_init_14 : decode cX10_init 14 = .ok (.sipush 202, 3) := by decide +kernel
theorem dX10_init_17 : decode cX10_init 17 = .ok (.newarray .int, 2) := by decide +kernel
theorem dX10_init_19 : decode cX10_init 19 = .ok (.putfield 15, 3) := by decide +kernel
theorem dX10_init_22 : decode cX10_init 22 = .ok (.aload_n 0, 1) := by decide +kernel
theorem dX10_init_23 : decode cX10_init 23 = .ok (.iconst 0, 1) := by decide +kernel
theorem dX10_init_24 : decode cX10_init 24 = .ok (.putfield 18, 3) := by decide +kernel
theorem dX10_init_27 : decode cX10_init 27 = .ok (.return_, 1) := by decide +kernel
theorem dX10_lay_0 : decode cX10_lay 0 = .ok (.aload_n 0, 1) := by decide +kernel
theorem dX10_lay_1 : decode cX10_lay 1 = .ok (.iconst 0, 1) := by decide +kernel
theorem dX10_lay_2 : decode cX10_lay 2 = .ok (.iload 5, 2) := by decide +kernel
theorem dX10_lay_4 : decode cX10_lay 4 = .ok (.sipush 201, 3) := by decide +kernel
theorem dX10_lay_7 : decode cX10_lay 7 = .ok (.invokestatic 22, 3) := by decide +kernel
theorem dX10_lay_10 : decode cX10_lay 10 = .ok (.invokestatic 28, 3) := by decide +kernel
theorem dX10_lay_13 : decode cX10_lay 13 = .ok (.putfield 18, 3) := by decide +kernel
theorem dX10_lay_16 : decode cX10_lay 16 = .ok (.iload_n 2, 1) := by decide +kernel
theorem dX10_lay_17 : decode cX10_lay 17 = .ok (.istore 6, 2) := by decide +kernel
theorem dX10_lay_19 : decode cX10_lay 19 = .ok (.iload_n 3, 1) := by decide +kernel
theorem dX10_lay_20 : decode cX10_lay 20 = .ok (.istore 7, 2) := by decide +kernel
theorem dX10_lay_22 : decode cX10_lay 22 = .ok (.aload_n 0, 1) := by decide +kernel
theorem dX10_lay_23 : decode cX10_lay 23 = .ok (.getfield 11, 3) := by decide +kernel
theorem dX10_lay_26 : decode cX10_lay 26 = .ok (.iconst 0, 1) := by decide +kernel
theorem dX10_lay_27 : decode cX10_lay 27 = .ok (.iload 6, 2) := by decide +kernel
theorem dX10_lay_29 : decode cX10_lay 29 = .ok (.iastore, 1) := by decide +kernel
theorem dX10_lay_30 : decode cX10_lay 30 = .ok (.aload_n 0, 1) := by decide +kernel
theorem dX10_lay_31 : decode cX10_lay 31 = .ok (.getfield 15, 3) := by decide +kernel
theorem dX10_lay_34 : decode cX10_lay 34 = .ok (.iconst 0, 1) := by decide +kernel
theorem dX10_lay_35 : decode cX10_lay 35 = .ok (.iconst 0, 1) := by decide +kernel
theorem dX10_lay_36 : decode cX10_lay 36 = .ok (.iastore, 1) := by decide +kernel
theorem dX10_lay_37 : decode cX10_lay 37 = .ok (.iconst 0, 1) := by decide +kernel
theorem dX10_lay_38 : decode cX10_lay 38 = .ok (.istore 8, 2) := by decide +kernel
theorem dX10_lay_40 : decode cX10_lay 40 = .ok (.iload 8, 2) := by decide +kernel
theorem dX10_lay_42 : decode cX10_lay 42 = .ok (.aload_n 0, 1) := by decide +kernel
theorem dX10_lay_43 : decode cX10_lay 43 = .ok (.getfield 18, 3) := by decide +kernel
theorem dX10_lay_46 : decode cX10_lay 46 = .ok (.if_icmp .ge 89, 3) := by decide +kernel
theorem dX10_lay_49 : decode cX10_lay 49 = .ok (.aload_n 1, 1) := by decide +kernel
theorem dX10_lay_50 : decode cX10_lay 50 = .ok (.iload 6, 2) := by decide +kernel
theorem dX10_lay_52 : decode cX10_lay 52 = .ok (.iload 7, 2) := by decide +kernel
theorem dX10_lay_54 : decode cX10_lay 54 = .ok (.invokevirtual 31, 3) := by decide +kernel
theorem dX10_lay_57 : decode cX10_lay 57 = .ok (.iload 8, 2) := by decide +kernel
theorem dX10_lay_59 : decode cX10_lay 59 = .ok (.iload 4, 2) := by decide +kernel
theorem dX10_lay_61 : decode cX10_lay 61 = .ok (.imul, 1) := by decide +kernel
theorem dX10_lay_62 : decode cX10_lay 62 = .ok (.iadd, 1) := by decide +kernel
theorem dX10_lay_63 : decode cX10_lay 63 = .ok (.iconst 1, 1) := by decide +kernel
theorem dX10_lay_64 : decode cX10_lay 64 = .ok (.iadd, 1) := by decide +kernel
theorem dX10_lay_65 : decode cX10_lay 65 = .ok (.istore 9, 2) := by decide +kernel
theorem dX10_lay_67 : decode cX10_lay 67 = .ok (.aload_n 1, 1) := by decide +kernel
theorem dX10_lay_68 : decode cX10_lay 68 = .ok (.iload 6, 2) := by decide +kernel
theorem dX10_lay_70 : decode cX10_lay 70 = .ok (.iload 7, 2) := by decide +kernel
theorem dX10_lay_72 : decode cX10_lay 72 = .ok (.invokevirtual 36, 3) := by decide +kernel
theorem dX10_lay_75 : decode cX10_lay 75 = .ok (.istore 10, 2) := by decide +kernel
theorem dX10_lay_77 : decode cX10_lay 77 = .ok (.iload 10, 2) := by decide +kernel
theorem dX10_lay_79 : decode cX10_lay 79 = .ok (.iconst (-1), 1) := by decide +kernel
theorem dX10_lay_80 : decode cX10_lay 80 = .ok (.if_icmp .eq 11, 3) := by decide +kernel
theorem dX10_lay_83 : decode cX10_lay 83 = .ok (.iload 6, 2) := by decide +kernel
theorem dX10_lay_85 : decode cX10_lay 85 = .ok (.istore 7, 2) := by decide +kernel
theorem dX10_lay_87 : decode cX10_lay 87 = .ok (.iload 10, 2) := by decide +kernel
theorem dX10_lay_89 : decode cX10_lay 89 = .ok (.istore 6, 2) := by decide +kernel
theorem dX10_lay_91 : decode cX10_lay 91 = .ok (.aload_n 0, 1) := by decide +kernel
theorem dX10_lay_92 : decode cX10_lay 92 = .ok (.getfield 11, 3) := by decide +kernel
theorem dX10_lay_95 : decode cX10_lay 95 = .ok (.iload 8, 2) := by decide +kernel
theorem dX10_lay_97 : decode cX10_lay 97 = .ok (.iconst 1, 1) := by decide +kernel
theorem dX10_lay_98 : decode cX10_lay 98 = .ok (.iadd, 1) := by decide +kernel
theorem dX10_lay_99 : decode cX10_lay 99 = .ok (.iload 6, 2) := by decide +kernel
theorem dX10_lay_101 : decode cX10_lay 101 = .ok (.iastore, 1) := by decide +kernel
theorem dX10_lay_102 : decode cX10_lay 102 = .ok (.aload_n 0, 1) := by decide +kernel
theorem dX10_lay_103 : decode cX10_lay 103 = .ok (.getfield 15, 3) := by decide +kernel
theorem dX10_lay_106 : decode cX10_lay 106 = .ok (.iload 8, 2) := by decide +kernel
theorem dX10_lay_108 : decode cX10_lay 108 = .ok (.iconst 1, 1) := by decide +kernel
theorem dX10_lay_109 : decode cX10_lay 109 = .ok (.iadd, 1) := by decide +kernel
theorem dX10_lay_110 : decode cX10_lay 110 = .ok (.sipush 1000, 3) := by decide +kernel
theorem dX10_lay_113 : decode cX10_lay 113 = .ok (.aload_n 0, 1) := by decide +kernel
theorem dX10_lay_114 : decode cX10_lay 114 = .ok (.getfield 15, 3) := by decide +kernel
theorem dX10_lay_117 : decode cX10_lay 117 = .ok (.iload 8, 2) := by decide +kernel
theorem dX10_lay_119 : decode cX10_lay 119 = .ok (.iaload, 1) := by decide +kernel
theorem dX10_lay_120 : decode cX10_lay 120 = .ok (.iload 9, 2) := by decide +kernel
theorem dX10_lay_122 : decode cX10_lay 122 = .ok (.invokestatic 28, 3) := by decide +kernel
theorem dX10_lay_125 : decode cX10_lay 125 = .ok (.invokestatic 22, 3) := by decide +kernel
theorem dX10_lay_128 : decode cX10_lay 128 = .ok (.iastore, 1) := by decide +kernel
theorem dX10_lay_129 : decode cX10_lay 129 = .ok (.iinc 8 1, 3) := by decide +kernel
theorem dX10_lay_132 : decode cX10_lay 132 = .ok (.goto (-92), 3) := by decide +kernel
theorem dX10_lay_135 : decode cX10_lay 135 = .ok (.return_, 1) := by decide +kernel
theorem dX10_place_0 : decode cX10_place 0 = .ok (.iload_n 1, 1) := by decide +kernel
theorem dX10_place_1 : decode cX10_place 1 = .ok (.ifCond .lt 20, 3) := by decide +kernel
theorem dX10_place_4 : decode cX10_place 4 = .ok (.iload_n 1, 1) := by decide +kernel
theorem dX10_place_5 : decode cX10_place 5 = .ok (.aload_n 0, 1) := by decide +kernel
theorem dX10_place_6 : decode cX10_place 6 = .ok (.getfield 18, 3) := by decide +kernel
theorem dX10_place_9 : decode cX10_place 9 = .ok (.if_icmp .gt 12, 3) := by decide +kernel
theorem dX10_place_12 : decode cX10_place 12 = .ok (.aload_n 0, 1) := by decide +kernel
theorem dX10_place_13 : decode cX10_place 13 = .ok (.getfield 11, 3) := by decide +kernel
theorem dX10_place_16 : decode cX10_place 16 = .ok (.iload_n 1, 1) := by decide +kernel
theorem dX10_place_17 : decode cX10_place 17 = .ok (.iaload, 1) := by decide +kernel
theorem dX10_place_18 : decode cX10_place 18 = .ok (.goto 4, 3) := by decide +kernel
theorem dX10_place_21 : decode cX10_place 21 = .ok (.iconst (-1), 1) := by decide +kernel
theorem dX10_place_22 : decode cX10_place 22 = .ok (.ireturn, 1) := by decide +kernel
theorem dX10_need_0 : decode cX10_need 0 = .ok (.iload_n 1, 1) := by decide +kernel
theorem dX10_need_1 : decode cX10_need 1 = .ok (.ifCond .lt 20, 3) := by decide +kernel
theorem dX10_need_4 : decode cX10_need 4 = .ok (.iload_n 1, 1) := by decide +kernel
theorem dX10_need_5 : decode cX10_need 5 = .ok (.aload_n 0, 1) := by decide +kernel
theorem dX10_need_6 : decode cX10_need 6 = .ok (.getfield 18, 3) := by decide +kernel
theorem dX10_need_9 : decode cX10_need 9 = .ok (.if_icmp .gt 12, 3) := by decide +kernel
theorem dX10_need_12 : decode cX10_need 12 = .ok (.aload_n 0, 1) := by decide +kernel
theorem dX10_need_13 : decode cX10_need 13 = .ok (.getfield 15, 3) := by decide +kernel
theorem dX10_need_16 : decode cX10_need 16 = .ok (.iload_n 1, 1) := by decide +kernel
theorem dX10_need_17 : decode cX10_need 17 = .ok (.iaload, 1) := by decide +kernel
theorem dX10_need_18 : decode cX10_need 18 = .ok (.goto 6, 3) := by decide +kernel
theorem dX10_need_21 : decode cX10_need 21 = .ok (.sipush 1000, 3) := by decide +kernel
theorem dX10_need_24 : decode cX10_need 24 = .ok (.ireturn, 1) := by decide +kernel
theorem dX10_gone_0 : decode cX10_gone 0 = .ok (.iconst 0, 1) := by decide +kernel
theorem dX10_gone_1 : decode cX10_gone 1 = .ok (.istore_n 3, 1) := by decide +kernel
theorem dX10_gone_2 : decode cX10_gone 2 = .ok (.iload_n 3, 1) := by decide +kernel
theorem dX10_gone_3 : decode cX10_gone 3 = .ok (.iload_n 2, 1) := by decide +kernel
theorem dX10_gone_4 : decode cX10_gone 4 = .ok (.if_icmp .ge 20, 3) := by decide +kernel
theorem dX10_gone_7 : decode cX10_gone 7 = .ok (.aload_n 0, 1) := by decide +kernel
theorem dX10_gone_8 : decode cX10_gone 8 = .ok (.iload_n 3, 1) := by decide +kernel
theorem dX10_gone_9 : decode cX10_gone 9 = .ok (.iconst 1, 1) := by decide +kernel
theorem dX10_gone_10 : decode cX10_gone 10 = .ok (.iadd, 1) := by decide +kernel
theorem dX10_gone_11 : decode cX10_gone 11 = .ok (.invokevirtual 39, 3) := by decide +kernel
theorem dX10_gone_14 : decode cX10_gone 14 = .ok (.iload_n 1, 1) := by decide +kernel
theorem dX10_gone_15 : decode cX10_gone 15 = .ok (.if_icmp .gt 9, 3) := by decide +kernel
theorem dX10_gone_18 : decode cX10_gone 18 = .ok (.iinc 3 1, 3) := by decide +kernel
theorem dX10_gone_21 : decode cX10_gone 21 = .ok (.goto (-19), 3) := by decide +kernel
theorem dX10_gone_24 : decode cX10_gone 24 = .ok (.iload_n 3, 1) := by decide +kernel
theorem dX10_gone_25 : decode cX10_gone 25 = .ok (.ireturn, 1) := by decide +kernel
theorem dX10_placesUpTo_0 : decode cX10_placesUpTo 0 = .ok (.iconst 0, 1) := by decide +kernel
theorem dX10_placesUpTo_1 : decode cX10_placesUpTo 1 = .ok (.istore_n 2, 1) := by decide +kernel
theorem dX10_placesUpTo_2 : decode cX10_placesUpTo 2 = .ok (.iconst 0, 1) := by decide +kernel
theorem dX10_placesUpTo_3 : decode cX10_placesUpTo 3 = .ok (.istore_n 3, 1) := by decide +kernel
theorem dX10_placesUpTo_4 : decode cX10_placesUpTo 4 = .ok (.iload_n 3, 1) := by decide +kernel
theorem dX10_placesUpTo_5 : decode cX10_placesUpTo 5 = .ok (.iload_n 1, 1) := by decide +kernel
theorem dX10_placesUpTo_6 : decode cX10_placesUpTo 6 = .ok (.if_icmp .gt 28, 3) := by decide +kernel
theorem dX10_placesUpTo_9 : decode cX10_placesUpTo 9 = .ok (.iload_n 3, 1) := by decide +kernel
theorem dX10_placesUpTo_10 : decode cX10_placesUpTo 10 = .ok (.aload_n 0, 1) := by decide +kernel
theorem dX10_placesUpTo_11 : decode cX10_placesUpTo 11 = .ok (.getfield 18, 3) := by decide +kernel
theorem dX10_placesUpTo_14 : decode cX10_placesUpTo 14 = .ok (.if_icmp .gt 20, 3) := by decide +kernel
theorem dX10_placesUpTo_17 : decode cX10_placesUpTo 17 = .ok (.iload_n 2, 1) := by decide +kernel
theorem dX10_placesUpTo_18 : decode cX10_placesUpTo 18 = .ok (.iconst 1, 1) := by decide +kernel
theorem dX10_placesUpTo_19 : decode cX10_placesUpTo 19 = .ok (.aload_n 0, 1) := by decide +kernel
theorem dX10_placesUpTo_20 : decode cX10_placesUpTo 20 = .ok (.getfield 11, 3) := by decide +kernel
theorem dX10_placesUpTo_23 : decode cX10_placesUpTo 23 = .ok (.iload_n 3, 1) := by decide +kernel
theorem dX10_placesUpTo_24 : decode cX10_placesUpTo 24 = .ok (.iaload, 1) := by decide +kernel
theorem dX10_placesUpTo_25 : decode cX10_placesUpTo 25 = .ok (.ishl, 1) := by decide +kernel
theorem dX10_placesUpTo_26 : decode cX10_placesUpTo 26 = .ok (.ior, 1) := by decide +kernel
theorem dX10_placesUpTo_27 : decode cX10_placesUpTo 27 = .ok (.istore_n 2, 1) := by decide +kernel
theorem dX10_placesUpTo_28 : decode cX10_placesUpTo 28 = .ok (.iinc 3 1, 3) := by decide +kernel
theorem dX10_placesUpTo_31 : decode cX10_placesUpTo 31 = .ok (.goto (-27), 3) := by decide +kernel
theorem dX10_placesUpTo_34 : decode cX10_placesUpTo 34 = .ok (.iload_n 2, 1) := by decide +kernel
theorem dX10_placesUpTo_35 : decode cX10_placesUpTo 35 = .ok (.ireturn, 1) := by decide +kernel
theorem dX10_ring_0 : decode cX10_ring 0 = .ok (.iconst 1, 1) := by decide +kernel
theorem dX10_ring_1 : decode cX10_ring 1 = .ok (.istore_n 1, 1) := by decide +kernel
theorem dX10_ring_2 : decode cX10_ring 2 = .ok (.bipush 40, 2) := by decide +kernel
theorem dX10_ring_4 : decode cX10_ring 4 = .ok (.iload_n 1, 1) := by decide +kernel
theorem dX10_ring_5 : decode cX10_ring 5 = .ok (.iadd, 1) := by decide +kernel
theorem dX10_ring_6 : decode cX10_ring 6 = .ok (.aload_n 0, 1) := by decide +kernel
theorem dX10_ring_7 : decode cX10_ring 7 = .ok (.getfield 18, 3) := by decide +kernel
theorem dX10_ring_10 : decode cX10_ring 10 = .ok (.if_icmp .gt 47, 3) := by decide +kernel
theorem dX10_ring_13 : decode cX10_ring 13 = .ok (.aload_n 0, 1) := by decide +kernel
theorem dX10_ring_14 : decode cX10_ring 14 = .ok (.bipush 40, 2) := by decide +kernel
theorem dX10_ring_16 : decode cX10_ring 16 = .ok (.iload_n 1, 1) := by decide +kernel
theorem dX10_ring_17 : decode cX10_ring 17 = .ok (.iadd, 1) := by decide +kernel
theorem dX10_ring_18 : decode cX10_ring 18 = .ok (.invokevirtual 43, 3) := by decide +kernel
theorem dX10_ring_21 : decode cX10_ring 21 = .ok (.aload_n 0, 1) := by decide +kernel
theorem dX10_ring_22 : decode cX10_ring 22 = .ok (.bipush 40, 2) := by decide +kernel
theorem dX10_ring_24 : decode cX10_ring 24 = .ok (.invokevirtual 43, 3) := by decide +kernel
theorem dX10_ring_27 : decode cX10_ring 27 = .ok (.if_icmp .ne 24, 3) := by decide +kernel
theorem dX10_ring_30 : decode cX10_ring 30 = .ok (.aload_n 0, 1) := by decide +kernel
theorem dX10_ring_31 : decode cX10_ring 31 = .ok (.bipush 40, 2) := by decide +kernel
theorem dX10_ring_33 : decode cX10_ring 33 = .ok (.iload_n 1, 1) := by decide +kernel
theorem dX10_ring_34 : decode cX10_ring 34 = .ok (.iadd, 1) := by decide +kernel
theorem dX10_ring_35 : decode cX10_ring 35 = .ok (.iconst 1, 1) := by decide +kernel
theorem dX10_ring_36 : decode cX10_ring 36 = .ok (.isub, 1) := by decide +kernel
theorem dX10_ring_37 : decode cX10_ring 37 = .ok (.invokevirtual 43, 3) := by decide +kernel
theorem dX10_ring_40 : decode cX10_ring 40 = .ok (.aload_n 0, 1) := by decide +kernel
theorem dX10_ring_41 : decode cX10_ring 41 = .ok (.bipush 39, 2) := by decide +kernel
theorem dX10_ring_43 : decode cX10_ring 43 = .ok (.invokevirtual 43, 3) := by decide +kernel
theorem dX10_ring_46 : decode cX10_ring 46 = .ok (.if_icmp .ne 5, 3) := by decide +kernel
theorem dX10_ring_49 : decode cX10_ring 49 = .ok (.iload_n 1, 1) := by decide +kernel
theorem dX10_ring_50 : decode cX10_ring 50 = .ok (.ireturn, 1) := by decide +kernel
theorem dX10_ring_51 : decode cX10_ring 51 = .ok (.iinc 1 1, 3) := by decide +kernel
theorem dX10_ring_54 : decode cX10_ring 54 = .ok (.goto (-52), 3) := by decide +kernel
theorem dX10_ring_57 : decode cX10_ring 57 = .ok (.iconst (-1), 1) := by decide +kernel
theorem dX10_ring_58 : decode cX10_ring 58 = .ok (.ireturn, 1) := by decide +kernel
theorem dX10_endsAt_0 : decode cX10_endsAt 0 = .ok (.aload_n 0, 1) := by decide +kernel
theorem dX10_endsAt_1 : decode cX10_endsAt 1 = .ok (.iload_n 1, 1) := by decide +kernel
theorem dX10_endsAt_2 : decode cX10_endsAt 2 = .ok (.invokevirtual 43, 3) := by decide +kernel
theorem dX10_endsAt_5 : decode cX10_endsAt 5 = .ok (.iload_n 2, 1) := by decide +kernel
theorem dX10_endsAt_6 : decode cX10_endsAt 6 = .ok (.if_icmp .ne 22, 3) := by decide +kernel
theorem dX10_endsAt_9 : decode cX10_endsAt 9 = .ok (.aload_n 0, 1) := by decide +kernel
theorem dX10_endsAt_10 : decode cX10_endsAt 10 = .ok (.iload_n 1, 1) := by decide +kernel
theorem dX10_endsAt_11 : decode cX10_endsAt 11 = .ok (.invokevirtual 39, 3) := by decide +kernel
theorem dX10_endsAt_14 : decode cX10_endsAt 14 = .ok (.aload_n 0, 1) := by decide +kernel
theorem dX10_endsAt_15 : decode cX10_endsAt 15 = .ok (.iload_n 1, 1) := by decide +kernel
theorem dX10_endsAt_16 : decode cX10_endsAt 16 = .ok (.iconst 1, 1) := by decide +kernel
theorem dX10_endsAt_17 : decode cX10_endsAt 17 = .ok (.iadd, 1) := by decide +kernel
theorem dX10_endsAt_18 : decode cX10_endsAt 18 = .ok (.invokevirtual 39, 3) := by decide +kernel
theorem dX10_endsAt_21 : decode cX10_endsAt 21 = .ok (.if_icmp .ge 7, 3) := by decide +kernel
theorem dX10_endsAt_24 : decode cX10_endsAt 24 = .ok (.iconst 1, 1) := by decide +kernel
theorem dX10_endsAt_25 : decode cX10_endsAt 25 = .ok (.goto 4, 3) := by decide +kernel
theorem dX10_endsAt_28 : decode cX10_endsAt 28 = .ok (.iconst 0, 1) := by decide +kernel
theorem dX10_endsAt_29 : decode cX10_endsAt 29 = .ok (.ireturn, 1) := by decide +kernel
theorem dX10_leastLess_0 : decode cX10_leastLess 0 = .ok (.iconst (-1), 1) := by decide +kernel
theorem dX10_leastLess_1 : decode cX10_leastLess 1 = .ok (.istore_n 3, 1) := by decide +kernel
theorem dX10_leastLess_2 : decode cX10_leastLess 2 = .ok (.iconst 0, 1) := by decide +kernel
theorem dX10_leastLess_3 : decode cX10_leastLess 3 = .ok (.istore 4, 2) := by decide +kernel
theorem dX10_leastLess_5 : decode cX10_leastLess 5 = .ok (.iload 4, 2) := by decide +kernel
theorem dX10_leastLess_7 : decode cX10_leastLess 7 = .ok (.aload_n 0, 1) := by decide +kernel
theorem dX10_leastLess_8 : decode cX10_leastLess 8 = .ok (.getfield 18, 3) := by decide +kernel
theorem dX10_leastLess_11 : decode cX10_leastLess 11 = .ok (.if_icmp .ge 64, 3) := by decide +kernel
theorem dX10_leastLess_14 : decode cX10_leastLess 14 = .ok (.aload_n 0, 1) := by decide +kernel
theorem dX10_leastLess_15 : decode cX10_leastLess 15 = .ok (.iload 4, 2) := by decide +kernel
theorem dX10_leastLess_17 : decode cX10_leastLess 17 = .ok (.iload_n 2, 1) := by decide +kernel
theorem dX10_leastLess_18 : decode cX10_leastLess 18 = .ok (.invokevirtual 46, 3) := by decide +kernel
theorem dX10_leastLess_21 : decode cX10_leastLess 21 = .ok (.ifCond .eq 48, 3) := by decide +kernel
theorem dX10_leastLess_24 : decode cX10_leastLess 24 = .ok (.aload_n 0, 1) := by decide +kernel
theorem dX10_leastLess_25 : decode cX10_leastLess 25 = .ok (.iload 4, 2) := by decide +kernel
theorem dX10_leastLess_27 : decode cX10_leastLess 27 = .ok (.invokevirtual 39, 3) := by decide +kernel
theorem dX10_leastLess_30 : decode cX10_leastLess 30 = .ok (.iload_n 1, 1) := by decide +kernel
theorem dX10_leastLess_31 : decode cX10_leastLess 31 = .ok (.if_icmp .le 6, 3) := by decide +kernel
theorem dX10_leastLess_34 : decode cX10_leastLess 34 = .ok (.goto 35, 3) := by decide +kernel
theorem dX10_leastLess_37 : decode cX10_leastLess 37 = .ok (.iconst 0, 1) := by decide +kernel
theorem dX10_leastLess_38 : decode cX10_leastLess 38 = .ok (.iload_n 1, 1) := by decide +kernel
theorem dX10_leastLess_39 : decode cX10_leastLess 39 = .ok (.aload_n 0, 1) := by decide +kernel
theorem dX10_leastLess_40 : decode cX10_leastLess 40 = .ok (.iload 4, 2) := by decide +kernel
theorem dX10_leastLess_42 : decode cX10_leastLess 42 = .ok (.iconst 1, 1) := by decide +kernel
theorem dX10_leastLess_43 : decode cX10_leastLess 43 = .ok (.iadd, 1) := by decide +kernel
theorem dX10_leastLess_44 : decode cX10_leastLess 44 = .ok (.invokevirtual 39, 3) := by decide +kernel
theorem dX10_leastLess_47 : decode cX10_leastLess 47 = .ok (.isub, 1) := by decide +kernel
theorem dX10_leastLess_48 : decode cX10_leastLess 48 = .ok (.iconst 1, 1) := by decide +kernel
theorem dX10_leastLess_49 : decode cX10_leastLess 49 = .ok (.iadd, 1) := by decide +kernel
theorem dX10_leastLess_50 : decode cX10_leastLess 50 = .ok (.invokestatic 28, 3) := by decide +kernel
theorem dX10_leastLess_53 : decode cX10_leastLess 53 = .ok (.istore 5, 2) := by decide +kernel
theorem dX10_leastLess_55 : decode cX10_leastLess 55 = .ok (.iload_n 3, 1) := by decide +kernel
theorem dX10_leastLess_56 : decode cX10_leastLess 56 = .ok (.iconst (-1), 1) := by decide +kernel
theorem dX10_leastLess_57 : decode cX10_leastLess 57 = .ok (.if_icmp .eq 9, 3) := by decide +kernel
theorem dX10_leastLess_60 : decode cX10_leastLess 60 = .ok (.iload 5, 2) := by decide +kernel
theorem dX10_leastLess_62 : decode cX10_leastLess 62 = .ok (.iload_n 3, 1) := by decide +kernel
theorem dX10_leastLess_63 : decode cX10_leastLess 63 = .ok (.if_icmp .ge 6, 3) := by decide +kernel
theorem dX10_leastLess_66 : decode cX10_leastLess 66 = .ok (.iload 5, 2) := by decide +kernel
theorem dX10_leastLess_68 : decode cX10_leastLess 68 = .ok (.istore_n 3, 1) := by decide +kernel
theorem dX10_leastLess_69 : decode cX10_leastLess 69 = .ok (.iinc 4 1, 3) := by decide +kernel
theorem dX10_leastLess_72 : decode cX10_leastLess 72 = .ok (.goto (-67), 3) := by decide +kernel
theorem dX10_leastLess_75 : decode cX10_leastLess 75 = .ok (.iload_n 3, 1) := by decide +kernel
theorem dX10_leastLess_76 : decode cX10_leastLess 76 = .ok (.ireturn, 1) := by decide +kernel
theorem dX10_leastMore_0 : decode cX10_leastMore 0 = .ok (.iconst (-1), 1) := by decide +kernel
theorem dX10_leastMore_1 : decode cX10_leastMore 1 = .ok (.istore_n 3, 1) := by decide +kernel
theorem dX10_leastMore_2 : decode cX10_leastMore 2 = .ok (.iconst 0, 1) := by decide +kernel
theorem dX10_leastMore_3 : decode cX10_leastMore 3 = .ok (.istore 4, 2) := by decide +kernel
theorem dX10_leastMore_5 : decode cX10_leastMore 5 = .ok (.iload 4, 2) := by decide +kernel
theorem dX10_leastMore_7 : decode cX10_leastMore 7 = .ok (.aload_n 0, 1) := by decide +kernel
theorem dX10_leastMore_8 : decode cX10_leastMore 8 = .ok (.getfield 18, 3) := by decide +kernel
theorem dX10_leastMore_11 : decode cX10_leastMore 11 = .ok (.if_icmp .ge 62, 3) := by decide +kernel
theorem dX10_leastMore_14 : decode cX10_leastMore 14 = .ok (.aload_n 0, 1) := by decide +kernel
theorem dX10_leastMore_15 : decode cX10_leastMore 15 = .ok (.iload 4, 2) := by decide +kernel
theorem dX10_leastMore_17 : decode cX10_leastMore 17 = .ok (.iload_n 2, 1) := by decide +kernel
theorem dX10_leastMore_18 : decode cX10_leastMore 18 = .ok (.invokevirtual 46, 3) := by decide +kernel
theorem dX10_leastMore_21 : decode cX10_leastMore 21 = .ok (.ifCond .eq 46, 3) := by decide +kernel
theorem dX10_leastMore_24 : decode cX10_leastMore 24 = .ok (.aload_n 0, 1) := by decide +kernel
theorem dX10_leastMore_25 : decode cX10_leastMore 25 = .ok (.iload 4, 2) := by decide +kernel
theorem dX10_leastMore_27 : decode cX10_leastMore 27 = .ok (.iconst 1, 1) := by decide +kernel
theorem dX10_leastMore_28 : decode cX10_leastMore 28 = .ok (.iadd, 1) := by decide +kernel
theorem dX10_leastMore_29 : decode cX10_leastMore 29 = .ok (.invokevirtual 39, 3) := by decide +kernel
theorem dX10_leastMore_32 : decode cX10_leastMore 32 = .ok (.iload_n 1, 1) := by decide +kernel
theorem dX10_leastMore_33 : decode cX10_leastMore 33 = .ok (.if_icmp .gt 6, 3) := by decide +kernel
theorem dX10_leastMore_36 : decode cX10_leastMore 36 = .ok (.goto 31, 3) := by decide +kernel
theorem dX10_leastMore_39 : decode cX10_leastMore 39 = .ok (.iconst 0, 1) := by decide +kernel
theorem dX10_leastMore_40 : decode cX10_leastMore 40 = .ok (.aload_n 0, 1) := by decide +kernel
theorem dX10_leastMore_41 : decode cX10_leastMore 41 = .ok (.iload 4, 2) := by decide +kernel
theorem dX10_leastMore_43 : decode cX10_leastMore 43 = .ok (.invokevirtual 39, 3) := by decide +kernel
theorem dX10_leastMore_46 : decode cX10_leastMore 46 = .ok (.iload_n 1, 1) := by decide +kernel
theorem dX10_leastMore_47 : decode cX10_leastMore 47 = .ok (.isub, 1) := by decide +kernel
theorem dX10_leastMore_48 : decode cX10_leastMore 48 = .ok (.invokestatic 28, 3) := by decide +kernel
theorem dX10_leastMore_51 : decode cX10_leastMore 51 = .ok (.istore 5, 2) := by decide +kernel
theorem dX10_leastMore_53 : decode cX10_leastMore 53 = .ok (.iload_n 3, 1) := by decide +kernel
theorem dX10_leastMore_54 : decode cX10_leastMore 54 = .ok (.iconst (-1), 1) := by decide +kernel
theorem dX10_leastMore_55 : decode cX10_leastMore 55 = .ok (.if_icmp .eq 9, 3) := by decide +kernel
theorem dX10_leastMore_58 : decode cX10_leastMore 58 = .ok (.iload 5, 2) := by decide +kernel
theorem dX10_leastMore_60 : decode cX10_leastMore 60 = .ok (.iload_n 3, 1) := by decide +kernel
theorem dX10_leastMore_61 : decode cX10_leastMore 61 = .ok (.if_icmp .ge 6, 3) := by decide +kernel
theorem dX10_leastMore_64 : decode cX10_leastMore 64 = .ok (.iload 5, 2) := by decide +kernel
theorem dX10_leastMore_66 : decode cX10_leastMore 66 = .ok (.istore_n 3, 1) := by decide +kernel
theorem dX10_leastMore_67 : decode cX10_leastMore 67 = .ok (.iinc 4 1, 3) := by decide +kernel
theorem dX10_leastMore_70 : decode cX10_leastMore 70 = .ok (.goto (-65), 3) := by decide +kernel
theorem dX10_leastMore_73 : decode cX10_leastMore 73 = .ok (.iload_n 3, 1) := by decide +kernel
theorem dX10_leastMore_74 : decode cX10_leastMore 74 = .ok (.ireturn, 1) := by decide +kernel
theorem dX11_init_0 : decode cX11_init 0 = .ok (.aload_n 0, 1) := by decide +kernel
theorem dX11_init_1 : decode cX11_init 1 = .ok (.invokespecial 1, 3) := by decide +kernel
theorem dX11_init_4 : decode cX11_init 4 = .ok (.aload_n 0, 1) := by decide +kernel
theorem dX11_init_5 : decode cX11_init 5 = .ok (.sipush 240, 3) := by decide +kernel
theorem dX11_init_8 : decode cX11_init 8 = .ok (.newarray .int, 2) := by decide +kernel
theorem dX11_init_10 : decode cX11_init 10 = .ok (.putfield 9, 3) := by decide +kernel
theorem dX11_init_13 : decode cX11_init 13 = .ok (.aload_n 0, 1) := by decide +kernel
theorem dX11_init_14 : decode cX11_init 14 = .ok (.iconst 0, 1) := by decide +kernel
theorem dX11_init_15 : decode cX11_init 15 = .ok (.putfield 13, 3) := by decide +kernel
theorem dX11_init_18 : decode cX11_init 18 = .ok (.aload_n 0, 1) := by decide +kernel
theorem dX11_init_19 : decode cX11_init 19 = .ok (.iconst (-1), 1) := by decide +kernel
theorem dX11_init_20 : decode cX11_init 20 = .ok (.putfield 17, 3) := by decide +kernel
theorem dX11_init_23 : decode cX11_init 23 = .ok (.aload_n 0, 1) := by decide +kernel
theorem dX11_init_24 : decode cX11_init 24 = .ok (.new 20, 3) := by decide +kernel
theorem dX11_init_27 : decode cX11_init 27 = .ok (.dup, 1) := by decide +kernel
theorem dX11_init_28 : decode cX11_init 28 = .ok (.invokespecial 22, 3) := by decide +kernel
theorem dX11_init_31 : decode cX11_init 31 = .ok (.putfield 23, 3) := by decide +kernel
theorem dX11_init_34 : decode cX11_init 34 = .ok (.aload_n 0, 1) := by decide +kernel
theorem dX11_init_35 : decode cX11_init 35 = .ok (.new 27, 3) := by decide +kernel
theorem dX11_init_38 : decode cX11_init 38 = .ok (.dup, 1) := by decide +kernel
theorem dX11_init_39 : decode cX11_init 39 = .ok (.invokespecial 29, 3) := by decide +kernel
theorem dX11_init_42 : decode cX11_init 42 = .ok (.putfield 30, 3) := by decide +kernel
theorem dX11_init_45 : decode cX11_init 45 = .ok (.aload_n 0, 1) := by decide +kernel
theorem dX11_init_46 : decode cX11_init 46 = .ok (.new 27, 3) := by decide +kernel
theorem dX11_init_49 : decode cX11_init 49 = .ok (.dup, 1) := by decide +kernel
theorem dX11_init_50 : decode cX11_init 50 = .ok (.invokespecial 29, 3) := by decide +kernel
theorem dX11_init_53 : decode cX11_init 53 = .ok (.putfield 34, 3) := by decide +kernel
theorem dX11_init_56 : decode cX11_init 56 = .ok (.aload_n 0, 1) := by decide +kernel
theorem dX11_init_57 : decode cX11_init 57 = .ok (.new 37, 3) := by decide +kernel
theorem dX11_init_60 : decode cX11_init 60 = .ok (.dup, 1) := by decide +kernel
theorem dX11_init_61 : decode cX11_init 61 = .ok (.invokespecial 39, 3) := by decide +kernel
theorem dX11_init_64 : decode cX11_init 64 = .ok (.putfield 40, 3) := by decide +kernel
theorem dX11_init_67 : decode cX11_init 67 = .ok (.aload_n 0, 1) := by decide +kernel
theorem dX11_init_68 : decode cX11_init 68 = .ok (.iconst 5, 1) := by decide +kernel
theorem dX11_init_69 : decode cX11_init 69 = .ok (.newarray .int, 2) := by decide +kernel
theorem dX11_init_71 : decode cX11_init 71 = .ok (.putfield 44, 3) := by decide +kernel
theorem dX11_init_74 : decode cX11_init 74 = .ok (.aload_n 0, 1) := by decide +kernel
theorem dX11_init_75 : decode cX11_init 75 = .ok (.new 47, 3) := by decide +kernel
theorem dX11_init_78 : decode cX11_init 78 = .ok (.dup, 1) := by decide +kernel
theorem dX11_init_79 : decode cX11_init 79 = .ok (.invokespecial 49, 3) := by decide +kernel
theorem dX11_init_82 : decode cX11_init 82 = .ok (.putfield 50, 3) := by decide +kernel
theorem dX11_init_85 : decode cX11_init 85 = .ok (.aload_n 0, 1) := by decide +kernel
theorem dX11_init_86 : decode cX11_init 86 = .ok (.new 54, 3) := by decide +kernel
theorem dX11_init_89 : decode cX11_init 89 = .ok (.dup, 1) := by decide +kernel
theorem dX11_init_90 : decode cX11_init 90 = .ok (.invokespecial 56, 3) := by decide +kernel
theorem dX11_init_93 : decode cX11_init 93 = .ok (.putfield 57, 3) := by decide +kernel
theorem dX11_init_96 : decode cX11_init 96 = .ok (.aload_n 0, 1) := by decide +kernel
theorem dX11_init_97 : decode cX11_init 97 = .ok (.new 61, 3) := by decide +kernel
theorem dX11_init_100 : decode cX11_init 100 = .ok (.dup, 1) := by decide +kernel
theorem dX11_init_101 : decode cX11_init 101 = .ok (.invokespecial 63, 3) := by decide +kernel
theorem dX11_init_104 : decode cX11_init 104 = .ok (.putfield 64, 3) := by decide +kernel
theorem dX11_init_107 : decode cX11_init 107 = .ok (.aload_n 0, 1) := by decide +kernel
theorem dX11_init_108 : decode cX11_init 108 = .ok (.new 68, 3) := by decide +kernel
theorem dX11_init_111 : decode cX11_init 111 = .ok (.dup, 1) := by decide +kernel
theorem dX11_init_112 : decode cX11_init 112 = .ok (.bipush 6, 2) := by decide +kernel
theorem dX11_init_114 : decode cX11_init 114 = .ok (.invokespecial 70, 3) := by decide +kernel
theorem dX11_init_117 : decode cX11_init 117 = .ok (.putfield 73, 3) := by decide +kernel
theorem dX11_init_120 : decode cX11_init 120 = .ok (.aload_n 0, 1) := by decide +kernel
theorem dX11_init_121 : decode cX11_init 121 = .ok (.new 68, 3) := by decide +kernel
theorem dX11_init_124 : decode cX11_init 124 = .ok (.dup, 1) := by decide +kernel
theorem dX11_init_125 : decode cX11_init 125 = .ok (.bipush 15, 2) := by decide +kernel
theorem dX11_init_127 : decode cX11_init 127 = .ok (.invokespecial 70, 3) := by decide +kernel
theorem dX11_init_130 : decode cX11_init 130 = .ok (.putfield 77, 3) := by decide +kernel
theorem dX11_init_133 : decode cX11_init 133 = .ok (.aload_n 0, 1) := by decide +kernel
theorem dX11_init_134 : decode cX11_init 134 = .ok (.new 80, 3) := by decide +kernel
theorem dX11_init_137 : decode cX11_init 137 = .ok (.dup, 1) := by decide +kernel
theorem dX11_init_138 : decode cX11_init 138 = .ok (.invokespecial 82, 3) := by decide +kernel
theorem dX11_init_141 : decode cX11_init 141 = .ok (.putfield 83, 3) := by decide +kernel
theorem dX11_init_144 : decode cX11_init 144 = .ok (.aload_n 0, 1) := by decide +kernel
theorem dX11_init_145 : decode cX11_init 145 = .ok (.new 87, 3) := by decide +kernel
theorem dX11_init_148 : decode cX11_init 148 = .ok (.dup, 1) := by decide +kernel
theorem dX11_init_149 : decode cX11_init 149 = .ok (.invokespecial 89, 3) := by decide +kernel
theorem dX11_init_152 : decode cX11_init 152 = .ok (.putfield 90, 3) := by decide +kernel
theorem dX11_init_155 : decode cX11_init 155 = .ok (.aload_n 0, 1) := by decide +kernel
theorem dX11_init_156 : decode cX11_init 156 = .ok (.new 94, 3) := by decide +kernel
theorem dX11_init_159 : decode cX11_init 159 = .ok (.dup, 1) := by decide +kernel
theorem dX11_init_160 : decode cX11_init 160 = .ok (.invokespecial 96, 3) := by decide +kernel
theorem dX11_init_163 : decode cX11_init 163 = .ok (.putfield 97, 3) := by decide +kernel
theorem dX11_init_166 : decode cX11_init 166 = .ok (.aload_n 0, 1) := by decide +kernel
theorem dX11_init_167 : decode cX11_init 167 = .ok (.invokevirtual 101, 3) := by decide +kernel
theorem dX11_init_170 : decode cX11_init 170 = .ok (.return_, 1) := by decide +kernel
theorem dX11_feed_0 : decode cX11_feed 0 = .ok (.iload_n 1, 1) := by decide +kernel
theorem dX11_feed_1 : decode cX11_feed 1 = .ok (.ifCond .lt 10, 3) := by decide +kernel
theorem dX11_feed_4 : decode cX11_feed 4 = .ok (.iload_n 1, 1) := by decide +kernel
theorem dX11_feed_5 : decode cX11_feed 5 = .ok (.sipush 255, 3) := by decide +kernel
theorem dX11_feed_8 : decode cX11_feed 8 = .ok (.if_icmp .le 6, 3) := by decide +kernel
theorem dX11_feed_11 : decode cX11_feed 11 = .ok (.ldc 104, 2) := by decide +kernel
theorem dX11_feed_13 : decode cX11_feed 13 = .ok (.ireturn, 1) := by decide +kernel
theorem dX11_feed_14 : decode cX11_feed 14 = .ok (.aload_n 0, 1) := by decide +kernel
theorem dX11_feed_15 : decode cX11_feed 15 = .ok (.getfield 13, 3) := by decide +kernel
theorem dX11_feed_18 : decode cX11_feed 18 = .ok (.ifCond .lt 13, 3) := by decide +kernel
theorem dX11_feed_21 : decode cX11_feed 21 = .ok (.aload_n 0, 1) := by decide +kernel
theorem dX11_feed_22 : decode cX11_feed 22 = .ok (.getfield 13, 3) := by decide +kernel
theorem dX11_feed_25 : decode cX11_feed 25 = .ok (.sipush 240, 3) := by decide +kernel
theorem dX11_feed_28 : decode cX11_feed 28 = .ok (.if_icmp .lt 6, 3) := by decide +kernel
theorem dX11_feed_31 : decode cX11_feed 31 = .ok (.ldc 105, 2) := by decide +kernel
theorem dX11_feed_33 : decode cX11_feed 33 = .ok (.ireturn, 1) := by decide +kernel
theorem dX11_feed_34 : decode cX11_feed 34 = .ok (.aload_n 0, 1) := by decide +kernel
theorem dX11_feed_35 : decode cX11_feed 35 = .ok (.getfield 9, 3) := by decide +kernel
theorem dX11_feed_38 : decode cX11_feed 38 = .ok (.aload_n 0, 1) := by decide +kernel
theorem dX11_feed_39 : decode cX11_feed 39 = .ok (.getfield 13, 3) := by decide +kernel
theorem dX11_feed_42 : decode cX11_feed 42 = .ok (.iload_n 1, 1) := by decide +kernel
theorem dX11_feed_43 : decode cX11_feed 43 = .ok (.iastore, 1) := by decide +kernel
theorem dX11_feed_44 : decode cX11_feed 44 = .ok (.aload_n 0, 1) := by decide +kernel
theorem dX11_feed_45 : decode cX11_feed 45 = .ok (.dup, 1) := by decide +kernel
theorem dX11_feed_46 : decode cX11_feed 46 = .ok (.getfield 13, 3) := by decide +kernel
theorem dX11_feed_49 : decode cX11_feed 49 = .ok (.iconst 1, 1) := by decide +kernel
theorem dX11_feed_50 : decode cX11_feed 50 = .ok (.iadd, 1) := by decide +kernel
theorem dX11_feed_51 : decode cX11_feed 51 = .ok (.putfield 13, 3) := by decide +kernel
theorem dX11_feed_54 : decode cX11_feed 54 = .ok (.aload_n 0, 1) := by decide +kernel
theorem dX11_feed_55 : decode cX11_feed 55 = .ok (.getfield 13, 3) := by decide +kernel
theorem dX11_feed_58 : decode cX11_feed 58 = .ok (.ireturn, 1) := by decide +kernel
theorem dX11_water_0 : decode cX11_water 0 = .ok (.aload_n 0, 1) := by decide +kernel
theorem dX11_water_1 : decode cX11_water 1 = .ok (.getfield 23, 3) := by decide +kernel
theorem dX11_water_4 : decode cX11_water 4 = .ok (.aload_n 0, 1) := by decide +kernel
theorem dX11_water_5 : decode cX11_water 5 = .ok (.getfield 9, 3) := by decide +kernel
theorem dX11_water_8 : decode cX11_water 8 = .ok (.aload_n 0, 1) := by decide +kernel
theorem dX11_water_9 : decode cX11_water 9 = .ok (.getfield 13, 3) := by decide +kernel
theorem dX11_water_12 : decode cX11_water 12 = .ok (.aload_n 0, 1) := by decide +kernel
theorem dX11_water_13 : decode cX11_water 13 = .ok (.getfield 34, 3) := by decide +kernel
theorem dX11_water_16 : decode cX11_water 16 = .ok (.invokevirtual 106, 3) := by decide +kernel
theorem dX11_water_19 : decode cX11_water 19 = .ok (.aload_n 0, 1) := by decide +kernel
theorem dX11_water_20 : decode cX11_water 20 = .ok (.iconst 0, 1) := by decide +kernel
theorem dX11_water_21 : decode cX11_water 21 = .ok (.putfield 13, 3) := by decide +kernel
theorem dX11_water_24 : decode cX11_water 24 = .ok (.aload_n 0, 1) := by decide +kernel
theorem dX11_water_25 : decode cX11_water 25 = .ok (.aload_n 0, 1) := by decide +kernel
theorem dX11_water_26 : decode cX11_water 26 = .ok (.getfield 23, 3) := by decide +kernel
theorem dX11_water_29 : decode cX11_water 29 = .ok (.getfield 110, 3) := by decide +kernel
theorem dX11_water_32 : decode cX11_water 32 = .ok (.putfield 17, 3) := by decide +kernel
theorem dX11_water_35 : decode cX11_water 35 = .ok (.aload_n 0, 1) := by decide +kernel
theorem dX11_water_36 : decode cX11_water 36 = .ok (.getfield 23, 3) := by decide +kernel
theorem dX11_water_39 : decode cX11_water 39 = .ok (.getfield 111, 3) := by decide +kernel
theorem dX11_water_42 : decode cX11_water 42 = .ok (.ifCond .eq 14, 3) := by decide +kernel
theorem dX11_water_45 : decode cX11_water 45 = .ok (.bipush (-10), 2) := by decide +kernel
theorem dX11_water_47 : decode cX11_water 47 = .ok (.aload_n 0, 1) := by decide +kernel
theorem dX11_water_48 : decode cX11_water 48 = .ok (.getfield 23, 3) := by decide +kernel
theorem dX11_water_51 : decode cX11_water 51 = .ok (.getfield 111, 3) := by decide +kernel
theorem dX11_water_54 : decode cX11_water 54 = .ok (.isub, 1) := by decide +kernel
theorem dX11_water_55 : decode cX11_water 55 = .ok (.ireturn, 1) := by decide +kernel
theorem dX11_water_56 : decode cX11_water 56 = .ok (.aload_n 0, 1) := by decide +kernel
theorem dX11_water_57 : decode cX11_water 57 = .ok (.getfield 30, 3) := by decide +kernel
theorem dX11_water_60 : decode cX11_water 60 = .ok (.astore_n 1, 1) := by decide +kernel
theorem dX11_water_61 : decode cX11_water 61 = .ok (.aload_n 0, 1) := by decide +kernel
theorem dX11_water_62 : decode cX11_water 62 = .ok (.aload_n 0, 1) := by decide +kernel
theorem dX11_water_63 : decode cX11_water 63 = .ok (.getfield 34, 3) := by decide +kernel
theorem dX11_water_66 : decode cX11_water 66 = .ok (.putfield 30, 3) := by decide +kernel
theorem dX11_water_69 : decode cX11_water 69 = .ok (.aload_n 0, 1) := by decide +kernel
theorem dX11_water_70 : decode cX11_water 70 = .ok (.aload_n 1, 1) := by decide +kernel
theorem dX11_water_71 : decode cX11_water 71 = .ok (.putfield 34, 3) := by decide +kernel
theorem dX11_water_74 : decode cX11_water 74 = .ok (.aload_n 0, 1) := by decide +kernel
theorem dX11_water_75 : decode cX11_water 75 = .ok (.invokevirtual 114, 3) := by decide +kernel
theorem dX11_water_78 : decode cX11_water 78 = .ok (.aload_n 0, 1) := by decide +kernel
theorem dX11_water_79 : decode cX11_water 79 = .ok (.getfield 30, 3) := by decide +kernel
theorem dX11_water_82 : decode cX11_water 82 = .ok (.getfield 117, 3) := by decide +kernel
theorem dX11_water_85 : decode cX11_water 85 = .ok (.ireturn, 1) := by decide +kernel
theorem dX11_fault_0 : decode cX11_fault 0 = .ok (.aload_n 0, 1) := by decide +kernel
theorem dX11_fault_1 : decode cX11_fault 1 = .ok (.getfield 17, 3) := by decide +kernel
theorem dX11_fault_4 : decode cX11_fault 4 = .ok (.ireturn, 1) := by decide +kernel
theorem dX11_told_0 : decode cX11_told 0 = .ok (.iload_n 1, 1) := by decide +kernel
theorem dX11_told_1 : decode cX11_told 1 = .ok (.tableswitch 140 0 9 #[55, 63, 71, 79, 84, 92, 104, 116, 124, 132], 55) := by decide +kernel
theorem dX11_told_56 : decode cX11_told 56 = .ok (.aload_n 0, 1) := by decide +kernel
theorem dX11_told_57 : decode cX11_told 57 = .ok (.getfield 30, 3) := by decide +kernel
theorem dX11_told_60 : decode cX11_told 60 = .ok (.getfield 120, 3) := by decide +kernel
theorem dX11_told_63 : decode cX11_told 63 = .ok (.ireturn, 1) := by decide +kernel
theorem dX11_told_64 : decode cX11_told 64 = .ok (.aload_n 0, 1) := by decide +kernel
theorem dX11_told_65 : decode cX11_told 65 = .ok (.getfield 30, 3) := by decide +kernel
theorem dX11_told_68 : decode cX11_told 68 = .ok (.getfield 123, 3) := by decide +kernel
theorem dX11_told_71 : decode cX11_told 71 = .ok (.ireturn, 1) := by decide +kernel
theorem dX11_told_72 : decode cX11_told 72 = .ok (.aload_n 0, 1) := by decide +kernel
theorem dX11_told_73 : decode cX11_told 73 = .ok (.getfield 30, 3) := by decide +kernel
theorem dX11_told_76 : decode cX11_told 76 = .ok (.getfield 117, 3) := by decide +kernel
theorem dX11_told_79 : decode cX11_told 79 = .ok (.ireturn, 1) := by decide +kernel
theorem dX11_told_80 : decode cX11_told 80 = .ok (.aload_n 0, 1) := by decide +kernel
theorem dX11_told_81 : decode cX11_told 81 = .ok (.getfield 13, 3) := by decide +kernel
theorem dX11_told_84 : decode cX11_told 84 = .ok (.ireturn, 1) := by decide +kernel
theorem dX11_told_85 : decode cX11_told 85 = .ok (.aload_n 0, 1) := by decide +kernel
theorem dX11_told_86 : decode cX11_told 86 = .ok (.getfield 40, 3) := by decide +kernel
theorem dX11_told_89 : decode cX11_told 89 = .ok (.invokevirtual 126, 3) := by decide +kernel
theorem dX11_told_92 : decode cX11_told 92 = .ok (.ireturn, 1) := by decide +kernel
theorem dX11_told_93 : decode cX11_told 93 = .ok (.aload_n 0, 1) := by decide +kernel
theorem dX11_told_94 : decode cX11_told 94 = .ok (.getfield 40, 3) := by decide +kernel
theorem dX11_told_97 : decode cX11_told 97 = .ok (.aload_n 0, 1) := by decide +kernel
theorem dX11_told_98 : decode cX11_told 98 = .ok (.getfield 30, 3) := by decide +kernel
theorem dX11_told_101 : decode cX11_told 101 = .ok (.invokevirtual 130, 3) := by decide +kernel
theorem dX11_told_104 : decode cX11_told 104 = .ok (.ireturn, 1) := by decide +kernel
theorem dX11_told_105 : decode cX11_told 105 = .ok (.aload_n 0, 1) := by decide +kernel
theorem dX11_told_106 : decode cX11_told 106 = .ok (.getfield 40, 3) := by decide +kernel
theorem dX11_told_109 : decode cX11_told 109 = .ok (.aload_n 0, 1) := by decide +kernel
theorem dX11_told_110 : decode cX11_told 110 = .ok (.getfield 30, 3) := by decide +kernel
theorem dX11_told_113 : decode cX11_told 113 = .ok (.invokevirtual 134, 3) := by decide +kernel
theorem dX11_told_116 : decode cX11_told 116 = .ok (.ireturn, 1) := by decide +kernel
theorem dX11_told_117 : decode cX11_told 117 = .ok (.aload_n 0, 1) := by decide +kernel
theorem dX11_told_118 : decode cX11_told 118 = .ok (.getfield 73, 3) := by decide +kernel
theorem dX11_told_121 : decode cX11_told 121 = .ok (.getfield 137, 3) := by decide +kernel
theorem dX11_told_124 : decode cX11_told 124 = .ok (.ireturn, 1) := by decide +kernel
theorem dX11_told_125 : decode cX11_told 125 = .ok (.aload_n 0, 1) := by decide +kernel
theorem dX11_told_126 : decode cX11_told 126 = .ok (.getfield 77, 3) := by decide +kernel
theorem dX11_told_129 : decode cX11_told 129 = .ok (.getfield 137, 3) := by decide +kernel
theorem dX11_told_132 : decode cX11_told 132 = .ok (.ireturn, 1) := by decide +kernel
theorem dX11_told_133 : decode cX11_told 133 = .ok (.aload_n 0, 1) := by decide +kernel
theorem dX11_told_134 : decode cX11_told 134 = .ok (.getfield 50, 3) := by decide +kernel
theorem dX11_told_137 : decode cX11_told 137 = .ok (.getfield 140, 3) := by decide +kernel
theorem dX11_told_140 : decode cX11_told 140 = .ok (.ireturn, 1) := by decide +kernel
theorem dX11_told_141 : decode cX11_told 141 = .ok (.ldc 104, 2) := by decide +kernel
theorem dX11_told_143 : decode cX11_told 143 = .ok (.ireturn, 1) := by decide +kernel
theorem dX11_cut_0 : decode cX11_cut 0 = .ok (.aload_n 0, 1) := by decide +kernel
theorem dX11_cut_1 : decode cX11_cut 1 = .ok (.getfield 30, 3) := by decide +kernel
theorem dX11_cut_4 : decode cX11_cut 4 = .ok (.iload_n 1, 1) := by decide +kernel
theorem dX11_cut_5 : decode cX11_cut 5 = .ok (.invokevirtual 141, 3) := by decide +kernel
theorem dX11_cut_8 : decode cX11_cut 8 = .ok (.ifCond .ne 6, 3) := by decide +kernel
theorem dX11_cut_11 : decode cX11_cut 11 = .ok (.ldc 145, 2) := by decide +kernel
theorem dX11_cut_13 : decode cX11_cut 13 = .ok (.ireturn, 1) := by decide +kernel
theorem dX11_cut_14 : decode cX11_cut 14 = .ok (.iload_n 2, 1) := by decide +kernel
theorem dX11_cut_15 : decode cX11_cut 15 = .ok (.tableswitch 55 0 2 #[25, 35, 45], 25) := by decide +kernel
theorem dX11_cut_40 : decode cX11_cut 40 = .ok (.aload_n 0, 1) := by decide +kernel
theorem dX11_cut_41 : decode cX11_cut 41 = .ok (.getfield 30, 3) := by decide +kernel
theorem dX11_cut_44 : decode cX11_cut 44 = .ok (.getfield 146, 3) := by decide +kernel
theorem dX11_cut_47 : decode cX11_cut 47 = .ok (.iload_n 1, 1) := by decide +kernel
theorem dX11_cut_48 : decode cX11_cut 48 = .ok (.iaload, 1) := by decide +kernel
theorem dX11_cut_49 : decode cX11_cut 49 = .ok (.ireturn, 1) := by decide +kernel
theorem dX11_cut_50 : decode cX11_cut 50 = .ok (.aload_n 0, 1) := by decide +kernel
theorem dX11_cut_51 : decode cX11_cut 51 = .ok (.getfield 30, 3) := by decide +kernel
theorem dX11_cut_54 : decode cX11_cut 54 = .ok (.getfield 149, 3) := by decide +kernel
theorem dX11_cut_57 : decode cX11_cut 57 = .ok (.iload_n 1, 1) := by decide +kernel
theorem dX11_cut_58 : decode cX11_cut 58 = .ok (.iaload, 1) := by decide +kernel
theorem dX11_cut_59 : decode cX11_cut 59 = .ok (.ireturn, 1) := by decide +kernel
theorem dX11_cut_60 : decode cX11_cut 60 = .ok (.aload_n 0, 1) := by decide +kernel
theorem dX11_cut_61 : decode cX11_cut 61 = .ok (.getfield 30, 3) := by decide +kernel
theorem dX11_cut_64 : decode cX11_cut 64 = .ok (.getfield 152, 3) := by decide +kernel
theorem dX11_cut_67 : decode cX11_cut 67 = .ok (.iload_n 1, 1) := by decide +kernel
theorem dX11_cut_68 : decode cX11_cut 68 = .ok (.iaload, 1) := by decide +kernel
theorem dX11_cut_69 : decode cX11_cut 69 = .ok (.ireturn, 1) := by decide +kernel
theorem dX11_cut_70 : decode cX11_cut 70 = .ok (.ldc 104, 2) := by decide +kernel
theorem dX11_cut_72 : decode cX11_cut 72 = .ok (.ireturn, 1) := by decide +kernel
theorem dX11_boat_0 : decode cX11_boat 0 = .ok (.aload_n 0, 1) := by decide +kernel
theorem dX11_boat_1 : decode cX11_boat 1 = .ok (.getfield 30, 3) := by decide +kernel
theorem dX11_boat_4 : decode cX11_boat 4 = .ok (.iload_n 1, 1) := by decide +kernel
theorem dX11_boat_5 : decode cX11_boat 5 = .ok (.invokevirtual 155, 3) := by decide +kernel
theorem dX11_boat_8 : decode cX11_boat 8 = .ok (.ifCond .ne 6, 3) := by decide +kernel
theorem dX11_boat_11 : decode cX11_boat 11 = .ok (.ldc 145, 2) := by decide +kernel
theorem dX11_boat_13 : decode cX11_boat 13 = .ok (.ireturn, 1) := by decide +kernel
theorem dX11_boat_14 : decode cX11_boat 14 = .ok (.iload_n 2, 1) := by decide +kernel
theorem dX11_boat_15 : decode cX11_boat 15 = .ok (.tableswitch 89 0 5 #[37, 46, 55, 64, 73, 82], 37) := by decide +kernel
theorem dX11_boat_52 : decode cX11_boat 52 = .ok (.aload_n 0, 1) := by decide +kernel
theorem dX11_boat_53 : decode cX11_boat 53 = .ok (.getfield 40, 3) := by decide +kernel
theorem dX11_boat_56 : decode cX11_boat 56 = .ok (.iload_n 1, 1) := by decide +kernel
theorem dX11_boat_57 : decode cX11_boat 57 = .ok (.invokevirtual 158, 3) := by decide +kernel
theorem dX11_boat_60 : decode cX11_boat 60 = .ok (.ireturn, 1) := by decide +kernel
theorem dX11_boat_61 : decode cX11_boat 61 = .ok (.aload_n 0, 1) := by decide +kernel
theorem dX11_boat_62 : decode cX11_boat 62 = .ok (.getfield 40, 3) := by decide +kernel
theorem dX11_boat_65 : decode cX11_boat 65 = .ok (.iload_n 1, 1) := by decide +kernel
theorem dX11_boat_66 : decode cX11_boat 66 = .ok (.invokevirtual 162, 3) := by decide +kernel
theorem dX11_boat_69 : decode cX11_boat 69 = .ok (.ireturn, 1) := by decide +kernel
theorem dX11_boat_70 : decode cX11_boat 70 = .ok (.aload_n 0, 1) := by decide +kernel
theorem dX11_boat_71 : decode cX11_boat 71 = .ok (.getfield 40, 3) := by decide +kernel
theorem dX11_boat_74 : decode cX11_boat 74 = .ok (.iload_n 1, 1) := by decide +kernel
theorem dX11_boat_75 : decode cX11_boat 75 = .ok (.invokevirtual 165, 3) := by decide +kernel
theorem dX11_boat_78 : decode cX11_boat 78 = .ok (.ireturn, 1) := by decide +kernel
theorem dX11_boat_79 : decode cX11_boat 79 = .ok (.aload_n 0, 1) := by decide +kernel
theorem dX11_boat_80 : decode cX11_boat 80 = .ok (.getfield 30, 3) := by decide +kernel
theorem dX11_boat_83 : decode cX11_boat 83 = .ok (.iload_n 1, 1) := by decide +kernel
theorem dX11_boat_84 : decode cX11_boat 84 = .ok (.invokevirtual 168, 3) := by decide +kernel
theorem dX11_boat_87 : decode cX11_boat 87 = .ok (.ireturn, 1) := by decide +kernel
theorem dX11_boat_88 : decode cX11_boat 88 = .ok (.aload_n 0, 1) := by decide +kernel
theorem dX11_boat_89 : decode cX11_boat 89 = .ok (.getfield 40, 3) := by decide +kernel
theorem dX11_boat_92 : decode cX11_boat 92 = .ok (.iload_n 1, 1) := by decide +kernel
theorem dX11_boat_93 : decode cX11_boat 93 = .ok (.invokevirtual 171, 3) := by decide +kernel
theorem dX11_boat_96 : decode cX11_boat 96 = .ok (.ireturn, 1) := by decide +kernel
theorem dX11_boat_97 : decode cX11_boat 97 = .ok (.aload_n 0, 1) := by decide +kernel
theorem dX11_boat_98 : decode cX11_boat 98 = .ok (.getfield 44, 3) := by decide +kernel
theorem dX11_boat_101 : decode cX11_boat 101 = .ok (.iload_n 1, 1) := by decide +kernel
theorem dX11_boat_102 : decode cX11_boat 102 = .ok (.iaload, 1) := by decide +kernel
theorem dX11_boat_103 : decode cX11_boat 103 = .ok (.ireturn, 1) := by decide +kernel
theorem dX11_boat_104 : decode cX11_boat 104 = .ok (.ldc 104, 2) := by decide +kernel
theorem dX11_boat_106 : decode cX11_boat 106 = .ok (.ireturn, 1) := by decide +kernel
theorem dX11_step_0 : decode cX11_step 0 = .ok (.aload_n 0, 1) := by decide +kernel
theorem dX11_step_1 : decode cX11_step 1 = .ok (.iload_n 1, 1) := by decide +kernel
theorem dX11_step_2 : decode cX11_step 2 = .ok (.invokevirtual 174, 3) := by decide +kernel
theorem dX11_step_5 : decode cX11_step 5 = .ok (.istore_n 2, 1) := by decide +kernel
theorem dX11_step_6 : decode cX11_step 6 = .ok (.iload_n 2, 1) := by decide +kernel
theorem dX11_step_7 : decode cX11_step 7 = .ok (.ifCond .eq 5, 3) := by decide +kernel
theorem dX11_step_10 : decode cX11_step 10 = .ok (.iload_n 2, 1) := by decide +kernel
theorem dX11_step_11 : decode cX11_step 11 = .ok (.ireturn, 1) := by decide +kernel
theorem dX11_step_12 : decode cX11_step 12 = .ok (.aload_n 0, 1) := by decide +kernel
theorem dX11_step_13 : decode cX11_step 13 = .ok (.getfield 50, 3) := by decide +kernel
theorem dX11_step_16 : decode cX11_step 16 = .ok (.aload_n 0, 1) := by decide +kernel
theorem dX11_step_17 : decode cX11_step 17 = .ok (.getfield 40, 3) := by decide +kernel
theorem dX11_step_20 : decode cX11_step 20 = .ok (.invokevirtual 177, 3) := by decide +kernel
theorem dX11_step_23 : decode cX11_step 23 = .ok (.iconst 0, 1) := by decide +kernel
theorem dX11_step_24 : decode cX11_step 24 = .ok (.istore_n 3, 1) := by decide +kernel
theorem dX11_step_25 : decode cX11_step 25 = .ok (.iload_n 3, 1) := by decide +kernel
theorem dX11_step_26 : decode cX11_step 26 = .ok (.iload_n 1, 1) := by decide +kernel
theorem dX11_step_27 : decode cX11_step 27 = .ok (.if_icmp .ge 20, 3) := by decide +kernel
theorem dX11_step_30 : decode cX11_step 30 = .ok (.aload_n 0, 1) := by decide +kernel
theorem dX11_step_31 : decode cX11_step 31 = .ok (.getfield 40, 3) := by decide +kernel
theorem dX11_step_34 : decode cX11_step 34 = .ok (.aload_n 0, 1) := by decide +kernel
theorem dX11_step_35 : decode cX11_step 35 = .ok (.getfield 30, 3) := by decide +kernel
theorem dX11_step_38 : decode cX11_step 38 = .ok (.invokevirtual 181, 3) := by decide +kernel
theorem dX11_step_41 : decode cX11_step 41 = .ok (.iinc 3 1, 3) := by decide +kernel
theorem dX11_step_44 : decode cX11_step 44 = .ok (.goto (-19), 3) := by decide +kernel
theorem dX11_step_47 : decode cX11_step 47 = .ok (.aload_n 0, 1) := by decide +kernel
theorem dX11_step_48 : decode cX11_step 48 = .ok (.getfield 40, 3) := by decide +kernel
theorem dX11_step_51 : decode cX11_step 51 = .ok (.aload_n 0, 1) := by decide +kernel
theorem dX11_step_52 : decode cX11_step 52 = .ok (.getfield 30, 3) := by decide +kernel
theorem dX11_step_55 : decode cX11_step 55 = .ok (.invokevirtual 130, 3) := by decide +kernel
theorem dX11_step_58 : decode cX11_step 58 = .ok (.ireturn, 1) := by decide +kernel
theorem dX11_forgive_0 : decode cX11_forgive 0 = .ok (.aload_n 0, 1) := by decide +kernel
theorem dX11_forgive_1 : decode cX11_forgive 1 = .ok (.getfield 30, 3) := by decide +kernel
theorem dX11_forgive_4 : decode cX11_forgive 4 = .ok (.iload_n 1, 1) := by decide +kernel
theorem dX11_forgive_5 : decode cX11_forgive 5 = .ok (.invokevirtual 155, 3) := by decide +kernel
theorem dX11_forgive_8 : decode cX11_forgive 8 = .ok (.ifCond .ne 6, 3) := by decide +kernel
theorem dX11_forgive_11 : decode cX11_forgive 11 = .ok (.ldc 145, 2) := by decide +kernel
theorem dX11_forgive_13 : decode cX11_forgive 13 = .ok (.ireturn, 1) := by decide +kernel
theorem dX11_forgive_14 : decode cX11_forgive 14 = .ok (.iload_n 2, 1) := by decide +kernel
theorem dX11_forgive_15 : decode cX11_forgive 15 = .ok (.iconst 1, 1) := by decide +kernel
theorem dX11_forgive_16 : decode cX11_forgive 16 = .ok (.if_icmp .lt 10, 3) := by decide +kernel
theorem dX11_forgive_19 : decode cX11_forgive 19 = .ok (.iload_n 2, 1) := by decide +kernel
theorem dX11_forgive_20 : decode cX11_forgive 20 = .ok (.sipush 999, 3) := by decide +kernel
theorem dX11_forgive_23 : decode cX11_forgive 23 = .ok (.if_icmp .le 6, 3) := by decide +kernel
theorem dX11_forgive_26 : decode cX11_forgive 26 = .ok (.ldc 104, 2) := by decide +kernel
theorem dX11_forgive_28 : decode cX11_forgive 28 = .ok (.ireturn, 1) := by decide +kernel
theorem dX11_forgive_29 : decode cX11_forgive 29 = .ok (.aload_n 0, 1) := by decide +kernel
theorem dX11_forgive_30 : decode cX11_forgive 30 = .ok (.getfield 50, 3) := by decide +kernel
theorem dX11_forgive_33 : decode cX11_forgive 33 = .ok (.aload_n 0, 1) := by decide +kernel
theorem dX11_forgive_34 : decode cX11_forgive 34 = .ok (.getfield 40, 3) := by decide +kernel
theorem dX11_forgive_37 : decode cX11_forgive 37 = .ok (.invokevirtual 177, 3) := by decide +kernel
theorem dX11_forgive_40 : decode cX11_forgive 40 = .ok (.aload_n 0, 1) := by decide +kernel
theorem dX11_forgive_41 : decode cX11_forgive 41 = .ok (.getfield 40, 3) := by decide +kernel
theorem dX11_forgive_44 : decode cX11_forgive 44 = .ok (.iload_n 1, 1) := by decide +kernel
theorem dX11_forgive_45 : decode cX11_forgive 45 = .ok (.iload_n 2, 1) := by decide +kernel
theorem dX11_forgive_46 : decode cX11_forgive 46 = .ok (.invokevirtual 185, 3) := by decide +kernel
theorem dX11_forgive_49 : decode cX11_forgive 49 = .ok (.aload_n 0, 1) := by decide +kernel
theorem dX11_forgive_50 : decode cX11_forgive 50 = .ok (.getfield 40, 3) := by decide +kernel
theorem dX11_forgive_53 : decode cX11_forgive 53 = .ok (.iload_n 1, 1) := by decide +kernel
theorem dX11_forgive_54 : decode cX11_forgive 54 = .ok (.invokevirtual 165, 3) := by decide +kernel
theorem dX11_forgive_57 : decode cX11_forgive 57 = .ok (.ireturn, 1) := by decide +kernel
theorem dX11_weigh_0 : decode cX11_weigh 0 = .ok (.aload_n 0, 1) := by decide +kernel
theorem dX11_weigh_1 : decode cX11_weigh 1 = .ok (.getfield 30, 3) := by decide +kernel
theorem dX11_weigh_4 : decode cX11_weigh 4 = .ok (.iload_n 1, 1) := by decide +kernel
theorem dX11_weigh_5 : decode cX11_weigh 5 = .ok (.invokevirtual 155, 3) := by decide +kernel
theorem dX11_weigh_8 : decode cX11_weigh 8 = .ok (.ifCond .ne 6, 3) := by decide +kernel
theorem dX11_weigh_11 : decode cX11_weigh 11 = .ok (.ldc 145, 2) := by decide +kernel
theorem dX11_weigh_13 : decode cX11_weigh 13 = .ok (.ireturn, 1) := by decide +kernel
theorem dX11_weigh_14 : decode cX11_weigh 14 = .ok (.iload_n 2, 1) := by decide +kernel
theorem dX11_weigh_15 : decode cX11_weigh 15 = .ok (.iconst 1, 1) := by decide +kernel
theorem dX11_weigh_16 : decode cX11_weigh 16 = .ok (.if_icmp .lt 10, 3) := by decide +kernel
theorem dX11_weigh_19 : decode cX11_weigh 19 = .ok (.iload_n 2, 1) := by decide +kernel
theorem dX11_weigh_20 : decode cX11_weigh 20 = .ok (.sipush 999, 3) := by decide +kernel
theorem dX11_weigh_23 : decode cX11_weigh 23 = .ok (.if_icmp .le 6, 3) := by decide +kernel
theorem dX11_weigh_26 : decode cX11_weigh 26 = .ok (.ldc 104, 2) := by decide +kernel
theorem dX11_weigh_28 : decode cX11_weigh 28 = .ok (.ireturn, 1) := by decide +kernel
theorem dX11_weigh_29 : decode cX11_weigh 29 = .ok (.aload_n 0, 1) := by decide +kernel
theorem dX11_weigh_30 : decode cX11_weigh 30 = .ok (.getfield 50, 3) := by decide +kernel
theorem dX11_weigh_33 : decode cX11_weigh 33 = .ok (.aload_n 0, 1) := by decide +kernel
theorem dX11_weigh_34 : decode cX11_weigh 34 = .ok (.getfield 40, 3) := by decide +kernel
theorem dX11_weigh_37 : decode cX11_weigh 37 = .ok (.invokevirtual 177, 3) := by decide +kernel
theorem dX11_weigh_40 : decode cX11_weigh 40 = .ok (.aload_n 0, 1) := by decide +kernel
theorem dX11_weigh_41 : decode cX11_weigh 41 = .ok (.getfield 40, 3) := by decide +kernel
theorem dX11_weigh_44 : decode cX11_weigh 44 = .ok (.iload_n 1, 1) := by decide +kernel
theorem dX11_weigh_45 : decode cX11_weigh 45 = .ok (.iload_n 2, 1) := by decide +kernel
theorem dX11_weigh_46 : decode cX11_weigh 46 = .ok (.invokevirtual 189, 3) := by decide +kernel
theorem dX11_weigh_49 : decode cX11_weigh 49 = .ok (.aload_n 0, 1) := by decide +kernel
theorem dX11_weigh_50 : decode cX11_weigh 50 = .ok (.getfield 40, 3) := by decide +kernel
theorem dX11_weigh_53 : decode cX11_weigh 53 = .ok (.iload_n 1, 1) := by decide +kernel
theorem dX11_weigh_54 : decode cX11_weigh 54 = .ok (.invokevirtual 165, 3) := by decide +kernel
theorem dX11_weigh_57 : decode cX11_weigh 57 = .ok (.ireturn, 1) := by decide +kernel
theorem dX11_change_0 : decode cX11_change 0 = .ok (.aload_n 0, 1) := by decide +kernel
theorem dX11_change_1 : decode cX11_change 1 = .ok (.getfield 30, 3) := by decide +kernel
theorem dX11_change_4 : decode cX11_change 4 = .ok (.iload_n 1, 1) := by decide +kernel
theorem dX11_change_5 : decode cX11_change 5 = .ok (.invokevirtual 155, 3) := by decide +kernel
theorem dX11_change_8 : decode cX11_change 8 = .ok (.ifCond .eq 19, 3) := by decide +kernel
theorem dX11_change_11 : decode cX11_change 11 = .ok (.aload_n 0, 1) := by decide +kernel
theorem dX11_change_12 : decode cX11_change 12 = .ok (.getfield 30, 3) := by decide +kernel
theorem dX11_change_15 : decode cX11_change 15 = .ok (.iload_n 2, 1) := by decide +kernel
theorem dX11_change_16 : decode cX11_change 16 = .ok (.invokevirtual 155, 3) := by decide +kernel
theorem dX11_change_19 : decode cX11_change 19 = .ok (.ifCond .eq 8, 3) := by decide +kernel
theorem dX11_change_22 : decode cX11_change 22 = .ok (.iload_n 1, 1) := by decide +kernel
theorem dX11_change_23 : decode cX11_change 23 = .ok (.iload_n 2, 1) := by decide +kernel
theorem dX11_change_24 : decode cX11_change 24 = .ok (.if_icmp .ne 6, 3) := by decide +kernel
theorem dX11_change_27 : decode cX11_change 27 = .ok (.ldc 145, 2) := by decide +kernel
theorem dX11_change_29 : decode cX11_change 29 = .ok (.ireturn, 1) := by decide +kernel
theorem dX11_change_30 : decode cX11_change 30 = .ok (.aload_n 0, 1) := by decide +kernel
theorem dX11_change_31 : decode cX11_change 31 = .ok (.getfield 50, 3) := by decide +kernel
theorem dX11_change_34 : decode cX11_change 34 = .ok (.aload_n 0, 1) := by decide +kernel
theorem dX11_change_35 : decode cX11_change 35 = .ok (.getfield 40, 3) := by decide +kernel
theorem dX11_change_38 : decode cX11_change 38 = .ok (.invokevirtual 177, 3) := by decide +kernel
theorem dX11_change_41 : decode cX11_change 41 = .ok (.aload_n 0, 1) := by decide +kernel
theorem dX11_change_42 : decode cX11_change 42 = .ok (.getfield 40, 3) := by decide +kernel
theorem dX11_change_45 : decode cX11_change 45 = .ok (.iload_n 1, 1) := by decide +kernel
theorem dX11_change_46 : decode cX11_change 46 = .ok (.iload_n 2, 1) := by decide +kernel
theorem dX11_change_47 : decode cX11_change 47 = .ok (.invokevirtual 192, 3) := by decide +kernel
theorem dX11_change_50 : decode cX11_change 50 = .ok (.aload_n 0, 1) := by decide +kernel
theorem dX11_change_51 : decode cX11_change 51 = .ok (.getfield 40, 3) := by decide +kernel
theorem dX11_change_54 : decode cX11_change 54 = .ok (.iload_n 1, 1) := by decide +kernel
theorem dX11_change_55 : decode cX11_change 55 = .ok (.invokevirtual 165, 3) := by decide +kernel
theorem dX11_change_58 : decode cX11_change 58 = .ok (.ireturn, 1) := by decide +kernel
theorem dX11_turn_0 : decode cX11_turn 0 = .ok (.aload_n 0, 1) := by decide +kernel
theorem dX11_turn_1 : decode cX11_turn 1 = .ok (.getfield 30, 3) := by decide +kernel
theorem dX11_turn_4 : decode cX11_turn 4 = .ok (.iload_n 1, 1) := by decide +kernel
theorem dX11_turn_5 : decode cX11_turn 5 = .ok (.invokevirtual 155, 3) := by decide +kernel
theorem dX11_turn_8 : decode cX11_turn 8 = .ok (.ifCond .ne 6, 3) := by decide +kernel
theorem dX11_turn_11 : decode cX11_turn 11 = .ok (.ldc 145, 2) := by decide +kernel
theorem dX11_turn_13 : decode cX11_turn 13 = .ok (.ireturn, 1) := by decide +kernel
theorem dX11_turn_14 : decode cX11_turn 14 = .ok (.aload_n 0, 1) := by decide +kernel
theorem dX11_turn_15 : decode cX11_turn 15 = .ok (.getfield 50, 3) := by decide +kernel
theorem dX11_turn_18 : decode cX11_turn 18 = .ok (.aload_n 0, 1) := by decide +kernel
theorem dX11_turn_19 : decode cX11_turn 19 = .ok (.getfield 40, 3) := by decide +kernel
theorem dX11_turn_22 : decode cX11_turn 22 = .ok (.invokevirtual 177, 3) := by decide +kernel
theorem dX11_turn_25 : decode cX11_turn 25 = .ok (.aload_n 0, 1) := by decide +kernel
theorem dX11_turn_26 : decode cX11_turn 26 = .ok (.getfield 40, 3) := by decide +kernel
theorem dX11_turn_29 : decode cX11_turn 29 = .ok (.iload_n 1, 1) := by decide +kernel
theorem dX11_turn_30 : decode cX11_turn 30 = .ok (.invokevirtual 162, 3) := by decide +kernel
theorem dX11_turn_33 : decode cX11_turn 33 = .ok (.istore_n 2, 1) := by decide +kernel
theorem dX11_turn_34 : decode cX11_turn 34 = .ok (.aload_n 0, 1) := by decide +kernel
theorem dX11_turn_35 : decode cX11_turn 35 = .ok (.getfield 40, 3) := by decide +kernel
theorem dX11_turn_38 : decode cX11_turn 38 = .ok (.iload_n 1, 1) := by decide +kernel
theorem dX11_turn_39 : decode cX11_turn 39 = .ok (.invokevirtual 195, 3) := by decide +kernel
theorem dX11_turn_42 : decode cX11_turn 42 = .ok (.iload_n 2, 1) := by decide +kernel
theorem dX11_turn_43 : decode cX11_turn 43 = .ok (.ireturn, 1) := by decide +kernel
theorem dX11_drift_0 : decode cX11_drift 0 = .ok (.aload_n 0, 1) := by decide +kernel
theorem dX11_drift_1 : decode cX11_drift 1 = .ok (.iload_n 1, 1) := by decide +kernel
theorem dX11_drift_2 : decode cX11_drift 2 = .ok (.invokevirtual 174, 3) := by decide +kernel
theorem dX11_drift_5 : decode cX11_drift 5 = .ok (.istore_n 2, 1) := by decide +kernel
theorem dX11_drift_6 : decode cX11_drift 6 = .ok (.iload_n 2, 1) := by decide +kernel
theorem dX11_drift_7 : decode cX11_drift 7 = .ok (.ifCond .eq 5, 3) := by decide +kernel
theorem dX11_drift_10 : decode cX11_drift 10 = .ok (.iload_n 2, 1) := by decide +kernel
theorem dX11_drift_11 : decode cX11_drift 11 = .ok (.ireturn, 1) := by decide +kernel
theorem dX11_drift_12 : decode cX11_drift 12 = .ok (.aload_n 0, 1) := by decide +kernel
theorem dX11_drift_13 : decode cX11_drift 13 = .ok (.getfield 50, 3) := by decide +kernel
theorem dX11_drift_16 : decode cX11_drift 16 = .ok (.aload_n 0, 1) := by decide +kernel
theorem dX11_drift_17 : decode cX11_drift 17 = .ok (.getfield 40, 3) := by decide +kernel
theorem dX11_drift_20 : decode cX11_drift 20 = .ok (.invokevirtual 177, 3) := by decide +kernel
theorem dX11_drift_23 : decode cX11_drift 23 = .ok (.iconst 0, 1) := by decide +kernel
theorem dX11_drift_24 : decode cX11_drift 24 = .ok (.istore_n 3, 1) := by decide +kernel
theorem dX11_drift_25 : decode cX11_drift 25 = .ok (.iload_n 3, 1) := by decide +kernel
theorem dX11_drift_26 : decode cX11_drift 26 = .ok (.iload_n 1, 1) := by decide +kernel
theorem dX11_drift_27 : decode cX11_drift 27 = .ok (.if_icmp .ge 34, 3) := by decide +kernel
theorem dX11_drift_30 : decode cX11_drift 30 = .ok (.aload_n 0, 1) := by decide +kernel
theorem dX11_drift_31 : decode cX11_drift 31 = .ok (.getfield 30, 3) := by decide +kernel
theorem dX11_drift_34 : decode cX11_drift 34 = .ok (.getfield 117, 3) := by decide +kernel
theorem dX11_drift_37 : decode cX11_drift 37 = .ok (.ifCond .le 7, 3) := by decide +kernel
theorem dX11_drift_40 : decode cX11_drift 40 = .ok (.aload_n 0, 1) := by decide +kernel
theorem dX11_drift_41 : decode cX11_drift 41 = .ok (.invokevirtual 198, 3) := by decide +kernel
theorem dX11_drift_44 : decode cX11_drift 44 = .ok (.aload_n 0, 1) := by decide +kernel
theorem dX11_drift_45 : decode cX11_drift 45 = .ok (.getfield 40, 3) := by decide +kernel
theorem dX11_drift_48 : decode cX11_drift 48 = .ok (.aload_n 0, 1) := by decide +kernel
theorem dX11_drift_49 : decode cX11_drift 49 = .ok (.getfield 30, 3) := by decide +kernel
theorem dX11_drift_52 : decode cX11_drift 52 = .ok (.invokevirtual 181, 3) := by decide +kernel
theorem dX11_drift_55 : decode cX11_drift 55 = .ok (.iinc 3 1, 3) := by decide +kernel
theorem dX11_drift_58 : decode cX11_drift 58 = .ok (.goto (-33), 3) := by decide +kernel
theorem dX11_drift_61 : decode cX11_drift 61 = .ok (.aload_n 0, 1) := by decide +kernel
theorem dX11_drift_62 : decode cX11_drift 62 = .ok (.getfield 40, 3) := by decide +kernel
theorem dX11_drift_65 : decode cX11_drift 65 = .ok (.aload_n 0, 1) := by decide +kernel
theorem dX11_drift_66 : decode cX11_drift 66 = .ok (.getfield 30, 3) := by decide +kernel
theorem dX11_drift_69 : decode cX11_drift 69 = .ok (.invokevirtual 130, 3) := by decide +kernel
theorem dX11_drift_72 : decode cX11_drift 72 = .ok (.ireturn, 1) := by decide +kernel
theorem dX11_undo_0 : decode cX11_undo 0 = .ok (.aload_n 0, 1) := by decide +kernel
theorem dX11_undo_1 : decode cX11_undo 1 = .ok (.getfield 50, 3) := by decide +kernel
theorem dX11_undo_4 : decode cX11_undo 4 = .ok (.getfield 140, 3) := by decide +kernel
theorem dX11_undo_7 : decode cX11_undo 7 = .ok (.iconst 1, 1) := by decide +kernel
theorem dX11_undo_8 : decode cX11_undo 8 = .ok (.if_icmp .ge 6, 3) := by decide +kernel
theorem dX11_undo_11 : decode cX11_undo 11 = .ok (.ldc 201, 2) := by decide +kernel
theorem dX11_undo_13 : decode cX11_undo 13 = .ok (.ireturn, 1) := by decide +kernel
theorem dX11_undo_14 : decode cX11_undo 14 = .ok (.aload_n 0, 1) := by decide +kernel
theorem dX11_undo_15 : decode cX11_undo 15 = .ok (.getfield 50, 3) := by decide +kernel
theorem dX11_undo_18 : decode cX11_undo 18 = .ok (.aload_n 0, 1) := by decide +kernel
theorem dX11_undo_19 : decode cX11_undo 19 = .ok (.getfield 40, 3) := by decide +kernel
theorem dX11_undo_22 : decode cX11_undo 22 = .ok (.invokevirtual 202, 3) := by decide +kernel
theorem dX11_undo_25 : decode cX11_undo 25 = .ok (.aload_n 0, 1) := by decide +kernel
theorem dX11_undo_26 : decode cX11_undo 26 = .ok (.getfield 50, 3) := by decide +kernel
theorem dX11_undo_29 : decode cX11_undo 29 = .ok (.getfield 140, 3) := by decide +kernel
theorem dX11_undo_32 : decode cX11_undo 32 = .ok (.ireturn, 1) := by decide +kernel
theorem dX11_quay_0 : decode cX11_quay 0 = .ok (.aload_n 0, 1) := by decide +kernel
theorem dX11_quay_1 : decode cX11_quay 1 = .ok (.getfield 30, 3) := by decide +kernel
theorem dX11_quay_4 : decode cX11_quay 4 = .ok (.iload_n 1, 1) := by decide +kernel
theorem dX11_quay_5 : decode cX11_quay 5 = .ok (.invokevirtual 155, 3) := by decide +kernel
theorem dX11_quay_8 : decode cX11_quay 8 = .ok (.ifCond .eq 19, 3) := by decide +kernel
theorem dX11_quay_11 : decode cX11_quay 11 = .ok (.iload_n 2, 1) := by decide +kernel
theorem dX11_quay_12 : decode cX11_quay 12 = .ok (.iconst (-1), 1) := by decide +kernel
theorem dX11_quay_13 : decode cX11_quay 13 = .ok (.if_icmp .eq 17, 3) := by decide +kernel
theorem dX11_quay_16 : decode cX11_quay 16 = .ok (.aload_n 0, 1) := by decide +kernel
theorem dX11_quay_17 : decode cX11_quay 17 = .ok (.getfield 30, 3) := by decide +kernel
theorem dX11_quay_20 : decode cX11_quay 20 = .ok (.iload_n 2, 1) := by decide +kernel
theorem dX11_quay_21 : decode cX11_quay 21 = .ok (.invokevirtual 205, 3) := by decide +kernel
theorem dX11_quay_24 : decode cX11_quay 24 = .ok (.ifCond .ne 6, 3) := by decide +kernel
theorem dX11_quay_27 : decode cX11_quay 27 = .ok (.ldc 145, 2) := by decide +kernel
theorem dX11_quay_29 : decode cX11_quay 29 = .ok (.ireturn, 1) := by decide +kernel
theorem dX11_quay_30 : decode cX11_quay 30 = .ok (.aload_n 0, 1) := by decide +kernel
theorem dX11_quay_31 : decode cX11_quay 31 = .ok (.getfield 44, 3) := by decide +kernel
theorem dX11_quay_34 : decode cX11_quay 34 = .ok (.iload_n 1, 1) := by decide +kernel
theorem dX11_quay_35 : decode cX11_quay 35 = .ok (.iaload, 1) := by decide +kernel
theorem dX11_quay_36 : decode cX11_quay 36 = .ok (.istore_n 3, 1) := by decide +kernel
theorem dX11_quay_37 : decode cX11_quay 37 = .ok (.aload_n 0, 1) := by decide +kernel
theorem dX11_quay_38 : decode cX11_quay 38 = .ok (.getfield 44, 3) := by decide +kernel
theorem dX11_quay_41 : decode cX11_quay 41 = .ok (.iload_n 1, 1) := by decide +kernel
theorem dX11_quay_42 : decode cX11_quay 42 = .ok (.iload_n 2, 1) := by decide +kernel
theorem dX11_quay_43 : decode cX11_quay 43 = .ok (.iastore, 1) := by decide +kernel
theorem dX11_quay_44 : decode cX11_quay 44 = .ok (.iload_n 3, 1) := by decide +kernel
theorem dX11_quay_45 : decode cX11_quay 45 = .ok (.ireturn, 1) := by decide +kernel
theorem dX11_where_0 : decode cX11_where 0 = .ok (.aload_n 0, 1) := by decide +kernel
theorem dX11_where_1 : decode cX11_where 1 = .ok (.getfield 30, 3) := by decide +kernel
theorem dX11_where_4 : decode cX11_where 4 = .ok (.iload_n 1, 1) := by decide +kernel
theorem dX11_where_5 : decode cX11_where 5 = .ok (.invokevirtual 155, 3) := by decide +kernel
theorem dX11_where_8 : decode cX11_where 8 = .ok (.ifCond .ne 6, 3) := by decide +kernel
theorem dX11_where_11 : decode cX11_where 11 = .ok (.ldc 145, 2) := by decide +kernel
theorem dX11_where_13 : decode cX11_where 13 = .ok (.ireturn, 1) := by decide +kernel
theorem dX11_where_14 : decode cX11_where 14 = .ok (.iload_n 2, 1) := by decide +kernel
theorem dX11_where_15 : decode cX11_where 15 = .ok (.ifCond .lt 18, 3) := by decide +kernel
theorem dX11_where_18 : decode cX11_where 18 = .ok (.iload_n 2, 1) := by decide +kernel
theorem dX11_where_19 : decode cX11_where 19 = .ok (.bipush 60, 2) := by decide +kernel
theorem dX11_where_21 : decode cX11_where 21 = .ok (.if_icmp .gt 12, 3) := by decide +kernel
theorem dX11_where_24 : decode cX11_where 24 = .ok (.iload_n 3, 1) := by decide +kernel
theorem dX11_where_25 : decode cX11_where 25 = .ok (.ifCond .lt 8, 3) := by decide +kernel
theorem dX11_where_28 : decode cX11_where 28 = .ok (.iload_n 3, 1) := by decide +kernel
theorem dX11_where_29 : decode cX11_where 29 = .ok (.iconst 1, 1) := by decide +kernel
theorem dX11_where_30 : decode cX11_where 30 = .ok (.if_icmp .le 6, 3) := by decide +kernel
theorem dX11_where_33 : decode cX11_where 33 = .ok (.ldc 104, 2) := by decide +kernel
theorem dX11_where_35 : decode cX11_where 35 = .ok (.ireturn, 1) := by decide +kernel
theorem dX11_where_36 : decode cX11_where 36 = .ok (.aload_n 0, 1) := by decide +kernel
theorem dX11_where_37 : decode cX11_where 37 = .ok (.iload_n 1, 1) := by decide +kernel
theorem dX11_where_38 : decode cX11_where 38 = .ok (.iload_n 2, 1) := by decide +kernel
theorem dX11_where_39 : decode cX11_where 39 = .ok (.invokevirtual 208, 3) := by decide +kernel
theorem dX11_where_42 : decode cX11_where 42 = .ok (.aload_n 0, 1) := by decide +kernel
theorem dX11_where_43 : decode cX11_where 43 = .ok (.getfield 83, 3) := by decide +kernel
theorem dX11_where_46 : decode cX11_where 46 = .ok (.aload_n 0, 1) := by decide +kernel
theorem dX11_where_47 : decode cX11_where 47 = .ok (.getfield 40, 3) := by decide +kernel
theorem dX11_where_50 : decode cX11_where 50 = .ok (.iload_n 1, 1) := by decide +kernel
theorem dX11_where_51 : decode cX11_where 51 = .ok (.invokevirtual 165, 3) := by decide +kernel
theorem dX11_where_54 : decode cX11_where 54 = .ok (.iload_n 2, 1) := by decide +kernel
theorem dX11_where_55 : decode cX11_where 55 = .ok (.invokevirtual 211, 3) := by decide +kernel
theorem dX11_where_58 : decode cX11_where 58 = .ok (.istore 4, 2) := by decide +kernel
theorem dX11_where_60 : decode cX11_where 60 = .ok (.iload_n 3, 1) := by decide +kernel
theorem dX11_where_61 : decode cX11_where 61 = .ok (.ifCond .ne 13, 3) := by decide +kernel
theorem dX11_where_64 : decode cX11_where 64 = .ok (.aload_n 0, 1) := by decide +kernel
theorem dX11_where_65 : decode cX11_where 65 = .ok (.getfield 83, 3) := by decide +kernel
theorem dX11_where_68 : decode cX11_where 68 = .ok (.iload 4, 2) := by decide +kernel
theorem dX11_where_70 : decode cX11_where 70 = .ok (.invokevirtual 215, 3) := by decide +kernel
theorem dX11_where_73 : decode cX11_where 73 = .ok (.ireturn, 1) := by decide +kernel
theorem dX11_where_74 : decode cX11_where 74 = .ok (.iconst 0, 1) := by decide +kernel
theorem dX11_where_75 : decode cX11_where 75 = .ok (.aload_n 0, 1) := by decide +kernel
theorem dX11_where_76 : decode cX11_where 76 = .ok (.getfield 40, 3) := by decide +kernel
theorem dX11_where_79 : decode cX11_where 79 = .ok (.iload_n 1, 1) := by decide +kernel
theorem dX11_where_80 : decode cX11_where 80 = .ok (.invokevirtual 165, 3) := by decide +kernel
theorem dX11_where_83 : decode cX11_where 83 = .ok (.iload 4, 2) := by decide +kernel
theorem dX11_where_85 : decode cX11_where 85 = .ok (.aload_n 0, 1) := by decide +kernel
theorem dX11_where_86 : decode cX11_where 86 = .ok (.getfield 30, 3) := by decide +kernel
theorem dX11_where_89 : decode cX11_where 89 = .ok (.iload_n 1, 1) := by decide +kernel
theorem dX11_where_90 : decode cX11_where 90 = .ok (.invokevirtual 168, 3) := by decide +kernel
theorem dX11_where_93 : decode cX11_where 93 = .ok (.imul, 1) := by decide +kernel
theorem dX11_where_94 : decode cX11_where 94 = .ok (.isub, 1) := by decide +kernel
theorem dX11_where_95 : decode cX11_where 95 = .ok (.invokestatic 218, 3) := by decide +kernel
theorem dX11_where_98 : decode cX11_where 98 = .ok (.ireturn, 1) := by decide +kernel
theorem dX11_sits_0 : decode cX11_sits 0 = .ok (.aload_n 0, 1) := by decide +kernel
theorem dX11_sits_1 : decode cX11_sits 1 = .ok (.getfield 30, 3) := by decide +kernel
theorem dX11_sits_4 : decode cX11_sits 4 = .ok (.iload_n 1, 1) := by decide +kernel
theorem dX11_sits_5 : decode cX11_sits 5 = .ok (.invokevirtual 155, 3) := by decide +kernel
theorem dX11_sits_8 : decode cX11_sits 8 = .ok (.ifCond .ne 6, 3) := by decide +kernel
theorem dX11_sits_11 : decode cX11_sits 11 = .ok (.ldc 145, 2) := by decide +kernel
theorem dX11_sits_13 : decode cX11_sits 13 = .ok (.ireturn, 1) := by decide +kernel
theorem dX11_sits_14 : decode cX11_sits 14 = .ok (.aload_n 0, 1) := by decide +kernel
theorem dX11_sits_15 : decode cX11_sits 15 = .ok (.iload_n 1, 1) := by decide +kernel
theorem dX11_sits_16 : decode cX11_sits 16 = .ok (.sipush 201, 3) := by decide +kernel
theorem dX11_sits_19 : decode cX11_sits 19 = .ok (.invokevirtual 208, 3) := by decide +kernel
theorem dX11_sits_22 : decode cX11_sits 22 = .ok (.aload_n 0, 1) := by decide +kernel
theorem dX11_sits_23 : decode cX11_sits 23 = .ok (.getfield 83, 3) := by decide +kernel
theorem dX11_sits_26 : decode cX11_sits 26 = .ok (.aload_n 0, 1) := by decide +kernel
theorem dX11_sits_27 : decode cX11_sits 27 = .ok (.getfield 40, 3) := by decide +kernel
theorem dX11_sits_30 : decode cX11_sits 30 = .ok (.iload_n 1, 1) := by decide +kernel
theorem dX11_sits_31 : decode cX11_sits 31 = .ok (.invokevirtual 165, 3) := by decide +kernel
theorem dX11_sits_34 : decode cX11_sits 34 = .ok (.sipush 201, 3) := by decide +kernel
theorem dX11_sits_37 : decode cX11_sits 37 = .ok (.invokevirtual 211, 3) := by decide +kernel
theorem dX11_sits_40 : decode cX11_sits 40 = .ok (.istore_n 2, 1) := by decide +kernel
theorem dX11_sits_41 : decode cX11_sits 41 = .ok (.iload_n 2, 1) := by decide +kernel
theorem dX11_sits_42 : decode cX11_sits 42 = .ok (.sipush 200, 3) := by decide +kernel
theorem dX11_sits_45 : decode cX11_sits 45 = .ok (.if_icmp .le 7, 3) := by decide +kernel
theorem dX11_sits_48 : decode cX11_sits 48 = .ok (.iconst (-1), 1) := by decide +kernel
theorem dX11_sits_49 : decode cX11_sits 49 = .ok (.goto 4, 3) := by decide +kernel
theorem dX11_sits_52 : decode cX11_sits 52 = .ok (.iload_n 2, 1) := by decide +kernel
theorem dX11_sits_53 : decode cX11_sits 53 = .ok (.ireturn, 1) := by decide +kernel
theorem dX11_round_0 : decode cX11_round 0 = .ok (.aload_n 0, 1) := by decide +kernel
theorem dX11_round_1 : decode cX11_round 1 = .ok (.getfield 30, 3) := by decide +kernel
theorem dX11_round_4 : decode cX11_round 4 = .ok (.iload_n 1, 1) := by decide +kernel
theorem dX11_round_5 : decode cX11_round 5 = .ok (.invokevirtual 155, 3) := by decide +kernel
theorem dX11_round_8 : decode cX11_round 8 = .ok (.ifCond .ne 6, 3) := by decide +kernel
theorem dX11_round_11 : decode cX11_round 11 = .ok (.ldc 145, 2) := by decide +kernel
theorem dX11_round_13 : decode cX11_round 13 = .ok (.ireturn, 1) := by decide +kernel
theorem dX11_round_14 : decode cX11_round 14 = .ok (.aload_n 0, 1) := by decide +kernel
theorem dX11_round_15 : decode cX11_round 15 = .ok (.getfield 83, 3) := by decide +kernel
theorem dX11_round_18 : decode cX11_round 18 = .ok (.aload_n 0, 1) := by decide +kernel
theorem dX11_round_19 : decode cX11_round 19 = .ok (.getfield 30, 3) := by decide +kernel
theorem dX11_round_22 : decode cX11_round 22 = .ok (.aload_n 0, 1) := by decide +kernel
theorem dX11_round_23 : decode cX11_round 23 = .ok (.getfield 40, 3) := by decide +kernel
theorem dX11_round_26 : decode cX11_round 26 = .ok (.iload_n 1, 1) := by decide +kernel
theorem dX11_round_27 : decode cX11_round 27 = .ok (.invokevirtual 158, 3) := by decide +kernel
theorem dX11_round_30 : decode cX11_round 30 = .ok (.aload_n 0, 1) := by decide +kernel
theorem dX11_round_31 : decode cX11_round 31 = .ok (.getfield 40, 3) := by decide +kernel
theorem dX11_round_34 : decode cX11_round 34 = .ok (.iload_n 1, 1) := by decide +kernel
theorem dX11_round_35 : decode cX11_round 35 = .ok (.invokevirtual 162, 3) := by decide +kernel
theorem dX11_round_38 : decode cX11_round 38 = .ok (.iconst 0, 1) := by decide +kernel
theorem dX11_round_39 : decode cX11_round 39 = .ok (.bipush 100, 2) := by decide +kernel
theorem dX11_round_41 : decode cX11_round 41 = .ok (.invokevirtual 223, 3) := by decide +kernel
theorem dX11_round_44 : decode cX11_round 44 = .ok (.aload_n 0, 1) := by decide +kernel
theorem dX11_round_45 : decode cX11_round 45 = .ok (.getfield 83, 3) := by decide +kernel
theorem dX11_round_48 : decode cX11_round 48 = .ok (.aload_n 0, 1) := by decide +kernel
theorem dX11_round_49 : decode cX11_round 49 = .ok (.getfield 40, 3) := by decide +kernel
theorem dX11_round_52 : decode cX11_round 52 = .ok (.iload_n 1, 1) := by decide +kernel
theorem dX11_round_53 : decode cX11_round 53 = .ok (.invokevirtual 165, 3) := by decide +kernel
theorem dX11_round_56 : decode cX11_round 56 = .ok (.bipush 100, 2) := by decide +kernel
theorem dX11_round_58 : decode cX11_round 58 = .ok (.invokevirtual 211, 3) := by decide +kernel
theorem dX11_round_61 : decode cX11_round 61 = .ok (.bipush 100, 2) := by decide +kernel
theorem dX11_round_63 : decode cX11_round 63 = .ok (.if_icmp .ge 5, 3) := by decide +kernel
theorem dX11_round_66 : decode cX11_round 66 = .ok (.iconst (-1), 1) := by decide +kernel
theorem dX11_round_67 : decode cX11_round 67 = .ok (.ireturn, 1) := by decide +kernel
theorem dX11_round_68 : decode cX11_round 68 = .ok (.aload_n 0, 1) := by decide +kernel
theorem dX11_round_69 : decode cX11_round 69 = .ok (.getfield 83, 3) := by decide +kernel
theorem dX11_round_72 : decode cX11_round 72 = .ok (.invokevirtual 227, 3) := by decide +kernel
theorem dX11_round_75 : decode cX11_round 75 = .ok (.ireturn, 1) := by decide +kernel
theorem dX11_least_0 : decode cX11_least 0 = .ok (.aload_n 0, 1) := by decide +kernel
theorem dX11_least_1 : decode cX11_least 1 = .ok (.getfield 30, 3) := by decide +kernel
theorem dX11_least_4 : decode cX11_least 4 = .ok (.iload_n 1, 1) := by decide +kernel
theorem dX11_least_5 : decode cX11_least 5 = .ok (.invokevirtual 155, 3) := by decide +kernel
theorem dX11_least_8 : decode cX11_least 8 = .ok (.ifCond .eq 14, 3) := by decide +kernel
theorem dX11_least_11 : decode cX11_least 11 = .ok (.aload_n 0, 1) := by decide +kernel
theorem dX11_least_12 : decode cX11_least 12 = .ok (.getfield 30, 3) := by decide +kernel
theorem dX11_least_15 : decode cX11_least 15 = .ok (.iload_n 2, 1) := by decide +kernel
theorem dX11_least_16 : decode cX11_least 16 = .ok (.invokevirtual 205, 3) := by decide +kernel
theorem dX11_least_19 : decode cX11_least 19 = .ok (.ifCond .ne 6, 3) := by decide +kernel
theorem dX11_least_22 : decode cX11_least 22 = .ok (.ldc 145, 2) := by decide +kernel
theorem dX11_least_24 : decode cX11_least 24 = .ok (.ireturn, 1) := by decide +kernel
theorem dX11_least_25 : decode cX11_least 25 = .ok (.iload_n 3, 1) := by decide +kernel
theorem dX11_least_26 : decode cX11_least 26 = .ok (.ifCond .lt 8, 3) := by decide +kernel
theorem dX11_least_29 : decode cX11_least 29 = .ok (.iload_n 3, 1) := by decide +kernel
theorem dX11_least_30 : decode cX11_least 30 = .ok (.iconst 1, 1) := by decide +kernel
theorem dX11_least_31 : decode cX11_least 31 = .ok (.if_icmp .le 6, 3) := by decide +kernel
theorem dX11_least_34 : decode cX11_least 34 = .ok (.ldc 104, 2) := by decide +kernel
theorem dX11_least_36 : decode cX11_least 36 = .ok (.ireturn, 1) := by decide +kernel
theorem dX11_least_37 : decode cX11_least 37 = .ok (.aload_n 0, 1) := by decide +kernel
theorem dX11_least_38 : decode cX11_least 38 = .ok (.iload_n 1, 1) := by decide +kernel
theorem dX11_least_39 : decode cX11_least 39 = .ok (.sipush 201, 3) := by decide +kernel
theorem dX11_least_42 : decode cX11_least 42 = .ok (.invokevirtual 208, 3) := by decide +kernel
theorem dX11_least_45 : decode cX11_least 45 = .ok (.iload_n 3, 1) := by decide +kernel
theorem dX11_least_46 : decode cX11_least 46 = .ok (.ifCond .ne 22, 3) := by decide +kernel
theorem dX11_least_49 : decode cX11_least 49 = .ok (.aload_n 0, 1) := by decide +kernel
theorem dX11_least_50 : decode cX11_least 50 = .ok (.getfield 83, 3) := by decide +kernel
theorem dX11_least_53 : decode cX11_least 53 = .ok (.aload_n 0, 1) := by decide +kernel
theorem dX11_least_54 : decode cX11_least 54 = .ok (.getfield 40, 3) := by decide +kernel
theorem dX11_least_57 : decode cX11_least 57 = .ok (.iload_n 1, 1) := by decide +kernel
theorem dX11_least_58 : decode cX11_least 58 = .ok (.invokevirtual 165, 3) := by decide +kernel
theorem dX11_least_61 : decode cX11_least 61 = .ok (.iload_n 2, 1) := by decide +kernel
theorem dX11_least_62 : decode cX11_least 62 = .ok (.invokevirtual 230, 3) := by decide +kernel
theorem dX11_least_65 : decode cX11_least 65 = .ok (.goto 19, 3) := by decide +kernel
theorem dX11_least_68 : decode cX11_least 68 = .ok (.aload_n 0, 1) := by decide +kernel
theorem dX11_least_69 : decode cX11_least 69 = .ok (.getfield 83, 3) := by decide +kernel
theorem dX11_least_72 : decode cX11_least 72 = .ok (.aload_n 0, 1) := by decide +kernel
theorem dX11_least_73 : decode cX11_least 73 = .ok (.getfield 40, 3) := by decide +kernel
theorem dX11_least_76 : decode cX11_least 76 = .ok (.iload_n 1, 1) := by decide +kernel
theorem dX11_least_77 : decode cX11_least 77 = .ok (.invokevirtual 165, 3) := by decide +kernel
theorem dX11_least_80 : decode cX11_least 80 = .ok (.iload_n 2, 1) := by decide +kernel
theorem dX11_least_81 : decode cX11_least 81 = .ok (.invokevirtual 233, 3) := by decide +kernel
theorem dX11_least_84 : decode cX11_least 84 = .ok (.ireturn, 1) := by decide +kernel
theorem dX11_changes_0 : decode cX11_changes 0 = .ok (.iload_n 2, 1) := by decide +kernel
theorem dX11_changes_1 : decode cX11_changes 1 = .ok (.iconst (-1), 1) := by decide +kernel
theorem dX11_changes_2 : decode cX11_changes 2 = .ok (.if_icmp .eq 17, 3) := by decide +kernel
theorem dX11_changes_5 : decode cX11_changes 5 = .ok (.aload_n 0, 1) := by decide +kernel
theorem dX11_changes_6 : decode cX11_changes 6 = .ok (.getfield 30, 3) := by decide +kernel
theorem dX11_changes_9 : decode cX11_changes 9 = .ok (.iload_n 2, 1) := by decide +kernel
theorem dX11_changes_10 : decode cX11_changes 10 = .ok (.invokevirtual 155, 3) := by decide +kernel
theorem dX11_changes_13 : decode cX11_changes 13 = .ok (.ifCond .ne 6, 3) := by decide +kernel
theorem dX11_changes_16 : decode cX11_changes 16 = .ok (.ldc 145, 2) := by decide +kernel
theorem dX11_changes_18 : decode cX11_changes 18 = .ok (.ireturn, 1) := by decide +kernel
theorem dX11_changes_19 : decode cX11_changes 19 = .ok (.iload_n 1, 1) := by decide +kernel
theorem dX11_changes_20 : decode cX11_changes 20 = .ok (.ifCond .lt 9, 3) := by decide +kernel
theorem dX11_changes_23 : decode cX11_changes 23 = .ok (.iload_n 1, 1) := by decide +kernel
theorem dX11_changes_24 : decode cX11_changes 24 = .ok (.bipush 60, 2) := by decide +kernel
theorem dX11_changes_26 : decode cX11_changes 26 = .ok (.if_icmp .le 6, 3) := by decide +kernel
theorem dX11_changes_29 : decode cX11_changes 29 = .ok (.ldc 104, 2) := by decide +kernel
theorem dX11_changes_31 : decode cX11_changes 31 = .ok (.ireturn, 1) := by decide +kernel
theorem dX11_changes_32 : decode cX11_changes 32 = .ok (.aload_n 0, 1) := by decide +kernel
theorem dX11_changes_33 : decode cX11_changes 33 = .ok (.getfield 97, 3) := by decide +kernel
theorem dX11_changes_36 : decode cX11_changes 36 = .ok (.aload_n 0, 1) := by decide +kernel
theorem dX11_changes_37 : decode cX11_changes 37 = .ok (.getfield 30, 3) := by decide +kernel
theorem dX11_changes_40 : decode cX11_changes 40 = .ok (.getfield 117, 3) := by decide +kernel
theorem dX11_changes_43 : decode cX11_changes 43 = .ok (.invokevirtual 236, 3) := by decide +kernel
theorem dX11_changes_46 : decode cX11_changes 46 = .ok (.iconst 0, 1) := by decide +kernel
theorem dX11_changes_47 : decode cX11_changes 47 = .ok (.istore_n 3, 1) := by decide +kernel
theorem dX11_changes_48 : decode cX11_changes 48 = .ok (.iload_n 3, 1) := by decide +kernel
theorem dX11_changes_49 : decode cX11_changes 49 = .ok (.aload_n 0, 1) := by decide +kernel
theorem dX11_changes_50 : decode cX11_changes 50 = .ok (.getfield 30, 3) := by decide +kernel
theorem dX11_changes_53 : decode cX11_changes 53 = .ok (.getfield 117, 3) := by decide +kernel
theorem dX11_changes_56 : decode cX11_changes 56 = .ok (.if_icmp .ge 15, 3) := by decide +kernel
theorem dX11_changes_59 : decode cX11_changes 59 = .ok (.aload_n 0, 1) := by decide +kernel
theorem dX11_changes_60 : decode cX11_changes 60 = .ok (.iload_n 3, 1) := by decide +kernel
theorem dX11_changes_61 : decode cX11_changes 61 = .ok (.iload_n 1, 1) := by decide +kernel
theorem dX11_changes_62 : decode cX11_changes 62 = .ok (.invokevirtual 239, 3) := by decide +kernel
theorem dX11_changes_65 : decode cX11_changes 65 = .ok (.iinc 3 1, 3) := by decide +kernel
theorem dX11_changes_68 : decode cX11_changes 68 = .ok (.goto (-20), 3) := by decide +kernel
theorem dX11_changes_71 : decode cX11_changes 71 = .ok (.aload_n 0, 1) := by decide +kernel
theorem dX11_changes_72 : decode cX11_changes 72 = .ok (.getfield 97, 3) := by decide +kernel
theorem dX11_changes_75 : decode cX11_changes 75 = .ok (.invokevirtual 242, 3) := by decide +kernel
theorem dX11_changes_78 : decode cX11_changes 78 = .ok (.iload_n 2, 1) := by decide +kernel
theorem dX11_changes_79 : decode cX11_changes 79 = .ok (.iconst (-1), 1) := by decide +kernel
theorem dX11_changes_80 : decode cX11_changes 80 = .ok (.if_icmp .ne 13, 3) := by decide +kernel
theorem dX11_changes_83 : decode cX11_changes 83 = .ok (.aload_n 0, 1) := by decide +kernel
theorem dX11_changes_84 : decode cX11_changes 84 = .ok (.getfield 97, 3) := by decide +kernel
theorem dX11_changes_87 : decode cX11_changes 87 = .ok (.getfield 245, 3) := by decide +kernel
theorem dX11_changes_90 : decode cX11_changes 90 = .ok (.goto 11, 3) := by decide +kernel
theorem dX11_changes_93 : decode cX11_changes 93 = .ok (.aload_n 0, 1) := by decide +kernel
theorem dX11_changes_94 : decode cX11_changes 94 = .ok (.getfield 97, 3) := by decide +kernel
theorem dX11_changes_97 : decode cX11_changes 97 = .ok (.iload_n 2, 1) := by decide +kernel
theorem dX11_changes_98 : decode cX11_changes 98 = .ok (.invokevirtual 248, 3) := by decide +kernel
theorem dX11_changes_101 : decode cX11_changes 101 = .ok (.ireturn, 1) := by decide +kernel
theorem dX11_dry_0 : decode cX11_dry 0 = .ok (.iload_n 1, 1) := by decide +kernel
theorem dX11_dry_1 : decode cX11_dry 1 = .ok (.ifCond .lt 9, 3) := by decide +kernel
theorem dX11_dry_4 : decode cX11_dry 4 = .ok (.iload_n 1, 1) := by decide +kernel
theorem dX11_dry_5 : decode cX11_dry 5 = .ok (.bipush 60, 2) := by decide +kernel
theorem dX11_dry_7 : decode cX11_dry 7 = .ok (.if_icmp .le 6, 3) := by decide +kernel
theorem dX11_dry_10 : decode cX11_dry 10 = .ok (.ldc 104, 2) := by decide +kernel
theorem dX11_dry_12 : decode cX11_dry 12 = .ok (.ireturn, 1) := by decide +kernel
theorem dX11_dry_13 : decode cX11_dry 13 = .ok (.iconst 0, 1) := by decide +kernel
theorem dX11_dry_14 : decode cX11_dry 14 = .ok (.istore_n 2, 1) := by decide +kernel
theorem dX11_dry_15 : decode cX11_dry 15 = .ok (.iconst 0, 1) := by decide +kernel
theorem dX11_dry_16 : decode cX11_dry 16 = .ok (.istore_n 3, 1) := by decide +kernel
theorem dX11_dry_17 : decode cX11_dry 17 = .ok (.iload_n 3, 1) := by decide +kernel
theorem dX11_dry_18 : decode cX11_dry 18 = .ok (.aload_n 0, 1) := by decide +kernel
theorem dX11_dry_19 : decode cX11_dry 19 = .ok (.getfield 30, 3) := by decide +kernel
theorem dX11_dry_22 : decode cX11_dry 22 = .ok (.getfield 117, 3) := by decide +kernel
theorem dX11_dry_25 : decode cX11_dry 25 = .ok (.if_icmp .ge 41, 3) := by decide +kernel
theorem dX11_dry_28 : decode cX11_dry 28 = .ok (.aload_n 0, 1) := by decide +kernel
theorem dX11_dry_29 : decode cX11_dry 29 = .ok (.iload_n 3, 1) := by decide +kernel
theorem dX11_dry_30 : decode cX11_dry 30 = .ok (.iload_n 1, 1) := by decide +kernel
theorem dX11_dry_31 : decode cX11_dry 31 = .ok (.invokevirtual 208, 3) := by decide +kernel
theorem dX11_dry_34 : decode cX11_dry 34 = .ok (.iload_n 2, 1) := by decide +kernel
theorem dX11_dry_35 : decode cX11_dry 35 = .ok (.aload_n 0, 1) := by decide +kernel
theorem dX11_dry_36 : decode cX11_dry 36 = .ok (.getfield 83, 3) := by decide +kernel
theorem dX11_dry_39 : decode cX11_dry 39 = .ok (.aload_n 0, 1) := by decide +kernel
theorem dX11_dry_40 : decode cX11_dry 40 = .ok (.getfield 83, 3) := by decide +kernel
theorem dX11_dry_43 : decode cX11_dry 43 = .ok (.aload_n 0, 1) := by decide +kernel
theorem dX11_dry_44 : decode cX11_dry 44 = .ok (.getfield 40, 3) := by decide +kernel
theorem dX11_dry_47 : decode cX11_dry 47 = .ok (.iload_n 3, 1) := by decide +kernel
theorem dX11_dry_48 : decode cX11_dry 48 = .ok (.invokevirtual 165, 3) := by decide +kernel
theorem dX11_dry_51 : decode cX11_dry 51 = .ok (.iload_n 1, 1) := by decide +kernel
theorem dX11_dry_52 : decode cX11_dry 52 = .ok (.invokevirtual 211, 3) := by decide +kernel
theorem dX11_dry_55 : decode cX11_dry 55 = .ok (.invokevirtual 251, 3) := by decide +kernel
theorem dX11_dry_58 : decode cX11_dry 58 = .ok (.ior, 1) := by decide +kernel
theorem dX11_dry_59 : decode cX11_dry 59 = .ok (.istore_n 2, 1) := by decide +kernel
theorem dX11_dry_60 : decode cX11_dry 60 = .ok (.iinc 3 1, 3) := by decide +kernel
theorem dX11_dry_63 : decode cX11_dry 63 = .ok (.goto (-46), 3) := by decide +kernel
theorem dX11_dry_66 : decode cX11_dry 66 = .ok (.iconst 1, 1) := by decide +kernel
theorem dX11_dry_67 : decode cX11_dry 67 = .ok (.aload_n 0, 1) := by decide +kernel
theorem dX11_dry_68 : decode cX11_dry 68 = .ok (.getfield 30, 3) := by decide +kernel
theorem dX11_dry_71 : decode cX11_dry 71 = .ok (.getfield 120, 3) := by decide +kernel
theorem dX11_dry_74 : decode cX11_dry 74 = .ok (.ishl, 1) := by decide +kernel
theorem dX11_dry_75 : decode cX11_dry 75 = .ok (.iconst 1, 1) := by decide +kernel
theorem dX11_dry_76 : decode cX11_dry 76 = .ok (.isub, 1) := by decide +kernel
theorem dX11_dry_77 : decode cX11_dry 77 = .ok (.iload_n 2, 1) := by decide +kernel
theorem dX11_dry_78 : decode cX11_dry 78 = .ok (.iconst (-1), 1) := by decide +kernel
theorem dX11_dry_79 : decode cX11_dry 79 = .ok (.ixor, 1) := by decide +kernel
theorem dX11_dry_80 : decode cX11_dry 80 = .ok (.iand, 1) := by decide +kernel
theorem dX11_dry_81 : decode cX11_dry 81 = .ok (.ireturn, 1) := by decide +kernel
theorem dX11_towed_0 : decode cX11_towed 0 = .ok (.aload_n 0, 1) := by decide +kernel
theorem dX11_towed_1 : decode cX11_towed 1 = .ok (.getfield 30, 3) := by decide +kernel
theorem dX11_towed_4 : decode cX11_towed 4 = .ok (.iload_n 1, 1) := by decide +kernel
theorem dX11_towed_5 : decode cX11_towed 5 = .ok (.invokevirtual 155, 3) := by decide +kernel
theorem dX11_towed_8 : decode cX11_towed 8 = .ok (.ifCond .ne 6, 3) := by decide +kernel
theorem dX11_towed_11 : decode cX11_towed 11 = .ok (.ldc 145, 2) := by decide +kernel
theorem dX11_towed_13 : decode cX11_towed 13 = .ok (.ireturn, 1) := by decide +kernel
theorem dX11_towed_14 : decode cX11_towed 14 = .ok (.iconst 0, 1) := by decide +kernel
theorem dX11_towed_15 : decode cX11_towed 15 = .ok (.istore_n 2, 1) := by decide +kernel
theorem dX11_towed_16 : decode cX11_towed 16 = .ok (.iconst 0, 1) := by decide +kernel
theorem dX11_towed_17 : decode cX11_towed 17 = .ok (.istore_n 3, 1) := by decide +kernel
theorem dX11_towed_18 : decode cX11_towed 18 = .ok (.iload_n 3, 1) := by decide +kernel
theorem dX11_towed_19 : decode cX11_towed 19 = .ok (.aload_n 0, 1) := by decide +kernel
theorem dX11_towed_20 : decode cX11_towed 20 = .ok (.getfield 30, 3) := by decide +kernel
theorem dX11_towed_23 : decode cX11_towed 23 = .ok (.getfield 117, 3) := by decide +kernel
theorem dX11_towed_26 : decode cX11_towed 26 = .ok (.if_icmp .ge 20, 3) := by decide +kernel
theorem dX11_towed_29 : decode cX11_towed 29 = .ok (.iload_n 2, 1) := by decide +kernel
theorem dX11_towed_30 : decode cX11_towed 30 = .ok (.aload_n 0, 1) := by decide +kernel
theorem dX11_towed_31 : decode cX11_towed 31 = .ok (.getfield 40, 3) := by decide +kernel
theorem dX11_towed_34 : decode cX11_towed 34 = .ok (.iload_n 3, 1) := by decide +kernel
theorem dX11_towed_35 : decode cX11_towed 35 = .ok (.invokevirtual 165, 3) := by decide +kernel
theorem dX11_towed_38 : decode cX11_towed 38 = .ok (.iadd, 1) := by decide +kernel
theorem dX11_towed_39 : decode cX11_towed 39 = .ok (.istore_n 2, 1) := by decide +kernel
theorem dX11_towed_40 : decode cX11_towed 40 = .ok (.iinc 3 1, 3) := by decide +kernel
theorem dX11_towed_43 : decode cX11_towed 43 = .ok (.goto (-25), 3) := by decide +kernel
theorem dX11_towed_46 : decode cX11_towed 46 = .ok (.iload_n 2, 1) := by decide +kernel
theorem dX11_towed_47 : decode cX11_towed 47 = .ok (.ifCond .ne 7, 3) := by decide +kernel
theorem dX11_towed_50 : decode cX11_towed 50 = .ok (.iconst 0, 1) := by decide +kernel
theorem dX11_towed_51 : decode cX11_towed 51 = .ok (.goto 17, 3) := by decide +kernel
theorem dX11_towed_54 : decode cX11_towed 54 = .ok (.aload_n 0, 1) := by decide +kernel
theorem dX11_towed_55 : decode cX11_towed 55 = .ok (.getfield 40, 3) := by decide +kernel
theorem dX11_towed_58 : decode cX11_towed 58 = .ok (.iload_n 1, 1) := by decide +kernel
theorem dX11_towed_59 : decode cX11_towed 59 = .ok (.invokevirtual 165, 3) := by decide +kernel
theorem dX11_towed_62 : decode cX11_towed 62 = .ok (.sipush 1000, 3) := by decide +kernel
theorem dX11_towed_65 : decode cX11_towed 65 = .ok (.imul, 1) := by decide +kernel
theorem dX11_towed_66 : decode cX11_towed 66 = .ok (.iload_n 2, 1) := by decide +kernel
theorem dX11_towed_67 : decode cX11_towed 67 = .ok (.idiv, 1) := by decide +kernel
theorem dX11_towed_68 : decode cX11_towed 68 = .ok (.ireturn, 1) := by decide +kernel
theorem dX11_mercy_0 : decode cX11_mercy 0 = .ok (.iload_n 1, 1) := by decide +kernel
theorem dX11_mercy_1 : decode cX11_mercy 1 = .ok (.ifCond .lt 19, 3) := by decide +kernel
theorem dX11_mercy_4 : decode cX11_mercy 4 = .ok (.iload_n 1, 1) := by decide +kernel
theorem dX11_mercy_5 : decode cX11_mercy 5 = .ok (.bipush 60, 2) := by decide +kernel
theorem dX11_mercy_7 : decode cX11_mercy 7 = .ok (.if_icmp .gt 13, 3) := by decide +kernel
theorem dX11_mercy_10 : decode cX11_mercy 10 = .ok (.iload_n 2, 1) := by decide +kernel
theorem dX11_mercy_11 : decode cX11_mercy 11 = .ok (.ifCond .lt 9, 3) := by decide +kernel
theorem dX11_mercy_14 : decode cX11_mercy 14 = .ok (.iload_n 2, 1) := by decide +kernel
theorem dX11_mercy_15 : decode cX11_mercy 15 = .ok (.bipush 100, 2) := by decide +kernel
theorem dX11_mercy_17 : decode cX11_mercy 17 = .ok (.if_icmp .le 6, 3) := by decide +kernel
theorem dX11_mercy_20 : decode cX11_mercy 20 = .ok (.ldc 104, 2) := by decide +kernel
theorem dX11_mercy_22 : decode cX11_mercy 22 = .ok (.ireturn, 1) := by decide +kernel
theorem dX11_mercy_23 : decode cX11_mercy 23 = .ok (.ldc2_w 254, 3) := by decide +kernel
theorem dX11_mercy_26 : decode cX11_mercy 26 = .ok (.lstore_n 3, 1) := by decide +kernel
theorem dX11_mercy_27 : decode cX11_mercy 27 = .ok (.iconst 0, 1) := by decide +kernel
theorem dX11_mercy_28 : decode cX11_mercy 28 = .ok (.istore 5, 2) := by decide +kernel
theorem dX11_mercy_30 : decode cX11_mercy 30 = .ok (.iload 5, 2) := by decide +kernel
theorem dX11_mercy_32 : decode cX11_mercy 32 = .ok (.iload_n 1, 1) := by decide +kernel
theorem dX11_mercy_33 : decode cX11_mercy 33 = .ok (.if_icmp .ge 21, 3) := by decide +kernel
theorem dX11_mercy_36 : decode cX11_mercy 36 = .ok (.lload_n 3, 1) := by decide +kernel
theorem dX11_mercy_37 : decode cX11_mercy 37 = .ok (.bipush 100, 2) := by decide +kernel
theorem dX11_mercy_39 : decode cX11_mercy 39 = .ok (.iload_n 2, 1) := by decide +kernel
theorem dX11_mercy_40 : decode cX11_mercy 40 = .ok (.isub, 1) := by decide +kernel
theorem dX11_mercy_41 : decode cX11_mercy 41 = .ok (.i2l, 1) := by decide +kernel
theorem dX11_mercy_42 : decode cX11_mercy 42 = .ok (.lmul, 1) := by decide +kernel
theorem dX11_mercy_43 : decode cX11_mercy 43 = .ok (.ldc2_w 256, 3) := by decide +kernel
theorem dX11_mercy_46 : decode cX11_mercy 46 = .ok (.ldiv, 1) := by decide +kernel
theorem dX11_mercy_47 : decode cX11_mercy 47 = .ok (.lstore_n 3, 1) := by decide +kernel
theorem dX11_mercy_48 : decode cX11_mercy 48 = .ok (.iinc 5 1, 3) := by decide +kernel
theorem dX11_mercy_51 : decode cX11_mercy 51 = .ok (.goto (-21), 3) := by decide +kernel
theorem dX11_mercy_54 : decode cX11_mercy 54 = .ok (.lload_n 3, 1) := by decide +kernel
theorem dX11_mercy_55 : decode cX11_mercy 55 = .ok (.l2i, 1) := by decide +kernel
theorem dX11_mercy_56 : decode cX11_mercy 56 = .ok (.ireturn, 1) := by decide +kernel
theorem dX11_see_0 : decode cX11_see 0 = .ok (.aload_n 0, 1) := by decide +kernel
theorem dX11_see_1 : decode cX11_see 1 = .ok (.getfield 30, 3) := by decide +kernel
theorem dX11_see_4 : decode cX11_see 4 = .ok (.iload_n 1, 1) := by decide +kernel
theorem dX11_see_5 : decode cX11_see 5 = .ok (.invokevirtual 155, 3) := by decide +kernel
theorem dX11_see_8 : decode cX11_see 8 = .ok (.ifCond .eq 14, 3) := by decide +kernel
theorem dX11_see_11 : decode cX11_see 11 = .ok (.aload_n 0, 1) := by decide +kernel
theorem dX11_see_12 : decode cX11_see 12 = .ok (.getfield 30, 3) := by decide +kernel
theorem dX11_see_15 : decode cX11_see 15 = .ok (.iload_n 3, 1) := by decide +kernel
theorem dX11_see_16 : decode cX11_see 16 = .ok (.invokevirtual 205, 3) := by decide +kernel
theorem dX11_see_19 : decode cX11_see 19 = .ok (.ifCond .ne 6, 3) := by decide +kernel
theorem dX11_see_22 : decode cX11_see 22 = .ok (.ldc 145, 2) := by decide +kernel
theorem dX11_see_24 : decode cX11_see 24 = .ok (.ireturn, 1) := by decide +kernel
theorem dX11_see_25 : decode cX11_see 25 = .ok (.iload_n 2, 1) := by decide +kernel
theorem dX11_see_26 : decode cX11_see 26 = .ok (.ifCond .lt 9, 3) := by decide +kernel
theorem dX11_see_29 : decode cX11_see 29 = .ok (.iload_n 2, 1) := by decide +kernel
theorem dX11_see_30 : decode cX11_see 30 = .ok (.bipush 30, 2) := by decide +kernel
theorem dX11_see_32 : decode cX11_see 32 = .ok (.if_icmp .le 6, 3) := by decide +kernel
theorem dX11_see_35 : decode cX11_see 35 = .ok (.ldc 104, 2) := by decide +kernel
theorem dX11_see_37 : decode cX11_see 37 = .ok (.ireturn, 1) := by decide +kernel
theorem dX11_see_38 : decode cX11_see 38 = .ok (.aload_n 0, 1) := by decide +kernel
theorem dX11_see_39 : decode cX11_see 39 = .ok (.getfield 73, 3) := by decide +kernel
theorem dX11_see_42 : decode cX11_see 42 = .ok (.iload_n 1, 1) := by decide +kernel
theorem dX11_see_43 : decode cX11_see 43 = .ok (.iload_n 2, 1) := by decide +kernel
theorem dX11_see_44 : decode cX11_see 44 = .ok (.iload_n 3, 1) := by decide +kernel
theorem dX11_see_45 : decode cX11_see 45 = .ok (.invokevirtual 258, 3) := by decide +kernel
theorem dX11_see_48 : decode cX11_see 48 = .ok (.ifCond .eq 13, 3) := by decide +kernel
theorem dX11_see_51 : decode cX11_see 51 = .ok (.aload_n 0, 1) := by decide +kernel
theorem dX11_see_52 : decode cX11_see 52 = .ok (.getfield 73, 3) := by decide +kernel
theorem dX11_see_55 : decode cX11_see 55 = .ok (.getfield 137, 3) := by decide +kernel
theorem dX11_see_58 : decode cX11_see 58 = .ok (.goto 5, 3) := by decide +kernel
theorem dX11_see_61 : decode cX11_see 61 = .ok (.ldc 105, 2) := by decide +kernel
theorem dX11_see_63 : decode cX11_see 63 = .ok (.ireturn, 1) := by decide +kernel
theorem dX11_left_0 : decode cX11_left 0 = .ok (.aload_n 0, 1) := by decide +kernel
theorem dX11_left_1 : decode cX11_left 1 = .ok (.getfield 30, 3) := by decide +kernel
theorem dX11_left_4 : decode cX11_left 4 = .ok (.iload_n 1, 1) := by decide +kernel
theorem dX11_left_5 : decode cX11_left 5 = .ok (.invokevirtual 155, 3) := by decide +kernel
theorem dX11_left_8 : decode cX11_left 8 = .ok (.ifCond .ne 6, 3) := by decide +kernel
theorem dX11_left_11 : decode cX11_left 11 = .ok (.ldc 145, 2) := by decide +kernel
theorem dX11_left_13 : decode cX11_left 13 = .ok (.ireturn, 1) := by decide +kernel
theorem dX11_left_14 : decode cX11_left 14 = .ok (.aload_n 0, 1) := by decide +kernel
theorem dX11_left_15 : decode cX11_left 15 = .ok (.iload_n 1, 1) := by decide +kernel
theorem dX11_left_16 : decode cX11_left 16 = .ok (.invokevirtual 262, 3) := by decide +kernel
theorem dX11_left_19 : decode cX11_left 19 = .ok (.iload_n 2, 1) := by decide +kernel
theorem dX11_left_20 : decode cX11_left 20 = .ok (.iconst (-1), 1) := by decide +kernel
theorem dX11_left_21 : decode cX11_left 21 = .ok (.if_icmp .ne 13, 3) := by decide +kernel
theorem dX11_left_24 : decode cX11_left 24 = .ok (.aload_n 0, 1) := by decide +kernel
theorem dX11_left_25 : decode cX11_left 25 = .ok (.getfield 90, 3) := by decide +kernel
theorem dX11_left_28 : decode cX11_left 28 = .ok (.invokevirtual 265, 3) := by decide +kernel
theorem dX11_left_31 : decode cX11_left 31 = .ok (.goto 11, 3) := by decide +kernel
theorem dX11_left_34 : decode cX11_left 34 = .ok (.aload_n 0, 1) := by decide +kernel
theorem dX11_left_35 : decode cX11_left 35 = .ok (.getfield 90, 3) := by decide +kernel
theorem dX11_left_38 : decode cX11_left 38 = .ok (.iload_n 2, 1) := by decide +kernel
theorem dX11_left_39 : decode cX11_left 39 = .ok (.invokevirtual 268, 3) := by decide +kernel
theorem dX11_left_42 : decode cX11_left 42 = .ok (.ireturn, 1) := by decide +kernel
theorem dX11_look_0 : decode cX11_look 0 = .ok (.aload_n 0, 1) := by decide +kernel
theorem dX11_look_1 : decode cX11_look 1 = .ok (.getfield 30, 3) := by decide +kernel
theorem dX11_look_4 : decode cX11_look 4 = .ok (.iload_n 1, 1) := by decide +kernel
theorem dX11_look_5 : decode cX11_look 5 = .ok (.invokevirtual 155, 3) := by decide +kernel
theorem dX11_look_8 : decode cX11_look 8 = .ok (.ifCond .ne 6, 3) := by decide +kernel
theorem dX11_look_11 : decode cX11_look 11 = .ok (.ldc 145, 2) := by decide +kernel
theorem dX11_look_13 : decode cX11_look 13 = .ok (.ireturn, 1) := by decide +kernel
theorem dX11_look_14 : decode cX11_look 14 = .ok (.aload_n 0, 1) := by decide +kernel
theorem dX11_look_15 : decode cX11_look 15 = .ok (.iload_n 1, 1) := by decide +kernel
theorem dX11_look_16 : decode cX11_look 16 = .ok (.invokevirtual 262, 3) := by decide +kernel
theorem dX11_look_19 : decode cX11_look 19 = .ok (.aload_n 0, 1) := by decide +kernel
theorem dX11_look_20 : decode cX11_look 20 = .ok (.getfield 90, 3) := by decide +kernel
theorem dX11_look_23 : decode cX11_look 23 = .ok (.aload_n 0, 1) := by decide +kernel
theorem dX11_look_24 : decode cX11_look 24 = .ok (.getfield 83, 3) := by decide +kernel
theorem dX11_look_27 : decode cX11_look 27 = .ok (.invokevirtual 271, 3) := by decide +kernel
theorem dX11_look_30 : decode cX11_look 30 = .ok (.ireturn, 1) := by decide +kernel
theorem dX11_write_0 : decode cX11_write 0 = .ok (.aload_n 0, 1) := by decide +kernel
theorem dX11_write_1 : decode cX11_write 1 = .ok (.getfield 30, 3) := by decide +kernel
theorem dX11_write_4 : decode cX11_write 4 = .ok (.iload_n 1, 1) := by decide +kernel
theorem dX11_write_5 : decode cX11_write 5 = .ok (.invokevirtual 155, 3) := by decide +kernel
theorem dX11_write_8 : decode cX11_write 8 = .ok (.ifCond .eq 14, 3) := by decide +kernel
theorem dX11_write_11 : decode cX11_write 11 = .ok (.aload_n 0, 1) := by decide +kernel
theorem dX11_write_12 : decode cX11_write 12 = .ok (.getfield 30, 3) := by decide +kernel
theorem dX11_write_15 : decode cX11_write 15 = .ok (.iload_n 2, 1) := by decide +kernel
theorem dX11_write_16 : decode cX11_write 16 = .ok (.invokevirtual 205, 3) := by decide +kernel
theorem dX11_write_19 : decode cX11_write 19 = .ok (.ifCond .ne 6, 3) := by decide +kernel
theorem dX11_write_22 : decode cX11_write 22 = .ok (.ldc 145, 2) := by decide +kernel
theorem dX11_write_24 : decode cX11_write 24 = .ok (.ireturn, 1) := by decide +kernel
theorem dX11_write_25 : decode cX11_write 25 = .ok (.aload_n 0, 1) := by decide +kernel
theorem dX11_write_26 : decode cX11_write 26 = .ok (.getfield 77, 3) := by decide +kernel
theorem dX11_write_29 : decode cX11_write 29 = .ok (.iload_n 1, 1) := by decide +kernel
theorem dX11_write_30 : decode cX11_write 30 = .ok (.iconst 0, 1) := by decide +kernel
theorem dX11_write_31 : decode cX11_write 31 = .ok (.iload_n 2, 1) := by decide +kernel
theorem dX11_write_32 : decode cX11_write 32 = .ok (.invokevirtual 258, 3) := by decide +kernel
theorem dX11_write_35 : decode cX11_write 35 = .ok (.ifCond .eq 13, 3) := by decide +kernel
theorem dX11_write_38 : decode cX11_write 38 = .ok (.aload_n 0, 1) := by decide +kernel
theorem dX11_write_39 : decode cX11_write 39 = .ok (.getfield 77, 3) := by decide +kernel
theorem dX11_write_42 : decode cX11_write 42 = .ok (.getfield 137, 3) := by decide +kernel
theorem dX11_write_45 : decode cX11_write 45 = .ok (.goto 5, 3) := by decide +kernel
theorem dX11_write_48 : decode cX11_write 48 = .ok (.ldc 105, 2) := by decide +kernel
theorem dX11_write_50 : decode cX11_write 50 = .ok (.ireturn, 1) := by decide +kernel
theorem dX11_tear_0 : decode cX11_tear 0 = .ok (.aload_n 0, 1) := by decide +kernel
theorem dX11_tear_1 : decode cX11_tear 1 = .ok (.getfield 73, 3) := by decide +kernel
theorem dX11_tear_4 : decode cX11_tear 4 = .ok (.getfield 137, 3) := by decide +kernel
theorem dX11_tear_7 : decode cX11_tear 7 = .ok (.aload_n 0, 1) := by decide +kernel
theorem dX11_tear_8 : decode cX11_tear 8 = .ok (.getfield 77, 3) := by decide +kernel
theorem dX11_tear_11 : decode cX11_tear 11 = .ok (.getfield 137, 3) := by decide +kernel
theorem dX11_tear_14 : decode cX11_tear 14 = .ok (.iadd, 1) := by decide +kernel
theorem dX11_tear_15 : decode cX11_tear 15 = .ok (.istore_n 1, 1) := by decide +kernel
theorem dX11_tear_16 : decode cX11_tear 16 = .ok (.aload_n 0, 1) := by decide +kernel
theorem dX11_tear_17 : decode cX11_tear 17 = .ok (.getfield 73, 3) := by decide +kernel
theorem dX11_tear_20 : decode cX11_tear 20 = .ok (.iconst 0, 1) := by decide +kernel
theorem dX11_tear_21 : decode cX11_tear 21 = .ok (.putfield 137, 3) := by decide +kernel
theorem dX11_tear_24 : decode cX11_tear 24 = .ok (.aload_n 0, 1) := by decide +kernel
theorem dX11_tear_25 : decode cX11_tear 25 = .ok (.getfield 77, 3) := by decide +kernel
theorem dX11_tear_28 : decode cX11_tear 28 = .ok (.iconst 0, 1) := by decide +kernel
theorem dX11_tear_29 : decode cX11_tear 29 = .ok (.putfield 137, 3) := by decide +kernel
theorem dX11_tear_32 : decode cX11_tear 32 = .ok (.iload_n 1, 1) := by decide +kernel
theorem dX11_tear_33 : decode cX11_tear 33 = .ok (.ireturn, 1) := by decide +kernel
theorem dX11_judge_0 : decode cX11_judge 0 = .ok (.iconst 0, 1) := by decide +kernel
theorem dX11_judge_1 : decode cX11_judge 1 = .ok (.istore_n 1, 1) := by decide +kernel
theorem dX11_judge_2 : decode cX11_judge 2 = .ok (.iload_n 1, 1) := by decide +kernel
theorem dX11_judge_3 : decode cX11_judge 3 = .ok (.aload_n 0, 1) := by decide +kernel
theorem dX11_judge_4 : decode cX11_judge 4 = .ok (.getfield 77, 3) := by decide +kernel
theorem dX11_judge_7 : decode cX11_judge 7 = .ok (.getfield 137, 3) := by decide +kernel
theorem dX11_judge_10 : decode cX11_judge 10 = .ok (.if_icmp .ge 37, 3) := by decide +kernel
theorem dX11_judge_13 : decode cX11_judge 13 = .ok (.aload_n 0, 1) := by decide +kernel
theorem dX11_judge_14 : decode cX11_judge 14 = .ok (.getfield 40, 3) := by decide +kernel
theorem dX11_judge_17 : decode cX11_judge 17 = .ok (.aload_n 0, 1) := by decide +kernel
theorem dX11_judge_18 : decode cX11_judge 18 = .ok (.getfield 77, 3) := by decide +kernel
theorem dX11_judge_21 : decode cX11_judge 21 = .ok (.iload_n 1, 1) := by decide +kernel
theorem dX11_judge_22 : decode cX11_judge 22 = .ok (.invokevirtual 275, 3) := by decide +kernel
theorem dX11_judge_25 : decode cX11_judge 25 = .ok (.invokevirtual 158, 3) := by decide +kernel
theorem dX11_judge_28 : decode cX11_judge 28 = .ok (.aload_n 0, 1) := by decide +kernel
theorem dX11_judge_29 : decode cX11_judge 29 = .ok (.getfield 77, 3) := by decide +kernel
theorem dX11_judge_32 : decode cX11_judge 32 = .ok (.iload_n 1, 1) := by decide +kernel
theorem dX11_judge_33 : decode cX11_judge 33 = .ok (.invokevirtual 278, 3) := by decide +kernel
theorem dX11_judge_36 : decode cX11_judge 36 = .ok (.if_icmp .eq 5, 3) := by decide +kernel
theorem dX11_judge_39 : decode cX11_judge 39 = .ok (.iload_n 1, 1) := by decide +kernel
theorem dX11_judge_40 : decode cX11_judge 40 = .ok (.ireturn, 1) := by decide +kernel
theorem dX11_judge_41 : decode cX11_judge 41 = .ok (.iinc 1 1, 3) := by decide +kernel
theorem dX11_judge_44 : decode cX11_judge 44 = .ok (.goto (-42), 3) := by decide +kernel
theorem dX11_judge_47 : decode cX11_judge 47 = .ok (.iconst (-1), 1) := by decide +kernel
theorem dX11_judge_48 : decode cX11_judge 48 = .ok (.ireturn, 1) := by decide +kernel
theorem dX11_seed_0 : decode cX11_seed 0 = .ok (.iload_n 1, 1) := by decide +kernel
theorem dX11_seed_1 : decode cX11_seed 1 = .ok (.ifCond .ge 6, 3) := by decide +kernel
theorem dX11_seed_4 : decode cX11_seed 4 = .ok (.ldc 104, 2) := by decide +kernel
theorem dX11_seed_6 : decode cX11_seed 6 = .ok (.ireturn, 1) := by decide +kernel
theorem dX11_seed_7 : decode cX11_seed 7 = .ok (.aload_n 0, 1) := by decide +kernel
theorem dX11_seed_8 : decode cX11_seed 8 = .ok (.getfield 64, 3) := by decide +kernel
theorem dX11_seed_11 : decode cX11_seed 11 = .ok (.getfield 281, 3) := by decide +kernel
theorem dX11_seed_14 : decode cX11_seed 14 = .ok (.istore_n 2, 1) := by decide +kernel
theorem dX11_seed_15 : decode cX11_seed 15 = .ok (.aload_n 0, 1) := by decide +kernel
theorem dX11_seed_16 : decode cX11_seed 16 = .ok (.getfield 64, 3) := by decide +kernel
theorem dX11_seed_19 : decode cX11_seed 19 = .ok (.iload_n 1, 1) := by decide +kernel
theorem dX11_seed_20 : decode cX11_seed 20 = .ok (.putfield 281, 3) := by decide +kernel
theorem dX11_seed_23 : decode cX11_seed 23 = .ok (.iload_n 2, 1) := by decide +kernel
theorem dX11_seed_24 : decode cX11_seed 24 = .ok (.ireturn, 1) := by decide +kernel
theorem dX11_keep_0 : decode cX11_keep 0 = .ok (.iload_n 1, 1) := by decide +kernel
theorem dX11_keep_1 : decode cX11_keep 1 = .ok (.ifCond .lt 8, 3) := by decide +kernel
theorem dX11_keep_4 : decode cX11_keep 4 = .ok (.iload_n 1, 1) := by decide +kernel
theorem dX11_keep_5 : decode cX11_keep 5 = .ok (.iconst 2, 1) := by decide +kernel
theorem dX11_keep_6 : decode cX11_keep 6 = .ok (.if_icmp .lt 6, 3) := by decide +kernel
theorem dX11_keep_9 : decode cX11_keep 9 = .ok (.ldc 145, 2) := by decide +kernel
theorem dX11_keep_11 : decode cX11_keep 11 = .ok (.ireturn, 1) := by decide +kernel
theorem dX11_keep_12 : decode cX11_keep 12 = .ok (.aload_n 0, 1) := by decide +kernel
theorem dX11_keep_13 : decode cX11_keep 13 = .ok (.getfield 57, 3) := by decide +kernel
theorem dX11_keep_16 : decode cX11_keep 16 = .ok (.iload_n 1, 1) := by decide +kernel
theorem dX11_keep_17 : decode cX11_keep 17 = .ok (.aload_n 0, 1) := by decide +kernel
theorem dX11_keep_18 : decode cX11_keep 18 = .ok (.getfield 40, 3) := by decide +kernel
theorem dX11_keep_21 : decode cX11_keep 21 = .ok (.aload_n 0, 1) := by decide +kernel
theorem dX11_keep_22 : decode cX11_keep 22 = .ok (.getfield 64, 3) := by decide +kernel
theorem dX11_keep_25 : decode cX11_keep 25 = .ok (.invokevirtual 284, 3) := by decide +kernel
theorem dX11_keep_28 : decode cX11_keep 28 = .ok (.aload_n 0, 1) := by decide +kernel
theorem dX11_keep_29 : decode cX11_keep 29 = .ok (.getfield 50, 3) := by decide +kernel
theorem dX11_keep_32 : decode cX11_keep 32 = .ok (.invokevirtual 288, 3) := by decide +kernel
theorem dX11_keep_35 : decode cX11_keep 35 = .ok (.iconst 1, 1) := by decide +kernel
theorem dX11_keep_36 : decode cX11_keep 36 = .ok (.ireturn, 1) := by decide +kernel
theorem dX11_goBack_0 : decode cX11_goBack 0 = .ok (.iload_n 1, 1) := by decide +kernel
theorem dX11_goBack_1 : decode cX11_goBack 1 = .ok (.ifCond .lt 8, 3) := by decide +kernel
theorem dX11_goBack_4 : decode cX11_goBack 4 = .ok (.iload_n 1, 1) := by decide +kernel
theorem dX11_goBack_5 : decode cX11_goBack 5 = .ok (.iconst 2, 1) := by decide +kernel
theorem dX11_goBack_6 : decode cX11_goBack 6 = .ok (.if_icmp .lt 6, 3) := by decide +kernel
theorem dX11_goBack_9 : decode cX11_goBack 9 = .ok (.ldc 145, 2) := by decide +kernel
theorem dX11_goBack_11 : decode cX11_goBack 11 = .ok (.ireturn, 1) := by decide +kernel
theorem dX11_goBack_12 : decode cX11_goBack 12 = .ok (.aload_n 0, 1) := by decide +kernel
theorem dX11_goBack_13 : decode cX11_goBack 13 = .ok (.getfield 57, 3) := by decide +kernel
theorem dX11_goBack_16 : decode cX11_goBack 16 = .ok (.iload_n 1, 1) := by decide +kernel
theorem dX11_goBack_17 : decode cX11_goBack 17 = .ok (.invokevirtual 291, 3) := by decide +kernel
theorem dX11_goBack_20 : decode cX11_goBack 20 = .ok (.ifCond .ne 6, 3) := by decide +kernel
theorem dX11_goBack_23 : decode cX11_goBack 23 = .ok (.ldc 201, 2) := by decide +kernel
theorem dX11_goBack_25 : decode cX11_goBack 25 = .ok (.ireturn, 1) := by decide +kernel
theorem dX11_goBack_26 : decode cX11_goBack 26 = .ok (.aload_n 0, 1) := by decide +kernel
theorem dX11_goBack_27 : decode cX11_goBack 27 = .ok (.getfield 57, 3) := by decide +kernel
theorem dX11_goBack_30 : decode cX11_goBack 30 = .ok (.iload_n 1, 1) := by decide +kernel
theorem dX11_goBack_31 : decode cX11_goBack 31 = .ok (.aload_n 0, 1) := by decide +kernel
theorem dX11_goBack_32 : decode cX11_goBack 32 = .ok (.getfield 40, 3) := by decide +kernel
theorem dX11_goBack_35 : decode cX11_goBack 35 = .ok (.aload_n 0, 1) := by decide +kernel
theorem dX11_goBack_36 : decode cX11_goBack 36 = .ok (.getfield 64, 3) := by decide +kernel
theorem dX11_goBack_39 : decode cX11_goBack 39 = .ok (.invokevirtual 294, 3) := by decide +kernel
theorem dX11_goBack_42 : decode cX11_goBack 42 = .ok (.aload_n 0, 1) := by decide +kernel
theorem dX11_goBack_43 : decode cX11_goBack 43 = .ok (.getfield 50, 3) := by decide +kernel
theorem dX11_goBack_46 : decode cX11_goBack 46 = .ok (.invokevirtual 288, 3) := by decide +kernel
theorem dX11_goBack_49 : decode cX11_goBack 49 = .ok (.iconst 1, 1) := by decide +kernel
theorem dX11_goBack_50 : decode cX11_goBack 50 = .ok (.ireturn, 1) := by decide +kernel
theorem dX11_forgetQuays_0 : decode cX11_forgetQuays 0 = .ok (.iconst 0, 1) := by decide +kernel
theorem dX11_forgetQuays_1 : decode cX11_forgetQuays 1 = .ok (.istore_n 1, 1) := by decide +kernel
theorem dX11_forgetQuays_2 : decode cX11_forgetQuays 2 = .ok (.iload_n 1, 1) := by decide +kernel
theorem dX11_forgetQuays_3 : decode cX11_forgetQuays 3 = .ok (.iconst 5, 1) := by decide +kernel
theorem dX11_forgetQuays_4 : decode cX11_forgetQuays 4 = .ok (.if_icmp .ge 16, 3) := by decide +kernel
theorem dX11_forgetQuays_7 : decode cX11_forgetQuays 7 = .ok (.aload_n 0, 1) := by decide +kernel
theorem dX11_forgetQuays_8 : decode cX11_forgetQuays 8 = .ok (.getfield 44, 3) := by decide +kernel
theorem dX11_forgetQuays_11 : decode cX11_forgetQuays 11 = .ok (.iload_n 1, 1) := by decide +kernel
theorem dX11_forgetQuays_12 : decode cX11_forgetQuays 12 = .ok (.iconst (-1), 1) := by decide +kernel
theorem dX11_forgetQuays_13 : decode cX11_forgetQuays 13 = .ok (.iastore, 1) := by decide +kernel
theorem dX11_forgetQuays_14 : decode cX11_forgetQuays 14 = .ok (.iinc 1 1, 3) := by decide +kernel
theorem dX11_forgetQuays_17 : decode cX11_forgetQuays 17 = .ok (.goto (-15), 3) := by decide +kernel
theorem dX11_forgetQuays_20 : decode cX11_forgetQuays 20 = .ok (.return_, 1) := by decide +kernel
theorem dX11_beginAnew_0 : decode cX11_beginAnew 0 = .ok (.aload_n 0, 1) := by decide +kernel
theorem dX11_beginAnew_1 : decode cX11_beginAnew 1 = .ok (.getfield 40, 3) := by decide +kernel
theorem dX11_beginAnew_4 : decode cX11_beginAnew 4 = .ok (.aload_n 0, 1) := by decide +kernel
theorem dX11_beginAnew_5 : decode cX11_beginAnew 5 = .ok (.getfield 30, 3) := by decide +kernel
theorem dX11_beginAnew_8 : decode cX11_beginAnew 8 = .ok (.invokevirtual 296, 3) := by decide +kernel
theorem dX11_beginAnew_11 : decode cX11_beginAnew 11 = .ok (.aload_n 0, 1) := by decide +kernel
theorem dX11_beginAnew_12 : decode cX11_beginAnew 12 = .ok (.invokevirtual 101, 3) := by decide +kernel
theorem dX11_beginAnew_15 : decode cX11_beginAnew 15 = .ok (.aload_n 0, 1) := by decide +kernel
theorem dX11_beginAnew_16 : decode cX11_beginAnew 16 = .ok (.getfield 73, 3) := by decide +kernel
theorem dX11_beginAnew_19 : decode cX11_beginAnew 19 = .ok (.iconst 0, 1) := by decide +kernel
theorem dX11_beginAnew_20 : decode cX11_beginAnew 20 = .ok (.putfield 137, 3) := by decide +kernel
theorem dX11_beginAnew_23 : decode cX11_beginAnew 23 = .ok (.aload_n 0, 1) := by decide +kernel
theorem dX11_beginAnew_24 : decode cX11_beginAnew 24 = .ok (.getfield 77, 3) := by decide +kernel
theorem dX11_beginAnew_27 : decode cX11_beginAnew 27 = .ok (.iconst 0, 1) := by decide +kernel
theorem dX11_beginAnew_28 : decode cX11_beginAnew 28 = .ok (.putfield 137, 3) := by decide +kernel
theorem dX11_beginAnew_31 : decode cX11_beginAnew 31 = .ok (.aload_n 0, 1) := by decide +kernel
theorem dX11_beginAnew_32 : decode cX11_beginAnew 32 = .ok (.getfield 50, 3) := by decide +kernel
theorem dX11_beginAnew_35 : decode cX11_beginAnew 35 = .ok (.invokevirtual 288, 3) := by decide +kernel
theorem dX11_beginAnew_38 : decode cX11_beginAnew 38 = .ok (.aload_n 0, 1) := by decide +kernel
theorem dX11_beginAnew_39 : decode cX11_beginAnew 39 = .ok (.getfield 57, 3) := by decide +kernel
theorem dX11_beginAnew_42 : decode cX11_beginAnew 42 = .ok (.invokevirtual 299, 3) := by decide +kernel
theorem dX11_beginAnew_45 : decode cX11_beginAnew 45 = .ok (.return_, 1) := by decide +kernel
theorem dX11_refusalToGo_0 : decode cX11_refusalToGo 0 = .ok (.iload_n 1, 1) := by decide +kernel
theorem dX11_refusalToGo_1 : decode cX11_refusalToGo 1 = .ok (.iconst 1, 1) := by decide +kernel
theorem dX11_refusalToGo_2 : decode cX11_refusalToGo 2 = .ok (.if_icmp .lt 9, 3) := by decide +kernel
theorem dX11_refusalToGo_5 : decode cX11_refusalToGo 5 = .ok (.iload_n 1, 1) := by decide +kernel
theorem dX11_refusalToGo_6 : decode cX11_refusalToGo 6 = .ok (.bipush 60, 2) := by decide +kernel
theorem dX11_refusalToGo_8 : decode cX11_refusalToGo 8 = .ok (.if_icmp .le 6, 3) := by decide +kernel
theorem dX11_refusalToGo_11 : decode cX11_refusalToGo 11 = .ok (.ldc 104, 2) := by decide +kernel
theorem dX11_refusalToGo_13 : decode cX11_refusalToGo 13 = .ok (.ireturn, 1) := by decide +kernel
theorem dX11_refusalToGo_14 : decode cX11_refusalToGo 14 = .ok (.aload_n 0, 1) := by decide +kernel
theorem dX11_refusalToGo_15 : decode cX11_refusalToGo 15 = .ok (.getfield 30, 3) := by decide +kernel
theorem dX11_refusalToGo_18 : decode cX11_refusalToGo 18 = .ok (.getfield 120, 3) := by decide +kernel
theorem dX11_refusalToGo_21 : decode cX11_refusalToGo 21 = .ok (.ifCond .ne 6, 3) := by decide +kernel
theorem dX11_refusalToGo_24 : decode cX11_refusalToGo 24 = .ok (.ldc 201, 2) := by decide +kernel
theorem dX11_refusalToGo_26 : decode cX11_refusalToGo 26 = .ok (.ireturn, 1) := by decide +kernel
theorem dX11_refusalToGo_27 : decode cX11_refusalToGo 27 = .ok (.aload_n 0, 1) := by decide +kernel
theorem dX11_refusalToGo_28 : decode cX11_refusalToGo 28 = .ok (.getfield 40, 3) := by decide +kernel
theorem dX11_refusalToGo_31 : decode cX11_refusalToGo 31 = .ok (.invokevirtual 126, 3) := by decide +kernel
theorem dX11_refusalToGo_34 : decode cX11_refusalToGo 34 = .ok (.sipush 9000, 3) := by decide +kernel
theorem dX11_refusalToGo_37 : decode cX11_refusalToGo 37 = .ok (.if_icmp .le 8, 3) := by decide +kernel
theorem dX11_refusalToGo_40 : decode cX11_refusalToGo 40 = .ok (.ldc 105, 2) := by decide +kernel
theorem dX11_refusalToGo_42 : decode cX11_refusalToGo 42 = .ok (.goto 4, 3) := by decide +kernel
theorem dX11_refusalToGo_45 : decode cX11_refusalToGo 45 = .ok (.iconst 0, 1) := by decide +kernel
theorem dX11_refusalToGo_46 : decode cX11_refusalToGo 46 = .ok (.ireturn, 1) := by decide +kernel
theorem dX11_drawMonth_0 : decode cX11_drawMonth 0 = .ok (.aload_n 0, 1) := by decide +kernel
theorem dX11_drawMonth_1 : decode cX11_drawMonth 1 = .ok (.getfield 64, 3) := by decide +kernel
theorem dX11_drawMonth_4 : decode cX11_drawMonth 4 = .ok (.iconst 4, 1) := by decide +kernel
theorem dX11_drawMonth_5 : decode cX11_drawMonth 5 = .ok (.invokevirtual 300, 3) := by decide +kernel
theorem dX11_drawMonth_8 : decode cX11_drawMonth 8 = .ok (.istore_n 1, 1) := by decide +kernel
theorem dX11_drawMonth_9 : decode cX11_drawMonth 9 = .ok (.iload_n 1, 1) := by decide +kernel
theorem dX11_drawMonth_10 : decode cX11_drawMonth 10 = .ok (.iconst 1, 1) := by decide +kernel
theorem dX11_drawMonth_11 : decode cX11_drawMonth 11 = .ok (.if_icmp .le 4, 3) := by decide +kernel
theorem dX11_drawMonth_14 : decode cX11_drawMonth 14 = .ok (.return_, 1) := by decide +kernel
theorem dX11_drawMonth_15 : decode cX11_drawMonth 15 = .ok (.aload_n 0, 1) := by decide +kernel
theorem dX11_drawMonth_16 : decode cX11_drawMonth 16 = .ok (.getfield 64, 3) := by decide +kernel
theorem dX11_drawMonth_19 : decode cX11_drawMonth 19 = .ok (.aload_n 0, 1) := by decide +kernel
theorem dX11_drawMonth_20 : decode cX11_drawMonth 20 = .ok (.getfield 30, 3) := by decide +kernel
theorem dX11_drawMonth_23 : decode cX11_drawMonth 23 = .ok (.getfield 117, 3) := by decide +kernel
theorem dX11_drawMonth_26 : decode cX11_drawMonth 26 = .ok (.invokevirtual 300, 3) := by decide +kernel
theorem dX11_drawMonth_29 : decode cX11_drawMonth 29 = .ok (.istore_n 2, 1) := by decide +kernel
theorem dX11_drawMonth_30 : decode cX11_drawMonth 30 = .ok (.aload_n 0, 1) := by decide +kernel
theorem dX11_drawMonth_31 : decode cX11_drawMonth 31 = .ok (.getfield 64, 3) := by decide +kernel
theorem dX11_drawMonth_34 : decode cX11_drawMonth 34 = .ok (.bipush 50, 2) := by decide +kernel
theorem dX11_drawMonth_36 : decode cX11_drawMonth 36 = .ok (.invokevirtual 300, 3) := by decide +kernel
theorem dX11_drawMonth_39 : decode cX11_drawMonth 39 = .ok (.istore_n 3, 1) := by decide +kernel
theorem dX11_drawMonth_40 : decode cX11_drawMonth 40 = .ok (.iload_n 1, 1) := by decide +kernel
theorem dX11_drawMonth_41 : decode cX11_drawMonth 41 = .ok (.ifCond .ne 15, 3) := by decide +kernel
theorem dX11_drawMonth_44 : decode cX11_drawMonth 44 = .ok (.aload_n 0, 1) := by decide +kernel
theorem dX11_drawMonth_45 : decode cX11_drawMonth 45 = .ok (.getfield 40, 3) := by decide +kernel
theorem dX11_drawMonth_48 : decode cX11_drawMonth 48 = .ok (.iload_n 2, 1) := by decide +kernel
theorem dX11_drawMonth_49 : decode cX11_drawMonth 49 = .ok (.iload_n 3, 1) := by decide +kernel
theorem dX11_drawMonth_50 : decode cX11_drawMonth 50 = .ok (.invokevirtual 185, 3) := by decide +kernel
theorem dX11_drawMonth_53 : decode cX11_drawMonth 53 = .ok (.goto 12, 3) := by decide +kernel
theorem dX11_drawMonth_56 : decode cX11_drawMonth 56 = .ok (.aload_n 0, 1) := by decide +kernel
theorem dX11_drawMonth_57 : decode cX11_drawMonth 57 = .ok (.getfield 40, 3) := by decide +kernel
theorem dX11_drawMonth_60 : decode cX11_drawMonth 60 = .ok (.iload_n 2, 1) := by decide +kernel
theorem dX11_drawMonth_61 : decode cX11_drawMonth 61 = .ok (.iload_n 3, 1) := by decide +kernel
theorem dX11_drawMonth_62 : decode cX11_drawMonth 62 = .ok (.invokevirtual 189, 3) := by decide +kernel
theorem dX11_drawMonth_65 : decode cX11_drawMonth 65 = .ok (.return_, 1) := by decide +kernel
theorem dX11_layWay_0 : decode cX11_layWay 0 = .ok (.aload_n 0, 1) := by decide +kernel
theorem dX11_layWay_1 : decode cX11_layWay 1 = .ok (.getfield 83, 3) := by decide +kernel
theorem dX11_layWay_4 : decode cX11_layWay 4 = .ok (.aload_n 0, 1) := by decide +kernel
theorem dX11_layWay_5 : decode cX11_layWay 5 = .ok (.getfield 30, 3) := by decide +kernel
theorem dX11_layWay_8 : decode cX11_layWay 8 = .ok (.aload_n 0, 1) := by decide +kernel
theorem dX11_layWay_9 : decode cX11_layWay 9 = .ok (.getfield 40, 3) := by decide +kernel
theorem dX11_layWay_12 : decode cX11_layWay 12 = .ok (.iload_n 1, 1) := by decide +kernel
theorem dX11_layWay_13 : decode cX11_layWay 13 = .ok (.invokevirtual 158, 3) := by decide +kernel
theorem dX11_layWay_16 : decode cX11_layWay 16 = .ok (.aload_n 0, 1) := by decide +kernel
theorem dX11_layWay_17 : decode cX11_layWay 17 = .ok (.getfield 40, 3) := by decide +kernel
theorem dX11_layWay_20 : decode cX11_layWay 20 = .ok (.iload_n 1, 1) := by decide +kernel
theorem dX11_layWay_21 : decode cX11_layWay 21 = .ok (.invokevirtual 162, 3) := by decide +kernel
theorem dX11_layWay_24 : decode cX11_layWay 24 = .ok (.aload_n 0, 1) := by decide +kernel
theorem dX11_layWay_25 : decode cX11_layWay 25 = .ok (.getfield 30, 3) := by decide +kernel
theorem dX11_layWay_28 : decode cX11_layWay 28 = .ok (.iload_n 1, 1) := by decide +kernel
theorem dX11_layWay_29 : decode cX11_layWay 29 = .ok (.invokevirtual 168, 3) := by decide +kernel
theorem dX11_layWay_32 : decode cX11_layWay 32 = .ok (.iload_n 2, 1) := by decide +kernel
theorem dX11_layWay_33 : decode cX11_layWay 33 = .ok (.invokevirtual 223, 3) := by decide +kernel
theorem dX11_layWay_36 : decode cX11_layWay 36 = .ok (.return_, 1) := by decide +kernel
theorem dX11_tryPulls_0 : decode cX11_tryPulls 0 = .ok (.aload_n 0, 1) := by decide +kernel
theorem dX11_tryPulls_1 : decode cX11_tryPulls 1 = .ok (.iload_n 1, 1) := by decide +kernel
theorem dX11_tryPulls_2 : decode cX11_tryPulls 2 = .ok (.iload_n 2, 1) := by decide +kernel
theorem dX11_tryPulls_3 : decode cX11_tryPulls 3 = .ok (.invokevirtual 208, 3) := by decide +kernel
theorem dX11_tryPulls_6 : decode cX11_tryPulls 6 = .ok (.iconst 0, 1) := by decide +kernel
theorem dX11_tryPulls_7 : decode cX11_tryPulls 7 = .ok (.istore_n 3, 1) := by decide +kernel
theorem dX11_tryPulls_8 : decode cX11_tryPulls 8 = .ok (.iload_n 3, 1) := by decide +kernel
theorem dX11_tryPulls_9 : decode cX11_tryPulls 9 = .ok (.aload_n 0, 1) := by decide +kernel
theorem dX11_tryPulls_10 : decode cX11_tryPulls 10 = .ok (.getfield 30, 3) := by decide +kernel
theorem dX11_tryPulls_13 : decode cX11_tryPulls 13 = .ok (.getfield 117, 3) := by decide +kernel
theorem dX11_tryPulls_16 : decode cX11_tryPulls 16 = .ok (.if_icmp .ge 64, 3) := by decide +kernel
theorem dX11_tryPulls_19 : decode cX11_tryPulls 19 = .ok (.aload_n 0, 1) := by decide +kernel
theorem dX11_tryPulls_20 : decode cX11_tryPulls 20 = .ok (.getfield 83, 3) := by decide +kernel
theorem dX11_tryPulls_23 : decode cX11_tryPulls 23 = .ok (.aload_n 0, 1) := by decide +kernel
theorem dX11_tryPulls_24 : decode cX11_tryPulls 24 = .ok (.getfield 83, 3) := by decide +kernel
theorem dX11_tryPulls_27 : decode cX11_tryPulls 27 = .ok (.aload_n 0, 1) := by decide +kernel
theorem dX11_tryPulls_28 : decode cX11_tryPulls 28 = .ok (.getfield 40, 3) := by decide +kernel
theorem dX11_tryPulls_31 : decode cX11_tryPulls 31 = .ok (.iload_n 3, 1) := by decide +kernel
theorem dX11_tryPulls_32 : decode cX11_tryPulls 32 = .ok (.invokevirtual 165, 3) := by decide +kernel
theorem dX11_tryPulls_35 : decode cX11_tryPulls 35 = .ok (.iload_n 2, 1) := by decide +kernel
theorem dX11_tryPulls_36 : decode cX11_tryPulls 36 = .ok (.invokevirtual 211, 3) := by decide +kernel
theorem dX11_tryPulls_39 : decode cX11_tryPulls 39 = .ok (.invokevirtual 215, 3) := by decide +kernel
theorem dX11_tryPulls_42 : decode cX11_tryPulls 42 = .ok (.istore 4, 2) := by decide +kernel
theorem dX11_tryPulls_44 : decode cX11_tryPulls 44 = .ok (.aload_n 0, 1) := by decide +kernel
theorem dX11_tryPulls_45 : decode cX11_tryPulls 45 = .ok (.getfield 44, 3) := by decide +kernel
theorem dX11_tryPulls_48 : decode cX11_tryPulls 48 = .ok (.iload_n 1, 1) := by decide +kernel
theorem dX11_tryPulls_49 : decode cX11_tryPulls 49 = .ok (.iaload, 1) := by decide +kernel
theorem dX11_tryPulls_50 : decode cX11_tryPulls 50 = .ok (.iconst (-1), 1) := by decide +kernel
theorem dX11_tryPulls_51 : decode cX11_tryPulls 51 = .ok (.if_icmp .eq 14, 3) := by decide +kernel
theorem dX11_tryPulls_54 : decode cX11_tryPulls 54 = .ok (.aload_n 0, 1) := by decide +kernel
theorem dX11_tryPulls_55 : decode cX11_tryPulls 55 = .ok (.getfield 44, 3) := by decide +kernel
theorem dX11_tryPulls_58 : decode cX11_tryPulls 58 = .ok (.iload_n 1, 1) := by decide +kernel
theorem dX11_tryPulls_59 : decode cX11_tryPulls 59 = .ok (.iaload, 1) := by decide +kernel
theorem dX11_tryPulls_60 : decode cX11_tryPulls 60 = .ok (.iload 4, 2) := by decide +kernel
theorem dX11_tryPulls_62 : decode cX11_tryPulls 62 = .ok (.if_icmp .ne 12, 3) := by decide +kernel
theorem dX11_tryPulls_65 : decode cX11_tryPulls 65 = .ok (.aload_n 0, 1) := by decide +kernel
theorem dX11_tryPulls_66 : decode cX11_tryPulls 66 = .ok (.getfield 97, 3) := by decide +kernel
theorem dX11_tryPulls_69 : decode cX11_tryPulls 69 = .ok (.iload_n 1, 1) := by decide +kernel
theorem dX11_tryPulls_70 : decode cX11_tryPulls 70 = .ok (.iload_n 3, 1) := by decide +kernel
theorem dX11_tryPulls_71 : decode cX11_tryPulls 71 = .ok (.invokevirtual 303, 3) := by decide +kernel
theorem dX11_tryPulls_74 : decode cX11_tryPulls 74 = .ok (.iinc 3 1, 3) := by decide +kernel
theorem dX11_tryPulls_77 : decode cX11_tryPulls 77 = .ok (.goto (-69), 3) := by decide +kernel
theorem dX11_tryPulls_80 : decode cX11_tryPulls 80 = .ok (.return_, 1) := by decide +kernel
theorem dX11_sortPulls_0 : decode cX11_sortPulls 0 = .ok (.aload_n 0, 1) := by decide +kernel
theorem dX11_sortPulls_1 : decode cX11_sortPulls 1 = .ok (.getfield 83, 3) := by decide +kernel
theorem dX11_sortPulls_4 : decode cX11_sortPulls 4 = .ok (.aload_n 0, 1) := by decide +kernel
theorem dX11_sortPulls_5 : decode cX11_sortPulls 5 = .ok (.getfield 30, 3) := by decide +kernel
theorem dX11_sortPulls_8 : decode cX11_sortPulls 8 = .ok (.aload_n 0, 1) := by decide +kernel
theorem dX11_sortPulls_9 : decode cX11_sortPulls 9 = .ok (.getfield 40, 3) := by decide +kernel
theorem dX11_sortPulls_12 : decode cX11_sortPulls 12 = .ok (.iload_n 1, 1) := by decide +kernel
theorem dX11_sortPulls_13 : decode cX11_sortPulls 13 = .ok (.invokevirtual 158, 3) := by decide +kernel
theorem dX11_sortPulls_16 : decode cX11_sortPulls 16 = .ok (.iconst (-1), 1) := by decide +kernel
theorem dX11_sortPulls_17 : decode cX11_sortPulls 17 = .ok (.aload_n 0, 1) := by decide +kernel
theorem dX11_sortPulls_18 : decode cX11_sortPulls 18 = .ok (.getfield 30, 3) := by decide +kernel
theorem dX11_sortPulls_21 : decode cX11_sortPulls 21 = .ok (.iload_n 1, 1) := by decide +kernel
theorem dX11_sortPulls_22 : decode cX11_sortPulls 22 = .ok (.invokevirtual 168, 3) := by decide +kernel
theorem dX11_sortPulls_25 : decode cX11_sortPulls 25 = .ok (.bipush 30, 2) := by decide +kernel
theorem dX11_sortPulls_27 : decode cX11_sortPulls 27 = .ok (.invokevirtual 223, 3) := by decide +kernel
theorem dX11_sortPulls_30 : decode cX11_sortPulls 30 = .ok (.aload_n 0, 1) := by decide +kernel
theorem dX11_sortPulls_31 : decode cX11_sortPulls 31 = .ok (.getfield 90, 3) := by decide +kernel
theorem dX11_sortPulls_34 : decode cX11_sortPulls 34 = .ok (.aload_n 0, 1) := by decide +kernel
theorem dX11_sortPulls_35 : decode cX11_sortPulls 35 = .ok (.getfield 83, 3) := by decide +kernel
theorem dX11_sortPulls_38 : decode cX11_sortPulls 38 = .ok (.aload_n 0, 1) := by decide +kernel
theorem dX11_sortPulls_39 : decode cX11_sortPulls 39 = .ok (.getfield 73, 3) := by decide +kernel
theorem dX11_sortPulls_42 : decode cX11_sortPulls 42 = .ok (.iload_n 1, 1) := by decide +kernel
theorem dX11_sortPulls_43 : decode cX11_sortPulls 43 = .ok (.invokevirtual 306, 3) := by decide +kernel
theorem dX11_sortPulls_46 : decode cX11_sortPulls 46 = .ok (.return_, 1) := by decide +kernel
theorem dX12_init_0 : decode cX12_init 0 = .ok (.aload_n 0, 1) := by decide +kernel
theorem dX12_init_1 : decode cX12_init 1 = .ok (.invokespecial 1, 3) := by decide +kernel
theorem dX12_init_4 : decode cX12_init 4 = .ok (.aload_n 0, 1) := by decide +kernel
