theorem dX0_init_0 : decode cX0_init 0 = .ok (.aload_n 0, 1) := by decide +kernel
theorem dX0_init_1 : decode cX0_init 1 = .ok (.invokespecial 3, 3) := by decide +kernel
theorem dX0_init_4 : decode cX0_init 4 = .ok (.aload_n 0, 1) := by decide +kernel
theorem dX0_init_5 : decode cX0_init 5 = .ok (.bipush 31, 2) := by decide +kernel
theorem dX0_init_7 : decode cX0_init 7 = .ok (.newarray .int, 2) := by decide +kernel
theorem dX0_init_9 : decode cX0_init 9 = .ok (.putfield 11, 3) := by decide +kernel
theorem dX0_init_12 : decode cX0_init 12 = .ok (.aload_n 0, 1) := by decide +kernel
theorem dX0_init_13 : decode cX0_init 13 = .ok (.bipush 31, 2) := by decide +kernel
theorem dX0_init_15 : decode cX0_init 15 = .ok (.newarray .int, 2) := by decide +kernel
theorem dX0_init_17 : decode cX0_init 17 = .ok (.putfield 15, 3) := by decide +kernel
theorem dX0_init_20 : decode cX0_init 20 = .ok (.aload_n 0, 1) := by decide +kernel
theorem dX0_init_21 : decode cX0_init 21 = .ok (.bipush 9, 2) := by decide +kernel
theorem dX0_init_23 : decode cX0_init 23 = .ok (.newarray .int, 2) := by decide +kernel
theorem dX0_init_25 : decode cX0_init 25 = .ok (.putfield 18, 3) := by decide +kernel
theorem dX0_init_28 : decode cX0_init 28 = .ok (.return_, 1) := by decide +kernel
theorem dX0_sort_0 : decode cX0_sort 0 = .ok (.iconst 0, 1) := by decide +kernel
theorem dX0_sort_1 : decode cX0_sort 1 = .ok (.istore 4, 2) := by decide +kernel
theorem dX0_sort_3 : decode cX0_sort 3 = .ok (.iload 4, 2) := by decide +kernel
theorem dX0_sort_5 : decode cX0_sort 5 = .ok (.bipush 31, 2) := by decide +kernel
theorem dX0_sort_7 : decode cX0_sort 7 = .ok (.if_icmp .ge 59, 3) := by decide +kernel
theorem dX0_sort_10 : decode cX0_sort 10 = .ok (.aload_n 0, 1) := by decide +kernel
theorem dX0_sort_11 : decode cX0_sort 11 = .ok (.getfield 11, 3) := by decide +kernel
theorem dX0_sort_14 : decode cX0_sort 14 = .ok (.iload 4, 2) := by decide +kernel
theorem dX0_sort_16 : decode cX0_sort 16 = .ok (.aload_n 1, 1) := by decide +kernel
theorem dX0_sort_17 : decode cX0_sort 17 = .ok (.iload 4, 2) := by decide +kernel
theorem dX0_sort_19 : decode cX0_sort 19 = .ok (.invokevirtual 21, 3) := by decide +kernel
theorem dX0_sort_22 : decode cX0_sort 22 = .ok (.iastore, 1) := by decide +kernel
theorem dX0_sort_23 : decode cX0_sort 23 = .ok (.aload_n 0, 1) := by decide +kernel
theorem dX0_sort_24 : decode cX0_sort 24 = .ok (.getfield 15, 3) := by decide +kernel
theorem dX0_sort_27 : decode cX0_sort 27 = .ok (.iload 4, 2) := by decide +kernel
theorem dX0_sort_29 : decode cX0_sort 29 = .ok (.aload_n 1, 1) := by decide +kernel
theorem dX0_sort_30 : decode cX0_sort 30 = .ok (.aload_n 2, 1) := by decide +kernel
theorem dX0_sort_31 : decode cX0_sort 31 = .ok (.iload_n 3, 1) := by decide +kernel
theorem dX0_sort_32 : decode cX0_sort 32 = .ok (.iload 4, 2) := by decide +kernel
theorem dX0_sort_34 : decode cX0_sort 34 = .ok (.invokestatic 27, 3) := by decide +kernel
theorem dX0_sort_37 : decode cX0_sort 37 = .ok (.ifCond .eq 21, 3) := by decide +kernel
theorem dX0_sort_40 : decode cX0_sort 40 = .ok (.aload_n 1, 1) := by decide +kernel
theorem dX0_sort_41 : decode cX0_sort 41 = .ok (.iload 4, 2) := by decide +kernel
theorem dX0_sort_43 : decode cX0_sort 43 = .ok (.iconst 1, 1) := by decide +kernel
theorem dX0_sort_44 : decode cX0_sort 44 = .ok (.iadd, 1) := by decide +kernel
theorem dX0_sort_45 : decode cX0_sort 45 = .ok (.invokevirtual 21, 3) := by decide +kernel
theorem dX0_sort_48 : decode cX0_sort 48 = .ok (.aload_n 1, 1) := by decide +kernel
theorem dX0_sort_49 : decode cX0_sort 49 = .ok (.iload 4, 2) := by decide +kernel
theorem dX0_sort_51 : decode cX0_sort 51 = .ok (.invokevirtual 21, 3) := by decide +kernel
theorem dX0_sort_54 : decode cX0_sort 54 = .ok (.isub, 1) := by decide +kernel
theorem dX0_sort_55 : decode cX0_sort 55 = .ok (.goto 4, 3) := by decide +kernel
theorem dX0_sort_58 : decode cX0_sort 58 = .ok (.iconst 0, 1) := by decide +kernel
theorem dX0_sort_59 : decode cX0_sort 59 = .ok (.iastore, 1) := by decide +kernel
theorem dX0_sort_60 : decode cX0_sort 60 = .ok (.iinc 4 1, 3) := by decide +kernel
theorem dX0_sort_63 : decode cX0_sort 63 = .ok (.goto (-60), 3) := by decide +kernel
theorem dX0_sort_66 : decode cX0_sort 66 = .ok (.return_, 1) := by decide +kernel
theorem dX0_fits_0 : decode cX0_fits 0 = .ok (.iconst 0, 1) := by decide +kernel
theorem dX0_fits_1 : decode cX0_fits 1 = .ok (.istore 4, 2) := by decide +kernel
theorem dX0_fits_3 : decode cX0_fits 3 = .ok (.iload 4, 2) := by decide +kernel
theorem dX0_fits_5 : decode cX0_fits 5 = .ok (.aload_n 1, 1) := by decide +kernel
theorem dX0_fits_6 : decode cX0_fits 6 = .ok (.getfield 31, 3) := by decide +kernel
theorem dX0_fits_9 : decode cX0_fits 9 = .ok (.if_icmp .ge 47, 3) := by decide +kernel
theorem dX0_fits_12 : decode cX0_fits 12 = .ok (.aload_n 1, 1) := by decide +kernel
theorem dX0_fits_13 : decode cX0_fits 13 = .ok (.iload 4, 2) := by decide +kernel
theorem dX0_fits_15 : decode cX0_fits 15 = .ok (.invokevirtual 37, 3) := by decide +kernel
theorem dX0_fits_18 : decode cX0_fits 18 = .ok (.iload_n 2, 1) := by decide +kernel
theorem dX0_fits_19 : decode cX0_fits 19 = .ok (.if_icmp .eq 6, 3) := by decide +kernel
theorem dX0_fits_22 : decode cX0_fits 22 = .ok (.goto 28, 3) := by decide +kernel
theorem dX0_fits_25 : decode cX0_fits 25 = .ok (.aload_n 0, 1) := by decide +kernel
theorem dX0_fits_26 : decode cX0_fits 26 = .ok (.iload_n 3, 1) := by decide +kernel
theorem dX0_fits_27 : decode cX0_fits 27 = .ok (.aload_n 1, 1) := by decide +kernel
theorem dX0_fits_28 : decode cX0_fits 28 = .ok (.iload 4, 2) := by decide +kernel
theorem dX0_fits_30 : decode cX0_fits 30 = .ok (.invokevirtual 40, 3) := by decide +kernel
theorem dX0_fits_33 : decode cX0_fits 33 = .ok (.invokestatic 43, 3) := by decide +kernel
theorem dX0_fits_36 : decode cX0_fits 36 = .ok (.invokevirtual 49, 3) := by decide +kernel
theorem dX0_fits_39 : decode cX0_fits 39 = .ok (.aload_n 1, 1) := by decide +kernel
theorem dX0_fits_40 : decode cX0_fits 40 = .ok (.iload 4, 2) := by decide +kernel
theorem dX0_fits_42 : decode cX0_fits 42 = .ok (.invokevirtual 52, 3) := by decide +kernel
theorem dX0_fits_45 : decode cX0_fits 45 = .ok (.if_icmp .eq 5, 3) := by decide +kernel
theorem dX0_fits_48 : decode cX0_fits 48 = .ok (.iconst 0, 1) := by decide +kernel
theorem dX0_fits_49 : decode cX0_fits 49 = .ok (.ireturn, 1) := by decide +kernel
theorem dX0_fits_50 : decode cX0_fits 50 = .ok (.iinc 4 1, 3) := by decide +kernel
theorem dX0_fits_53 : decode cX0_fits 53 = .ok (.goto (-50), 3) := by decide +kernel
theorem dX0_fits_56 : decode cX0_fits 56 = .ok (.iconst 1, 1) := by decide +kernel
theorem dX0_fits_57 : decode cX0_fits 57 = .ok (.ireturn, 1) := by decide +kernel
theorem dX0_total_0 : decode cX0_total 0 = .ok (.iconst 0, 1) := by decide +kernel
theorem dX0_total_1 : decode cX0_total 1 = .ok (.istore_n 1, 1) := by decide +kernel
theorem dX0_total_2 : decode cX0_total 2 = .ok (.iconst 0, 1) := by decide +kernel
theorem dX0_total_3 : decode cX0_total 3 = .ok (.istore_n 2, 1) := by decide +kernel
theorem dX0_total_4 : decode cX0_total 4 = .ok (.iload_n 2, 1) := by decide +kernel
theorem dX0_total_5 : decode cX0_total 5 = .ok (.bipush 31, 2) := by decide +kernel
theorem dX0_total_7 : decode cX0_total 7 = .ok (.if_icmp .ge 18, 3) := by decide +kernel
theorem dX0_total_10 : decode cX0_total 10 = .ok (.iload_n 1, 1) := by decide +kernel
theorem dX0_total_11 : decode cX0_total 11 = .ok (.aload_n 0, 1) := by decide +kernel
theorem dX0_total_12 : decode cX0_total 12 = .ok (.getfield 15, 3) := by decide +kernel
theorem dX0_total_15 : decode cX0_total 15 = .ok (.iload_n 2, 1) := by decide +kernel
theorem dX0_total_16 : decode cX0_total 16 = .ok (.iaload, 1) := by decide +kernel
theorem dX0_total_17 : decode cX0_total 17 = .ok (.iadd, 1) := by decide +kernel
theorem dX0_total_18 : decode cX0_total 18 = .ok (.istore_n 1, 1) := by decide +kernel
theorem dX0_total_19 : decode cX0_total 19 = .ok (.iinc 2 1, 3) := by decide +kernel
theorem dX0_total_22 : decode cX0_total 22 = .ok (.goto (-18), 3) := by decide +kernel
theorem dX0_total_25 : decode cX0_total 25 = .ok (.iload_n 1, 1) := by decide +kernel
theorem dX0_total_26 : decode cX0_total 26 = .ok (.ireturn, 1) := by decide +kernel
theorem dX0_pullAt_0 : decode cX0_pullAt 0 = .ok (.iload_n 1, 1) := by decide +kernel
theorem dX0_pullAt_1 : decode cX0_pullAt 1 = .ok (.ifCond .ge 5, 3) := by decide +kernel
theorem dX0_pullAt_4 : decode cX0_pullAt 4 = .ok (.iconst (-1), 1) := by decide +kernel
theorem dX0_pullAt_5 : decode cX0_pullAt 5 = .ok (.ireturn, 1) := by decide +kernel
theorem dX0_pullAt_6 : decode cX0_pullAt 6 = .ok (.iconst 0, 1) := by decide +kernel
theorem dX0_pullAt_7 : decode cX0_pullAt 7 = .ok (.istore_n 2, 1) := by decide +kernel
theorem dX0_pullAt_8 : decode cX0_pullAt 8 = .ok (.iconst 0, 1) := by decide +kernel
theorem dX0_pullAt_9 : decode cX0_pullAt 9 = .ok (.istore_n 3, 1) := by decide +kernel
theorem dX0_pullAt_10 : decode cX0_pullAt 10 = .ok (.iload_n 3, 1) := by decide +kernel
theorem dX0_pullAt_11 : decode cX0_pullAt 11 = .ok (.bipush 31, 2) := by decide +kernel
theorem dX0_pullAt_13 : decode cX0_pullAt 13 = .ok (.if_icmp .ge 41, 3) := by decide +kernel
theorem dX0_pullAt_16 : decode cX0_pullAt 16 = .ok (.iload_n 1, 1) := by decide +kernel
theorem dX0_pullAt_17 : decode cX0_pullAt 17 = .ok (.iload_n 2, 1) := by decide +kernel
theorem dX0_pullAt_18 : decode cX0_pullAt 18 = .ok (.aload_n 0, 1) := by decide +kernel
theorem dX0_pullAt_19 : decode cX0_pullAt 19 = .ok (.getfield 15, 3) := by decide +kernel
theorem dX0_pullAt_22 : decode cX0_pullAt 22 = .ok (.iload_n 3, 1) := by decide +kernel
theorem dX0_pullAt_23 : decode cX0_pullAt 23 = .ok (.iaload, 1) := by decide +kernel
theorem dX0_pullAt_24 : decode cX0_pullAt 24 = .ok (.iadd, 1) := by decide +kernel
theorem dX0_pullAt_25 : decode cX0_pullAt 25 = .ok (.if_icmp .ge 14, 3) := by decide +kernel
theorem dX0_pullAt_28 : decode cX0_pullAt 28 = .ok (.aload_n 0, 1) := by decide +kernel
theorem dX0_pullAt_29 : decode cX0_pullAt 29 = .ok (.getfield 11, 3) := by decide +kernel
theorem dX0_pullAt_32 : decode cX0_pullAt 32 = .ok (.iload_n 3, 1) := by decide +kernel
theorem dX0_pullAt_33 : decode cX0_pullAt 33 = .ok (.iaload, 1) := by decide +kernel
theorem dX0_pullAt_34 : decode cX0_pullAt 34 = .ok (.iload_n 1, 1) := by decide +kernel
theorem dX0_pullAt_35 : decode cX0_pullAt 35 = .ok (.iadd, 1) := by decide +kernel
theorem dX0_pullAt_36 : decode cX0_pullAt 36 = .ok (.iload_n 2, 1) := by decide +kernel
theorem dX0_pullAt_37 : decode cX0_pullAt 37 = .ok (.isub, 1) := by decide +kernel
theorem dX0_pullAt_38 : decode cX0_pullAt 38 = .ok (.ireturn, 1) := by decide +kernel
theorem dX0_pullAt_39 : decode cX0_pullAt 39 = .ok (.iload_n 2, 1) := by decide +kernel
theorem dX0_pullAt_40 : decode cX0_pullAt 40 = .ok (.aload_n 0, 1) := by decide +kernel
theorem dX0_pullAt_41 : decode cX0_pullAt 41 = .ok (.getfield 15, 3) := by decide +kernel
theorem dX0_pullAt_44 : decode cX0_pullAt 44 = .ok (.iload_n 3, 1) := by decide +kernel
theorem dX0_pullAt_45 : decode cX0_pullAt 45 = .ok (.iaload, 1) := by decide +kernel
theorem dX0_pullAt_46 : decode cX0_pullAt 46 = .ok (.iadd, 1) := by decide +kernel
theorem dX0_pullAt_47 : decode cX0_pullAt 47 = .ok (.istore_n 2, 1) := by decide +kernel
theorem dX0_pullAt_48 : decode cX0_pullAt 48 = .ok (.iinc 3 1, 3) := by decide +kernel
theorem dX0_pullAt_51 : decode cX0_pullAt 51 = .ok (.goto (-41), 3) := by decide +kernel
theorem dX0_pullAt_54 : decode cX0_pullAt 54 = .ok (.iconst (-1), 1) := by decide +kernel
theorem dX0_pullAt_55 : decode cX0_pullAt 55 = .ok (.ireturn, 1) := by decide +kernel
theorem dX0_bestParting_0 : decode cX0_bestParting 0 = .ok (.iconst (-1), 1) := by decide +kernel
theorem dX0_bestParting_1 : decode cX0_bestParting 1 = .ok (.istore_n 2, 1) := by decide +kernel
theorem dX0_bestParting_2 : decode cX0_bestParting 2 = .ok (.aload_n 0, 1) := by decide +kernel
theorem dX0_bestParting_3 : decode cX0_bestParting 3 = .ok (.invokevirtual 55, 3) := by decide +kernel
theorem dX0_bestParting_6 : decode cX0_bestParting 6 = .ok (.istore_n 3, 1) := by decide +kernel
theorem dX0_bestParting_7 : decode cX0_bestParting 7 = .ok (.iconst 1, 1) := by decide +kernel
theorem dX0_bestParting_8 : decode cX0_bestParting 8 = .ok (.istore 4, 2) := by decide +kernel
theorem dX0_bestParting_10 : decode cX0_bestParting 10 = .ok (.iload 4, 2) := by decide +kernel
theorem dX0_bestParting_12 : decode cX0_bestParting 12 = .ok (.bipush 30, 2) := by decide +kernel
theorem dX0_bestParting_14 : decode cX0_bestParting 14 = .ok (.if_icmp .gt 30, 3) := by decide +kernel
theorem dX0_bestParting_17 : decode cX0_bestParting 17 = .ok (.aload_n 0, 1) := by decide +kernel
theorem dX0_bestParting_18 : decode cX0_bestParting 18 = .ok (.aload_n 1, 1) := by decide +kernel
theorem dX0_bestParting_19 : decode cX0_bestParting 19 = .ok (.iload 4, 2) := by decide +kernel
theorem dX0_bestParting_21 : decode cX0_bestParting 21 = .ok (.invokevirtual 59, 3) := by decide +kernel
theorem dX0_bestParting_24 : decode cX0_bestParting 24 = .ok (.istore 5, 2) := by decide +kernel
theorem dX0_bestParting_26 : decode cX0_bestParting 26 = .ok (.iload 5, 2) := by decide +kernel
theorem dX0_bestParting_28 : decode cX0_bestParting 28 = .ok (.iload_n 3, 1) := by decide +kernel
theorem dX0_bestParting_29 : decode cX0_bestParting 29 = .ok (.if_icmp .ge 9, 3) := by decide +kernel
theorem dX0_bestParting_32 : decode cX0_bestParting 32 = .ok (.iload 5, 2) := by decide +kernel
theorem dX0_bestParting_34 : decode cX0_bestParting 34 = .ok (.istore_n 3, 1) := by decide +kernel
theorem dX0_bestParting_35 : decode cX0_bestParting 35 = .ok (.iload 4, 2) := by decide +kernel
theorem dX0_bestParting_37 : decode cX0_bestParting 37 = .ok (.istore_n 2, 1) := by decide +kernel
theorem dX0_bestParting_38 : decode cX0_bestParting 38 = .ok (.iinc 4 1, 3) := by decide +kernel
theorem dX0_bestParting_41 : decode cX0_bestParting 41 = .ok (.goto (-31), 3) := by decide +kernel
theorem dX0_bestParting_44 : decode cX0_bestParting 44 = .ok (.iload_n 2, 1) := by decide +kernel
theorem dX0_bestParting_45 : decode cX0_bestParting 45 = .ok (.ireturn, 1) := by decide +kernel
theorem dX0_greatestPart_0 : decode cX0_greatestPart 0 = .ok (.iconst 0, 1) := by decide +kernel
theorem dX0_greatestPart_1 : decode cX0_greatestPart 1 = .ok (.istore_n 3, 1) := by decide +kernel
theorem dX0_greatestPart_2 : decode cX0_greatestPart 2 = .ok (.iload_n 3, 1) := by decide +kernel
theorem dX0_greatestPart_3 : decode cX0_greatestPart 3 = .ok (.bipush 9, 2) := by decide +kernel
theorem dX0_greatestPart_5 : decode cX0_greatestPart 5 = .ok (.if_icmp .ge 16, 3) := by decide +kernel
theorem dX0_greatestPart_8 : decode cX0_greatestPart 8 = .ok (.aload_n 0, 1) := by decide +kernel
theorem dX0_greatestPart_9 : decode cX0_greatestPart 9 = .ok (.getfield 18, 3) := by decide +kernel
theorem dX0_greatestPart_12 : decode cX0_greatestPart 12 = .ok (.iload_n 3, 1) := by decide +kernel
theorem dX0_greatestPart_13 : decode cX0_greatestPart 13 = .ok (.iconst 0, 1) := by decide +kernel
theorem dX0_greatestPart_14 : decode cX0_greatestPart 14 = .ok (.iastore, 1) := by decide +kernel
theorem dX0_greatestPart_15 : decode cX0_greatestPart 15 = .ok (.iinc 3 1, 3) := by decide +kernel
theorem dX0_greatestPart_18 : decode cX0_greatestPart 18 = .ok (.goto (-16), 3) := by decide +kernel
theorem dX0_greatestPart_21 : decode cX0_greatestPart 21 = .ok (.iconst 0, 1) := by decide +kernel
theorem dX0_greatestPart_22 : decode cX0_greatestPart 22 = .ok (.istore_n 3, 1) := by decide +kernel
theorem dX0_greatestPart_23 : decode cX0_greatestPart 23 = .ok (.iconst 0, 1) := by decide +kernel
theorem dX0_greatestPart_24 : decode cX0_greatestPart 24 = .ok (.istore 4, 2) := by decide +kernel
theorem dX0_greatestPart_26 : decode cX0_greatestPart 26 = .ok (.iload 4, 2) := by decide +kernel
theorem dX0_greatestPart_28 : decode cX0_greatestPart 28 = .ok (.bipush 31, 2) := by decide +kernel
theorem dX0_greatestPart_30 : decode cX0_greatestPart 30 = .ok (.if_icmp .ge 65, 3) := by decide +kernel
theorem dX0_greatestPart_33 : decode cX0_greatestPart 33 = .ok (.aload_n 1, 1) := by decide +kernel
theorem dX0_greatestPart_34 : decode cX0_greatestPart 34 = .ok (.iload 4, 2) := by decide +kernel
theorem dX0_greatestPart_36 : decode cX0_greatestPart 36 = .ok (.iload_n 2, 1) := by decide +kernel
theorem dX0_greatestPart_37 : decode cX0_greatestPart 37 = .ok (.invokestatic 43, 3) := by decide +kernel
theorem dX0_greatestPart_40 : decode cX0_greatestPart 40 = .ok (.invokevirtual 49, 3) := by decide +kernel
theorem dX0_greatestPart_43 : decode cX0_greatestPart 43 = .ok (.istore 5, 2) := by decide +kernel
theorem dX0_greatestPart_45 : decode cX0_greatestPart 45 = .ok (.iload 5, 2) := by decide +kernel
theorem dX0_greatestPart_47 : decode cX0_greatestPart 47 = .ok (.ifCond .lt 42, 3) := by decide +kernel
theorem dX0_greatestPart_50 : decode cX0_greatestPart 50 = .ok (.iload 5, 2) := by decide +kernel
theorem dX0_greatestPart_52 : decode cX0_greatestPart 52 = .ok (.bipush 9, 2) := by decide +kernel
theorem dX0_greatestPart_54 : decode cX0_greatestPart 54 = .ok (.if_icmp .lt 6, 3) := by decide +kernel
theorem dX0_greatestPart_57 : decode cX0_greatestPart 57 = .ok (.goto 32, 3) := by decide +kernel
theorem dX0_greatestPart_60 : decode cX0_greatestPart 60 = .ok (.aload_n 0, 1) := by decide +kernel
theorem dX0_greatestPart_61 : decode cX0_greatestPart 61 = .ok (.getfield 18, 3) := by decide +kernel
theorem dX0_greatestPart_64 : decode cX0_greatestPart 64 = .ok (.iload 5, 2) := by decide +kernel
theorem dX0_greatestPart_66 : decode cX0_greatestPart 66 = .ok (.dup2, 1) := by decide +kernel
theorem dX0_greatestPart_67 : decode cX0_greatestPart 67 = .ok (.iaload, 1) := by decide +kernel
theorem dX0_greatestPart_68 : decode cX0_greatestPart 68 = .ok (.aload_n 0, 1) := by decide +kernel
theorem dX0_greatestPart_69 : decode cX0_greatestPart 69 = .ok (.getfield 15, 3) := by decide +kernel
theorem dX0_greatestPart_72 : decode cX0_greatestPart 72 = .ok (.iload 4, 2) := by decide +kernel
theorem dX0_greatestPart_74 : decode cX0_greatestPart 74 = .ok (.iaload, 1) := by decide +kernel
theorem dX0_greatestPart_75 : decode cX0_greatestPart 75 = .ok (.iadd, 1) := by decide +kernel
theorem dX0_greatestPart_76 : decode cX0_greatestPart 76 = .ok (.iastore, 1) := by decide +kernel
theorem dX0_greatestPart_77 : decode cX0_greatestPart 77 = .ok (.iload_n 3, 1) := by decide +kernel
theorem dX0_greatestPart_78 : decode cX0_greatestPart 78 = .ok (.aload_n 0, 1) := by decide +kernel
theorem dX0_greatestPart_79 : decode cX0_greatestPart 79 = .ok (.getfield 18, 3) := by decide +kernel
theorem dX0_greatestPart_82 : decode cX0_greatestPart 82 = .ok (.iload 5, 2) := by decide +kernel
theorem dX0_greatestPart_84 : decode cX0_greatestPart 84 = .ok (.iaload, 1) := by decide +kernel
theorem dX0_greatestPart_85 : decode cX0_greatestPart 85 = .ok (.invokestatic 63, 3) := by decide +kernel
theorem dX0_greatestPart_88 : decode cX0_greatestPart 88 = .ok (.istore_n 3, 1) := by decide +kernel
theorem dX0_greatestPart_89 : decode cX0_greatestPart 89 = .ok (.iinc 4 1, 3) := by decide +kernel
theorem dX0_greatestPart_92 : decode cX0_greatestPart 92 = .ok (.goto (-66), 3) := by decide +kernel
theorem dX0_greatestPart_95 : decode cX0_greatestPart 95 = .ok (.iload_n 3, 1) := by decide +kernel
theorem dX0_greatestPart_96 : decode cX0_greatestPart 96 = .ok (.ireturn, 1) := by decide +kernel
theorem dX1_init_0 : decode cX1_init 0 = .ok (.aload_n 0, 1) := by decide +kernel
theorem dX1_init_1 : decode cX1_init 1 = .ok (.invokespecial 1, 3) := by decide +kernel
theorem dX1_init_4 : decode cX1_init 4 = .ok (.aload_n 0, 1) := by decide +kernel
theorem dX1_init_5 : decode cX1_init 5 = .ok (.iconst 0, 1) := by decide +kernel
theorem dX1_init_6 : decode cX1_init 6 = .ok (.putfield 7, 3) := by decide +kernel
theorem dX1_init_9 : decode cX1_init 9 = .ok (.return_, 1) := by decide +kernel
theorem dX1_next_0 : decode cX1_next 0 = .ok (.aload_n 0, 1) := by decide +kernel
theorem dX1_next_1 : decode cX1_next 1 = .ok (.aload_n 0, 1) := by decide +kernel
theorem dX1_next_2 : decode cX1_next 2 = .ok (.getfield 7, 3) := by decide +kernel
theorem dX1_next_5 : decode cX1_next 5 = .ok (.i2l, 1) := by decide +kernel
theorem dX1_next_6 : decode cX1_next 6 = .ok (.ldc2_w 13, 3) := by decide +kernel
theorem dX1_next_9 : decode cX1_next 9 = .ok (.lmul, 1) := by decide +kernel
theorem dX1_next_10 : decode cX1_next 10 = .ok (.ldc2_w 15, 3) := by decide +kernel
theorem dX1_next_13 : decode cX1_next 13 = .ok (.ladd, 1) := by decide +kernel
theorem dX1_next_14 : decode cX1_next 14 = .ok (.ldc2_w 17, 3) := by decide +kernel
theorem dX1_next_17 : decode cX1_next 17 = .ok (.land, 1) := by decide +kernel
theorem dX1_next_18 : decode cX1_next 18 = .ok (.l2i, 1) := by decide +kernel
theorem dX1_next_19 : decode cX1_next 19 = .ok (.putfield 7, 3) := by decide +kernel
theorem dX1_next_22 : decode cX1_next 22 = .ok (.iload_n 1, 1) := by decide +kernel
theorem dX1_next_23 : decode cX1_next 23 = .ok (.iconst 1, 1) := by decide +kernel
theorem dX1_next_24 : decode cX1_next 24 = .ok (.if_icmp .ge 7, 3) := by decide +kernel
theorem dX1_next_27 : decode cX1_next 27 = .ok (.iconst 0, 1) := by decide +kernel
theorem dX1_next_28 : decode cX1_next 28 = .ok (.goto 12, 3) := by decide +kernel
theorem dX1_next_31 : decode cX1_next 31 = .ok (.aload_n 0, 1) := by decide +kernel
theorem dX1_next_32 : decode cX1_next 32 = .ok (.getfield 7, 3) := by decide +kernel
theorem dX1_next_35 : decode cX1_next 35 = .ok (.ldc 19, 2) := by decide +kernel
theorem dX1_next_37 : decode cX1_next 37 = .ok (.idiv, 1) := by decide +kernel
theorem dX1_next_38 : decode cX1_next 38 = .ok (.iload_n 1, 1) := by decide +kernel
theorem dX1_next_39 : decode cX1_next 39 = .ok (.irem, 1) := by decide +kernel
theorem dX1_next_40 : decode cX1_next 40 = .ok (.ireturn, 1) := by decide +kernel
theorem dX2_init_0 : decode cX2_init 0 = .ok (.aload_n 0, 1) := by decide +kernel
theorem dX2_init_1 : decode cX2_init 1 = .ok (.invokespecial 3, 3) := by decide +kernel
theorem dX2_init_4 : decode cX2_init 4 = .ok (.aload_n 0, 1) := by decide +kernel
theorem dX2_init_5 : decode cX2_init 5 = .ok (.iconst 0, 1) := by decide +kernel
theorem dX2_init_6 : decode cX2_init 6 = .ok (.putfield 9, 3) := by decide +kernel
theorem dX2_init_9 : decode cX2_init 9 = .ok (.aload_n 0, 1) := by decide +kernel
theorem dX2_init_10 : decode cX2_init 10 = .ok (.iconst 0, 1) := by decide +kernel
theorem dX2_init_11 : decode cX2_init 11 = .ok (.iload_n 1, 1) := by decide +kernel
theorem dX2_init_12 : decode cX2_init 12 = .ok (.invokestatic 15, 3) := by decide +kernel
theorem dX2_init_15 : decode cX2_init 15 = .ok (.putfield 21, 3) := by decide +kernel
theorem dX2_init_18 : decode cX2_init 18 = .ok (.aload_n 0, 1) := by decide +kernel
theorem dX2_init_19 : decode cX2_init 19 = .ok (.aload_n 0, 1) := by decide +kernel
theorem dX2_init_20 : decode cX2_init 20 = .ok (.getfield 21, 3) := by decide +kernel
theorem dX2_init_23 : decode cX2_init 23 = .ok (.newarray .int, 2) := by decide +kernel
theorem dX2_init_25 : decode cX2_init 25 = .ok (.putfield 24, 3) := by decide +kernel
theorem dX2_init_28 : decode cX2_init 28 = .ok (.aload_n 0, 1) := by decide +kernel
theorem dX2_init_29 : decode cX2_init 29 = .ok (.aload_n 0, 1) := by decide +kernel
theorem dX2_init_30 : decode cX2_init 30 = .ok (.getfield 21, 3) := by decide +kernel
theorem dX2_init_33 : decode cX2_init 33 = .ok (.newarray .int, 2) := by decide +kernel
theorem dX2_init_35 : decode cX2_init 35 = .ok (.putfield 28, 3) := by decide +kernel
theorem dX2_init_38 : decode cX2_init 38 = .ok (.aload_n 0, 1) := by decide +kernel
theorem dX2_init_39 : decode cX2_init 39 = .ok (.aload_n 0, 1) := by decide +kernel
theorem dX2_init_40 : decode cX2_init 40 = .ok (.getfield 21, 3) := by decide +kernel
theorem dX2_init_43 : decode cX2_init 43 = .ok (.newarray .int, 2) := by decide +kernel
theorem dX2_init_45 : decode cX2_init 45 = .ok (.putfield 31, 3) := by decide +kernel
theorem dX2_init_48 : decode cX2_init 48 = .ok (.return_, 1) := by decide +kernel
theorem dX2_add_0 : decode cX2_add 0 = .ok (.aload_n 0, 1) := by decide +kernel
theorem dX2_add_1 : decode cX2_add 1 = .ok (.getfield 9, 3) := by decide +kernel
theorem dX2_add_4 : decode cX2_add 4 = .ok (.ifCond .lt 14, 3) := by decide +kernel
theorem dX2_add_7 : decode cX2_add 7 = .ok (.aload_n 0, 1) := by decide +kernel
theorem dX2_add_8 : decode cX2_add 8 = .ok (.getfield 9, 3) := by decide +kernel
theorem dX2_add_11 : decode cX2_add 11 = .ok (.aload_n 0, 1) := by decide +kernel
theorem dX2_add_12 : decode cX2_add 12 = .ok (.getfield 21, 3) := by decide +kernel
theorem dX2_add_15 : decode cX2_add 15 = .ok (.if_icmp .lt 5, 3) := by decide +kernel
theorem dX2_add_18 : decode cX2_add 18 = .ok (.iconst 0, 1) := by decide +kernel
theorem dX2_add_19 : decode cX2_add 19 = .ok (.ireturn, 1) := by decide +kernel
theorem dX2_add_20 : decode cX2_add 20 = .ok (.aload_n 0, 1) := by decide +kernel
theorem dX2_add_21 : decode cX2_add 21 = .ok (.getfield 24, 3) := by decide +kernel
theorem dX2_add_24 : decode cX2_add 24 = .ok (.aload_n 0, 1) := by decide +kernel
theorem dX2_add_25 : decode cX2_add 25 = .ok (.getfield 9, 3) := by decide +kernel
theorem dX2_add_28 : decode cX2_add 28 = .ok (.iload_n 1, 1) := by decide +kernel
theorem dX2_add_29 : decode cX2_add 29 = .ok (.iastore, 1) := by decide +kernel
theorem dX2_add_30 : decode cX2_add 30 = .ok (.aload_n 0, 1) := by decide +kernel
theorem dX2_add_31 : decode cX2_add 31 = .ok (.getfield 28, 3) := by decide +kernel
theorem dX2_add_34 : decode cX2_add 34 = .ok (.aload_n 0, 1) := by decide +kernel
theorem dX2_add_35 : decode cX2_add 35 = .ok (.getfield 9, 3) := by decide +kernel
theorem dX2_add_38 : decode cX2_add 38 = .ok (.iload_n 2, 1) := by decide +kernel
theorem dX2_add_39 : decode cX2_add 39 = .ok (.iastore, 1) := by decide +kernel
theorem dX2_add_40 : decode cX2_add 40 = .ok (.aload_n 0, 1) := by decide +kernel
theorem dX2_add_41 : decode cX2_add 41 = .ok (.getfield 31, 3) := by decide +kernel
theorem dX2_add_44 : decode cX2_add 44 = .ok (.aload_n 0, 1) := by decide +kernel
theorem dX2_add_45 : decode cX2_add 45 = .ok (.getfield 9, 3) := by decide +kernel
theorem dX2_add_48 : decode cX2_add 48 = .ok (.iload_n 3, 1) := by decide +kernel
theorem dX2_add_49 : decode cX2_add 49 = .ok (.iastore, 1) := by decide +kernel
theorem dX2_add_50 : decode cX2_add 50 = .ok (.aload_n 0, 1) := by decide +kernel
theorem dX2_add_51 : decode cX2_add 51 = .ok (.dup, 1) := by decide +kernel
theorem dX2_add_52 : decode cX2_add 52 = .ok (.getfield 9, 3) := by decide +kernel
theorem dX2_add_55 : decode cX2_add 55 = .ok (.iconst 1, 1) := by decide +kernel
theorem dX2_add_56 : decode cX2_add 56 = .ok (.iadd, 1) := by decide +kernel
theorem dX2_add_57 : decode cX2_add 57 = .ok (.putfield 9, 3) := by decide +kernel
theorem dX2_add_60 : decode cX2_add 60 = .ok (.iconst 1, 1) := by decide +kernel
theorem dX2_add_61 : decode cX2_add 61 = .ok (.ireturn, 1) := by decide +kernel
theorem dX2_has_0 : decode cX2_has 0 = .ok (.iload_n 1, 1) := by decide +kernel
theorem dX2_has_1 : decode cX2_has 1 = .ok (.ifCond .lt 23, 3) := by decide +kernel
theorem dX2_has_4 : decode cX2_has 4 = .ok (.iload_n 1, 1) := by decide +kernel
theorem dX2_has_5 : decode cX2_has 5 = .ok (.aload_n 0, 1) := by decide +kernel
theorem dX2_has_6 : decode cX2_has 6 = .ok (.getfield 9, 3) := by decide +kernel
theorem dX2_has_9 : decode cX2_has 9 = .ok (.if_icmp .ge 15, 3) := by decide +kernel
theorem dX2_has_12 : decode cX2_has 12 = .ok (.iload_n 1, 1) := by decide +kernel
theorem dX2_has_13 : decode cX2_has 13 = .ok (.aload_n 0, 1) := by decide +kernel
theorem dX2_has_14 : decode cX2_has 14 = .ok (.getfield 21, 3) := by decide +kernel
theorem dX2_has_17 : decode cX2_has 17 = .ok (.if_icmp .ge 7, 3) := by decide +kernel
theorem dX2_has_20 : decode cX2_has 20 = .ok (.iconst 1, 1) := by decide +kernel
theorem dX2_has_21 : decode cX2_has 21 = .ok (.goto 4, 3) := by decide +kernel
theorem dX2_has_24 : decode cX2_has 24 = .ok (.iconst 0, 1) := by decide +kernel
theorem dX2_has_25 : decode cX2_has 25 = .ok (.ireturn, 1) := by decide +kernel
theorem dX2_boatIn_0 : decode cX2_boatIn 0 = .ok (.aload_n 0, 1) := by decide +kernel
theorem dX2_boatIn_1 : decode cX2_boatIn 1 = .ok (.iload_n 1, 1) := by decide +kernel
theorem dX2_boatIn_2 : decode cX2_boatIn 2 = .ok (.invokevirtual 34, 3) := by decide +kernel
theorem dX2_boatIn_5 : decode cX2_boatIn 5 = .ok (.ifCond .eq 12, 3) := by decide +kernel
theorem dX2_boatIn_8 : decode cX2_boatIn 8 = .ok (.aload_n 0, 1) := by decide +kernel
theorem dX2_boatIn_9 : decode cX2_boatIn 9 = .ok (.getfield 24, 3) := by decide +kernel
theorem dX2_boatIn_12 : decode cX2_boatIn 12 = .ok (.iload_n 1, 1) := by decide +kernel
theorem dX2_boatIn_13 : decode cX2_boatIn 13 = .ok (.iaload, 1) := by decide +kernel
theorem dX2_boatIn_14 : decode cX2_boatIn 14 = .ok (.goto 4, 3) := by decide +kernel
theorem dX2_boatIn_17 : decode cX2_boatIn 17 = .ok (.iconst (-1), 1) := by decide +kernel
theorem dX2_boatIn_18 : decode cX2_boatIn 18 = .ok (.ireturn, 1) := by decide +kernel
theorem dX2_stepsIn_0 : decode cX2_stepsIn 0 = .ok (.aload_n 0, 1) := by decide +kernel
theorem dX2_stepsIn_1 : decode cX2_stepsIn 1 = .ok (.iload_n 1, 1) := by decide +kernel
theorem dX2_stepsIn_2 : decode cX2_stepsIn 2 = .ok (.invokevirtual 34, 3) := by decide +kernel
theorem dX2_stepsIn_5 : decode cX2_stepsIn 5 = .ok (.ifCond .eq 12, 3) := by decide +kernel
theorem dX2_stepsIn_8 : decode cX2_stepsIn 8 = .ok (.aload_n 0, 1) := by decide +kernel
theorem dX2_stepsIn_9 : decode cX2_stepsIn 9 = .ok (.getfield 28, 3) := by decide +kernel
theorem dX2_stepsIn_12 : decode cX2_stepsIn 12 = .ok (.iload_n 1, 1) := by decide +kernel
theorem dX2_stepsIn_13 : decode cX2_stepsIn 13 = .ok (.iaload, 1) := by decide +kernel
theorem dX2_stepsIn_14 : decode cX2_stepsIn 14 = .ok (.goto 4, 3) := by decide +kernel
theorem dX2_stepsIn_17 : decode cX2_stepsIn 17 = .ok (.iconst (-1), 1) := by decide +kernel
theorem dX2_stepsIn_18 : decode cX2_stepsIn 18 = .ok (.ireturn, 1) := by decide +kernel
theorem dX2_junctionIn_0 : decode cX2_junctionIn 0 = .ok (.aload_n 0, 1) := by decide +kernel
theorem dX2_junctionIn_1 : decode cX2_junctionIn 1 = .ok (.iload_n 1, 1) := by decide +kernel
theorem dX2_junctionIn_2 : decode cX2_junctionIn 2 = .ok (.invokevirtual 34, 3) := by decide +kernel
theorem dX2_junctionIn_5 : decode cX2_junctionIn 5 = .ok (.ifCond .eq 12, 3) := by decide +kernel
theorem dX2_junctionIn_8 : decode cX2_junctionIn 8 = .ok (.aload_n 0, 1) := by decide +kernel
theorem dX2_junctionIn_9 : decode cX2_junctionIn 9 = .ok (.getfield 31, 3) := by decide +kernel
theorem dX2_junctionIn_12 : decode cX2_junctionIn 12 = .ok (.iload_n 1, 1) := by decide +kernel
theorem dX2_junctionIn_13 : decode cX2_junctionIn 13 = .ok (.iaload, 1) := by decide +kernel
theorem dX2_junctionIn_14 : decode cX2_junctionIn 14 = .ok (.goto 4, 3) := by decide +kernel
theorem dX2_junctionIn_17 : decode cX2_junctionIn 17 = .ok (.iconst (-1), 1) := by decide +kernel
theorem dX2_junctionIn_18 : decode cX2_junctionIn 18 = .ok (.ireturn, 1) := by decide +kernel
theorem dX3_init_0 : decode cX3_init 0 = .ok (.aload_n 0, 1) := by decide +kernel
theorem dX3_init_1 : decode cX3_init 1 = .ok (.invokespecial 3, 3) := by decide +kernel
theorem dX3_init_4 : decode cX3_init 4 = .ok (.aload_n 0, 1) := by decide +kernel
theorem dX3_init_5 : decode cX3_init 5 = .ok (.iconst 0, 1) := by decide +kernel
theorem dX3_init_6 : decode cX3_init 6 = .ok (.putfield 9, 3) := by decide +kernel
theorem dX3_init_9 : decode cX3_init 9 = .ok (.aload_n 0, 1) := by decide +kernel
theorem dX3_init_10 : decode cX3_init 10 = .ok (.iconst 5, 1) := by decide +kernel
theorem dX3_init_11 : decode cX3_init 11 = .ok (.newarray .int, 2) := by decide +kernel
theorem dX3_init_13 : decode cX3_init 13 = .ok (.putfield 15, 3) := by decide +kernel
theorem dX3_init_16 : decode cX3_init 16 = .ok (.aload_n 0, 1) := by decide +kernel
theorem dX3_init_17 : decode cX3_init 17 = .ok (.iconst 5, 1) := by decide +kernel
theorem dX3_init_18 : decode cX3_init 18 = .ok (.newarray .int, 2) := by decide +kernel
theorem dX3_init_20 : decode cX3_init 20 = .ok (.putfield 19, 3) := by decide +kernel
theorem dX3_init_23 : decode cX3_init 23 = .ok (.aload_n 0, 1) := by decide +kernel
theorem dX3_init_24 : decode cX3_init 24 = .ok (.iconst 5, 1) := by decide +kernel
theorem dX3_init_25 : decode cX3_init 25 = .ok (.newarray .int, 2) := by decide +kernel
theorem dX3_init_27 : decode cX3_init 27 = .ok (.putfield 22, 3) := by decide +kernel
theorem dX3_init_30 : decode cX3_init 30 = .ok (.aload_n 0, 1) := by decide +kernel
theorem dX3_init_31 : decode cX3_init 31 = .ok (.iconst (-1), 1) := by decide +kernel
theorem dX3_init_32 : decode cX3_init 32 = .ok (.putfield 25, 3) := by decide +kernel
theorem dX3_init_35 : decode cX3_init 35 = .ok (.return_, 1) := by decide +kernel
theorem dX3_begin_0 : decode cX3_begin 0 = .ok (.aload_n 0, 1) := by decide +kernel
theorem dX3_begin_1 : decode cX3_begin 1 = .ok (.iconst 0, 1) := by decide +kernel
theorem dX3_begin_2 : decode cX3_begin 2 = .ok (.iload_n 1, 1) := by decide +kernel
theorem dX3_begin_3 : decode cX3_begin 3 = .ok (.iconst 5, 1) := by decide +kernel
theorem dX3_begin_4 : decode cX3_begin 4 = .ok (.invokestatic 28, 3) := by decide +kernel
theorem dX3_begin_7 : decode cX3_begin 7 = .ok (.invokestatic 34, 3) := by decide +kernel
theorem dX3_begin_10 : decode cX3_begin 10 = .ok (.putfield 9, 3) := by decide +kernel
theorem dX3_begin_13 : decode cX3_begin 13 = .ok (.aload_n 0, 1) := by decide +kernel
theorem dX3_begin_14 : decode cX3_begin 14 = .ok (.iconst (-1), 1) := by decide +kernel
theorem dX3_begin_15 : decode cX3_begin 15 = .ok (.putfield 25, 3) := by decide +kernel
theorem dX3_begin_18 : decode cX3_begin 18 = .ok (.iconst 0, 1) := by decide +kernel
theorem dX3_begin_19 : decode cX3_begin 19 = .ok (.istore_n 2, 1) := by decide +kernel
theorem dX3_begin_20 : decode cX3_begin 20 = .ok (.iload_n 2, 1) := by decide +kernel
theorem dX3_begin_21 : decode cX3_begin 21 = .ok (.iconst 5, 1) := by decide +kernel
theorem dX3_begin_22 : decode cX3_begin 22 = .ok (.if_icmp .ge 23, 3) := by decide +kernel
theorem dX3_begin_25 : decode cX3_begin 25 = .ok (.aload_n 0, 1) := by decide +kernel
theorem dX3_begin_26 : decode cX3_begin 26 = .ok (.getfield 15, 3) := by decide +kernel
theorem dX3_begin_29 : decode cX3_begin 29 = .ok (.iload_n 2, 1) := by decide +kernel
theorem dX3_begin_30 : decode cX3_begin 30 = .ok (.iconst 0, 1) := by decide +kernel
theorem dX3_begin_31 : decode cX3_begin 31 = .ok (.iastore, 1) := by decide +kernel
theorem dX3_begin_32 : decode cX3_begin 32 = .ok (.aload_n 0, 1) := by decide +kernel
theorem dX3_begin_33 : decode cX3_begin 33 = .ok (.getfield 19, 3) := by decide +kernel
theorem dX3_begin_36 : decode cX3_begin 36 = .ok (.iload_n 2, 1) := by decide +kernel
theorem dX3_begin_37 : decode cX3_begin 37 = .ok (.iload_n 2, 1) := by decide +kernel
theorem dX3_begin_38 : decode cX3_begin 38 = .ok (.iastore, 1) := by decide +kernel
theorem dX3_begin_39 : decode cX3_begin 39 = .ok (.iinc 2 1, 3) := by decide +kernel
theorem dX3_begin_42 : decode cX3_begin 42 = .ok (.goto (-22), 3) := by decide +kernel
theorem dX3_begin_45 : decode cX3_begin 45 = .ok (.return_, 1) := by decide +kernel
theorem dX3_allow_0 : decode cX3_allow 0 = .ok (.iload_n 1, 1) := by decide +kernel
theorem dX3_allow_1 : decode cX3_allow 1 = .ok (.ifCond .lt 20, 3) := by decide +kernel
theorem dX3_allow_4 : decode cX3_allow 4 = .ok (.iload_n 1, 1) := by decide +kernel
theorem dX3_allow_5 : decode cX3_allow 5 = .ok (.iconst 5, 1) := by decide +kernel
theorem dX3_allow_6 : decode cX3_allow 6 = .ok (.if_icmp .ge 15, 3) := by decide +kernel
theorem dX3_allow_9 : decode cX3_allow 9 = .ok (.aload_n 0, 1) := by decide +kernel
theorem dX3_allow_10 : decode cX3_allow 10 = .ok (.getfield 15, 3) := by decide +kernel
theorem dX3_allow_13 : decode cX3_allow 13 = .ok (.iload_n 1, 1) := by decide +kernel
theorem dX3_allow_14 : decode cX3_allow 14 = .ok (.dup2, 1) := by decide +kernel
theorem dX3_allow_15 : decode cX3_allow 15 = .ok (.iaload, 1) := by decide +kernel
theorem dX3_allow_16 : decode cX3_allow 16 = .ok (.iconst 1, 1) := by decide +kernel
theorem dX3_allow_17 : decode cX3_allow 17 = .ok (.iload_n 2, 1) := by decide +kernel
theorem dX3_allow_18 : decode cX3_allow 18 = .ok (.ishl, 1) := by decide +kernel
theorem dX3_allow_19 : decode cX3_allow 19 = .ok (.ior, 1) := by decide +kernel
theorem dX3_allow_20 : decode cX3_allow 20 = .ok (.iastore, 1) := by decide +kernel
theorem dX3_allow_21 : decode cX3_allow 21 = .ok (.return_, 1) := by decide +kernel
theorem dX3_giverTo_0 : decode cX3_giverTo 0 = .ok (.aload_n 0, 1) := by decide +kernel
theorem dX3_giverTo_1 : decode cX3_giverTo 1 = .ok (.getfield 25, 3) := by decide +kernel
theorem dX3_giverTo_4 : decode cX3_giverTo 4 = .ok (.iconst (-1), 1) := by decide +kernel
theorem dX3_giverTo_5 : decode cX3_giverTo 5 = .ok (.if_icmp .eq 21, 3) := by decide +kernel
theorem dX3_giverTo_8 : decode cX3_giverTo 8 = .ok (.iload_n 1, 1) := by decide +kernel
theorem dX3_giverTo_9 : decode cX3_giverTo 9 = .ok (.ifCond .lt 17, 3) := by decide +kernel
theorem dX3_giverTo_12 : decode cX3_giverTo 12 = .ok (.iload_n 1, 1) := by decide +kernel
theorem dX3_giverTo_13 : decode cX3_giverTo 13 = .ok (.iconst 5, 1) := by decide +kernel
theorem dX3_giverTo_14 : decode cX3_giverTo 14 = .ok (.if_icmp .ge 12, 3) := by decide +kernel
theorem dX3_giverTo_17 : decode cX3_giverTo 17 = .ok (.aload_n 0, 1) := by decide +kernel
theorem dX3_giverTo_18 : decode cX3_giverTo 18 = .ok (.getfield 22, 3) := by decide +kernel
theorem dX3_giverTo_21 : decode cX3_giverTo 21 = .ok (.iload_n 1, 1) := by decide +kernel
theorem dX3_giverTo_22 : decode cX3_giverTo 22 = .ok (.iaload, 1) := by decide +kernel
theorem dX3_giverTo_23 : decode cX3_giverTo 23 = .ok (.goto 4, 3) := by decide +kernel
theorem dX3_giverTo_26 : decode cX3_giverTo 26 = .ok (.iconst (-1), 1) := by decide +kernel
theorem dX3_giverTo_27 : decode cX3_giverTo 27 = .ok (.ireturn, 1) := by decide +kernel
theorem dX3_search_0 : decode cX3_search 0 = .ok (.iconst 1, 1) := by decide +kernel
theorem dX3_search_1 : decode cX3_search 1 = .ok (.istore_n 1, 1) := by decide +kernel
theorem dX3_search_2 : decode cX3_search 2 = .ok (.iconst 0, 1) := by decide +kernel
theorem dX3_search_3 : decode cX3_search 3 = .ok (.istore_n 2, 1) := by decide +kernel
theorem dX3_search_4 : decode cX3_search 4 = .ok (.iload_n 2, 1) := by decide +kernel
theorem dX3_search_5 : decode cX3_search 5 = .ok (.bipush 120, 2) := by decide +kernel
theorem dX3_search_7 : decode cX3_search 7 = .ok (.if_icmp .ge 29, 3) := by decide +kernel
theorem dX3_search_10 : decode cX3_search 10 = .ok (.iload_n 1, 1) := by decide +kernel
theorem dX3_search_11 : decode cX3_search 11 = .ok (.ifCond .eq 25, 3) := by decide +kernel
theorem dX3_search_14 : decode cX3_search 14 = .ok (.aload_n 0, 1) := by decide +kernel
theorem dX3_search_15 : decode cX3_search 15 = .ok (.invokevirtual 37, 3) := by decide +kernel
theorem dX3_search_18 : decode cX3_search 18 = .ok (.ifCond .eq 7, 3) := by decide +kernel
theorem dX3_search_21 : decode cX3_search 21 = .ok (.aload_n 0, 1) := by decide +kernel
theorem dX3_search_22 : decode cX3_search 22 = .ok (.invokevirtual 41, 3) := by decide +kernel
theorem dX3_search_25 : decode cX3_search 25 = .ok (.aload_n 0, 1) := by decide +kernel
theorem dX3_search_26 : decode cX3_search 26 = .ok (.invokevirtual 44, 3) := by decide +kernel
theorem dX3_search_29 : decode cX3_search 29 = .ok (.istore_n 1, 1) := by decide +kernel
theorem dX3_search_30 : decode cX3_search 30 = .ok (.iinc 2 1, 3) := by decide +kernel
theorem dX3_search_33 : decode cX3_search 33 = .ok (.goto (-29), 3) := by decide +kernel
theorem dX3_search_36 : decode cX3_search 36 = .ok (.return_, 1) := by decide +kernel
theorem dX3_isAllowed_0 : decode cX3_isAllowed 0 = .ok (.iconst 0, 1) := by decide +kernel
theorem dX3_isAllowed_1 : decode cX3_isAllowed 1 = .ok (.istore_n 1, 1) := by decide +kernel
theorem dX3_isAllowed_2 : decode cX3_isAllowed 2 = .ok (.iload_n 1, 1) := by decide +kernel
theorem dX3_isAllowed_3 : decode cX3_isAllowed 3 = .ok (.aload_n 0, 1) := by decide +kernel
theorem dX3_isAllowed_4 : decode cX3_isAllowed 4 = .ok (.getfield 9, 3) := by decide +kernel
theorem dX3_isAllowed_7 : decode cX3_isAllowed 7 = .ok (.if_icmp .ge 29, 3) := by decide +kernel
theorem dX3_isAllowed_10 : decode cX3_isAllowed 10 = .ok (.aload_n 0, 1) := by decide +kernel
theorem dX3_isAllowed_11 : decode cX3_isAllowed 11 = .ok (.getfield 15, 3) := by decide +kernel
theorem dX3_isAllowed_14 : decode cX3_isAllowed 14 = .ok (.iload_n 1, 1) := by decide +kernel
theorem dX3_isAllowed_15 : decode cX3_isAllowed 15 = .ok (.iaload, 1) := by decide +kernel
theorem dX3_isAllowed_16 : decode cX3_isAllowed 16 = .ok (.aload_n 0, 1) := by decide +kernel
theorem dX3_isAllowed_17 : decode cX3_isAllowed 17 = .ok (.getfield 19, 3) := by decide +kernel
theorem dX3_isAllowed_20 : decode cX3_isAllowed 20 = .ok (.iload_n 1, 1) := by decide +kernel
theorem dX3_isAllowed_21 : decode cX3_isAllowed 21 = .ok (.iaload, 1) := by decide +kernel
theorem dX3_isAllowed_22 : decode cX3_isAllowed 22 = .ok (.ishr, 1) := by decide +kernel
theorem dX3_isAllowed_23 : decode cX3_isAllowed 23 = .ok (.iconst 1, 1) := by decide +kernel
theorem dX3_isAllowed_24 : decode cX3_isAllowed 24 = .ok (.iand, 1) := by decide +kernel
theorem dX3_isAllowed_25 : decode cX3_isAllowed 25 = .ok (.ifCond .ne 5, 3) := by decide +kernel
theorem dX3_isAllowed_28 : decode cX3_isAllowed 28 = .ok (.iconst 0, 1) := by decide +kernel
theorem dX3_isAllowed_29 : decode cX3_isAllowed 29 = .ok (.ireturn, 1) := by decide +kernel
theorem dX3_isAllowed_30 : decode cX3_isAllowed 30 = .ok (.iinc 1 1, 3) := by decide +kernel
theorem dX3_isAllowed_33 : decode cX3_isAllowed 33 = .ok (.goto (-31), 3) := by decide +kernel
theorem dX3_isAllowed_36 : decode cX3_isAllowed 36 = .ok (.iconst 1, 1) := by decide +kernel
theorem dX3_isAllowed_37 : decode cX3_isAllowed 37 = .ok (.ireturn, 1) := by decide +kernel
theorem dX3_compare_0 : decode cX3_compare 0 = .ok (.aload_n 0, 1) := by decide +kernel
theorem dX3_compare_1 : decode cX3_compare 1 = .ok (.getfield 9, 3) := by decide +kernel
theorem dX3_compare_4 : decode cX3_compare 4 = .ok (.aload_n 0, 1) := by decide +kernel
theorem dX3_compare_5 : decode cX3_compare 5 = .ok (.invokevirtual 47, 3) := by decide +kernel
theorem dX3_compare_8 : decode cX3_compare 8 = .ok (.isub, 1) := by decide +kernel
theorem dX3_compare_9 : decode cX3_compare 9 = .ok (.istore_n 1, 1) := by decide +kernel
theorem dX3_compare_10 : decode cX3_compare 10 = .ok (.aload_n 0, 1) := by decide +kernel
theorem dX3_compare_11 : decode cX3_compare 11 = .ok (.getfield 25, 3) := by decide +kernel
theorem dX3_compare_14 : decode cX3_compare 14 = .ok (.iconst (-1), 1) := by decide +kernel
theorem dX3_compare_15 : decode cX3_compare 15 = .ok (.if_icmp .eq 12, 3) := by decide +kernel
theorem dX3_compare_18 : decode cX3_compare 18 = .ok (.aload_n 0, 1) := by decide +kernel
theorem dX3_compare_19 : decode cX3_compare 19 = .ok (.getfield 25, 3) := by decide +kernel
theorem dX3_compare_22 : decode cX3_compare 22 = .ok (.iload_n 1, 1) := by decide +kernel
theorem dX3_compare_23 : decode cX3_compare 23 = .ok (.if_icmp .gt 4, 3) := by decide +kernel
theorem dX3_compare_26 : decode cX3_compare 26 = .ok (.return_, 1) := by decide +kernel
theorem dX3_compare_27 : decode cX3_compare 27 = .ok (.aload_n 0, 1) := by decide +kernel
theorem dX3_compare_28 : decode cX3_compare 28 = .ok (.iload_n 1, 1) := by decide +kernel
theorem dX3_compare_29 : decode cX3_compare 29 = .ok (.putfield 25, 3) := by decide +kernel
theorem dX3_compare_32 : decode cX3_compare 32 = .ok (.iconst 0, 1) := by decide +kernel
theorem dX3_compare_33 : decode cX3_compare 33 = .ok (.istore_n 2, 1) := by decide +kernel
theorem dX3_compare_34 : decode cX3_compare 34 = .ok (.iload_n 2, 1) := by decide +kernel
theorem dX3_compare_35 : decode cX3_compare 35 = .ok (.aload_n 0, 1) := by decide +kernel
theorem dX3_compare_36 : decode cX3_compare 36 = .ok (.getfield 9, 3) := by decide +kernel
theorem dX3_compare_39 : decode cX3_compare 39 = .ok (.if_icmp .ge 21, 3) := by decide +kernel
theorem dX3_compare_42 : decode cX3_compare 42 = .ok (.aload_n 0, 1) := by decide +kernel
theorem dX3_compare_43 : decode cX3_compare 43 = .ok (.getfield 22, 3) := by decide +kernel
theorem dX3_compare_46 : decode cX3_compare 46 = .ok (.iload_n 2, 1) := by decide +kernel
theorem dX3_compare_47 : decode cX3_compare 47 = .ok (.aload_n 0, 1) := by decide +kernel
theorem dX3_compare_48 : decode cX3_compare 48 = .ok (.getfield 19, 3) := by decide +kernel
theorem dX3_compare_51 : decode cX3_compare 51 = .ok (.iload_n 2, 1) := by decide +kernel
theorem dX3_compare_52 : decode cX3_compare 52 = .ok (.iaload, 1) := by decide +kernel
theorem dX3_compare_53 : decode cX3_compare 53 = .ok (.iastore, 1) := by decide +kernel
theorem dX3_compare_54 : decode cX3_compare 54 = .ok (.iinc 2 1, 3) := by decide +kernel
theorem dX3_compare_57 : decode cX3_compare 57 = .ok (.goto (-23), 3) := by decide +kernel
theorem dX3_compare_60 : decode cX3_compare 60 = .ok (.return_, 1) := by decide +kernel
theorem dX3_rings_0 : decode cX3_rings 0 = .ok (.iconst 0, 1) := by decide +kernel
theorem dX3_rings_1 : decode cX3_rings 1 = .ok (.istore_n 1, 1) := by decide +kernel
theorem dX3_rings_2 : decode cX3_rings 2 = .ok (.iconst 0, 1) := by decide +kernel
theorem dX3_rings_3 : decode cX3_rings 3 = .ok (.istore_n 2, 1) := by decide +kernel
theorem dX3_rings_4 : decode cX3_rings 4 = .ok (.iconst 0, 1) := by decide +kernel
theorem dX3_rings_5 : decode cX3_rings 5 = .ok (.istore_n 3, 1) := by decide +kernel
theorem dX3_rings_6 : decode cX3_rings 6 = .ok (.iload_n 3, 1) := by decide +kernel
theorem dX3_rings_7 : decode cX3_rings 7 = .ok (.aload_n 0, 1) := by decide +kernel
theorem dX3_rings_8 : decode cX3_rings 8 = .ok (.getfield 9, 3) := by decide +kernel
theorem dX3_rings_11 : decode cX3_rings 11 = .ok (.if_icmp .ge 31, 3) := by decide +kernel
theorem dX3_rings_14 : decode cX3_rings 14 = .ok (.iload_n 2, 1) := by decide +kernel
theorem dX3_rings_15 : decode cX3_rings 15 = .ok (.iload_n 3, 1) := by decide +kernel
theorem dX3_rings_16 : decode cX3_rings 16 = .ok (.ishr, 1) := by decide +kernel
theorem dX3_rings_17 : decode cX3_rings 17 = .ok (.iconst 1, 1) := by decide +kernel
theorem dX3_rings_18 : decode cX3_rings 18 = .ok (.iand, 1) := by decide +kernel
theorem dX3_rings_19 : decode cX3_rings 19 = .ok (.ifCond .eq 6, 3) := by decide +kernel
theorem dX3_rings_22 : decode cX3_rings 22 = .ok (.goto 14, 3) := by decide +kernel
theorem dX3_rings_25 : decode cX3_rings 25 = .ok (.iinc 1 1, 3) := by decide +kernel
theorem dX3_rings_28 : decode cX3_rings 28 = .ok (.iload_n 2, 1) := by decide +kernel
theorem dX3_rings_29 : decode cX3_rings 29 = .ok (.aload_n 0, 1) := by decide +kernel
theorem dX3_rings_30 : decode cX3_rings 30 = .ok (.iload_n 3, 1) := by decide +kernel
theorem dX3_rings_31 : decode cX3_rings 31 = .ok (.invokevirtual 51, 3) := by decide +kernel
theorem dX3_rings_34 : decode cX3_rings 34 = .ok (.ior, 1) := by decide +kernel
theorem dX3_rings_35 : decode cX3_rings 35 = .ok (.istore_n 2, 1) := by decide +kernel
theorem dX3_rings_36 : decode cX3_rings 36 = .ok (.iinc 3 1, 3) := by decide +kernel
theorem dX3_rings_39 : decode cX3_rings 39 = .ok (.goto (-33), 3) := by decide +kernel
theorem dX3_rings_42 : decode cX3_rings 42 = .ok (.iload_n 1, 1) := by decide +kernel
theorem dX3_rings_43 : decode cX3_rings 43 = .ok (.ireturn, 1) := by decide +kernel
theorem dX3_ringOf_0 : decode cX3_ringOf 0 = .ok (.iconst 0, 1) := by decide +kernel
theorem dX3_ringOf_1 : decode cX3_ringOf 1 = .ok (.istore_n 2, 1) := by decide +kernel
theorem dX3_ringOf_2 : decode cX3_ringOf 2 = .ok (.iload_n 1, 1) := by decide +kernel
theorem dX3_ringOf_3 : decode cX3_ringOf 3 = .ok (.istore_n 3, 1) := by decide +kernel
theorem dX3_ringOf_4 : decode cX3_ringOf 4 = .ok (.iconst 0, 1) := by decide +kernel
theorem dX3_ringOf_5 : decode cX3_ringOf 5 = .ok (.istore 4, 2) := by decide +kernel
theorem dX3_ringOf_7 : decode cX3_ringOf 7 = .ok (.iload 4, 2) := by decide +kernel
theorem dX3_ringOf_9 : decode cX3_ringOf 9 = .ok (.aload_n 0, 1) := by decide +kernel
theorem dX3_ringOf_10 : decode cX3_ringOf 10 = .ok (.getfield 9, 3) := by decide +kernel
theorem dX3_ringOf_13 : decode cX3_ringOf 13 = .ok (.if_icmp .ge 34, 3) := by decide +kernel
theorem dX3_ringOf_16 : decode cX3_ringOf 16 = .ok (.iload_n 3, 1) := by decide +kernel
theorem dX3_ringOf_17 : decode cX3_ringOf 17 = .ok (.ifCond .lt 30, 3) := by decide +kernel
theorem dX3_ringOf_20 : decode cX3_ringOf 20 = .ok (.iload_n 3, 1) := by decide +kernel
theorem dX3_ringOf_21 : decode cX3_ringOf 21 = .ok (.aload_n 0, 1) := by decide +kernel
theorem dX3_ringOf_22 : decode cX3_ringOf 22 = .ok (.getfield 9, 3) := by decide +kernel
theorem dX3_ringOf_25 : decode cX3_ringOf 25 = .ok (.if_icmp .ge 22, 3) := by decide +kernel
theorem dX3_ringOf_28 : decode cX3_ringOf 28 = .ok (.iload_n 2, 1) := by decide +kernel
theorem dX3_ringOf_29 : decode cX3_ringOf 29 = .ok (.iconst 1, 1) := by decide +kernel
theorem dX3_ringOf_30 : decode cX3_ringOf 30 = .ok (.iload_n 3, 1) := by decide +kernel
theorem dX3_ringOf_31 : decode cX3_ringOf 31 = .ok (.ishl, 1) := by decide +kernel
theorem dX3_ringOf_32 : decode cX3_ringOf 32 = .ok (.ior, 1) := by decide +kernel
theorem dX3_ringOf_33 : decode cX3_ringOf 33 = .ok (.istore_n 2, 1) := by decide +kernel
theorem dX3_ringOf_34 : decode cX3_ringOf 34 = .ok (.aload_n 0, 1) := by decide +kernel
theorem dX3_ringOf_35 : decode cX3_ringOf 35 = .ok (.getfield 19, 3) := by decide +kernel
theorem dX3_ringOf_38 : decode cX3_ringOf 38 = .ok (.iload_n 3, 1) := by decide +kernel
theorem dX3_ringOf_39 : decode cX3_ringOf 39 = .ok (.iaload, 1) := by decide +kernel
theorem dX3_ringOf_40 : decode cX3_ringOf 40 = .ok (.istore_n 3, 1) := by decide +kernel
theorem dX3_ringOf_41 : decode cX3_ringOf 41 = .ok (.iinc 4 1, 3) := by decide +kernel
theorem dX3_ringOf_44 : decode cX3_ringOf 44 = .ok (.goto (-37), 3) := by decide +kernel
theorem dX3_ringOf_47 : decode cX3_ringOf 47 = .ok (.iload_n 2, 1) := by decide +kernel
theorem dX3_ringOf_48 : decode cX3_ringOf 48 = .ok (.ireturn, 1) := by decide +kernel
theorem dX3_nextOrder_0 : decode cX3_nextOrder 0 = .ok (.aload_n 0, 1) := by decide +kernel
theorem dX3_nextOrder_1 : decode cX3_nextOrder 1 = .ok (.getfield 9, 3) := by decide +kernel
theorem dX3_nextOrder_4 : decode cX3_nextOrder 4 = .ok (.iconst 2, 1) := by decide +kernel
theorem dX3_nextOrder_5 : decode cX3_nextOrder 5 = .ok (.isub, 1) := by decide +kernel
theorem dX3_nextOrder_6 : decode cX3_nextOrder 6 = .ok (.istore_n 1, 1) := by decide +kernel
theorem dX3_nextOrder_7 : decode cX3_nextOrder 7 = .ok (.iload_n 1, 1) := by decide +kernel
theorem dX3_nextOrder_8 : decode cX3_nextOrder 8 = .ok (.ifCond .lt 26, 3) := by decide +kernel
theorem dX3_nextOrder_11 : decode cX3_nextOrder 11 = .ok (.aload_n 0, 1) := by decide +kernel
theorem dX3_nextOrder_12 : decode cX3_nextOrder 12 = .ok (.getfield 19, 3) := by decide +kernel
theorem dX3_nextOrder_15 : decode cX3_nextOrder 15 = .ok (.iload_n 1, 1) := by decide +kernel
theorem dX3_nextOrder_16 : decode cX3_nextOrder 16 = .ok (.iaload, 1) := by decide +kernel
theorem dX3_nextOrder_17 : decode cX3_nextOrder 17 = .ok (.aload_n 0, 1) := by decide +kernel
theorem dX3_nextOrder_18 : decode cX3_nextOrder 18 = .ok (.getfield 19, 3) := by decide +kernel
theorem dX3_nextOrder_21 : decode cX3_nextOrder 21 = .ok (.iload_n 1, 1) := by decide +kernel
theorem dX3_nextOrder_22 : decode cX3_nextOrder 22 = .ok (.iconst 1, 1) := by decide +kernel
theorem dX3_nextOrder_23 : decode cX3_nextOrder 23 = .ok (.iadd, 1) := by decide +kernel
theorem dX3_nextOrder_24 : decode cX3_nextOrder 24 = .ok (.iaload, 1) := by decide +kernel
theorem dX3_nextOrder_25 : decode cX3_nextOrder 25 = .ok (.if_icmp .le 9, 3) := by decide +kernel
theorem dX3_nextOrder_28 : decode cX3_nextOrder 28 = .ok (.iinc 1 (-1), 3) := by decide +kernel
theorem dX3_nextOrder_31 : decode cX3_nextOrder 31 = .ok (.goto (-24), 3) := by decide +kernel
theorem dX3_nextOrder_34 : decode cX3_nextOrder 34 = .ok (.iload_n 1, 1) := by decide +kernel
theorem dX3_nextOrder_35 : decode cX3_nextOrder 35 = .ok (.ifCond .ge 5, 3) := by decide +kernel
theorem dX3_nextOrder_38 : decode cX3_nextOrder 38 = .ok (.iconst 0, 1) := by decide +kernel
theorem dX3_nextOrder_39 : decode cX3_nextOrder 39 = .ok (.ireturn, 1) := by decide +kernel
theorem dX3_nextOrder_40 : decode cX3_nextOrder 40 = .ok (.aload_n 0, 1) := by decide +kernel
theorem dX3_nextOrder_41 : decode cX3_nextOrder 41 = .ok (.getfield 9, 3) := by decide +kernel
theorem dX3_nextOrder_44 : decode cX3_nextOrder 44 = .ok (.iconst 1, 1) := by decide +kernel
theorem dX3_nextOrder_45 : decode cX3_nextOrder 45 = .ok (.isub, 1) := by decide +kernel
theorem dX3_nextOrder_46 : decode cX3_nextOrder 46 = .ok (.istore_n 2, 1) := by decide +kernel
theorem dX3_nextOrder_47 : decode cX3_nextOrder 47 = .ok (.iload_n 2, 1) := by decide +kernel
theorem dX3_nextOrder_48 : decode cX3_nextOrder 48 = .ok (.iload_n 1, 1) := by decide +kernel
theorem dX3_nextOrder_49 : decode cX3_nextOrder 49 = .ok (.if_icmp .le 24, 3) := by decide +kernel
theorem dX3_nextOrder_52 : decode cX3_nextOrder 52 = .ok (.aload_n 0, 1) := by decide +kernel
theorem dX3_nextOrder_53 : decode cX3_nextOrder 53 = .ok (.getfield 19, 3) := by decide +kernel
theorem dX3_nextOrder_56 : decode cX3_nextOrder 56 = .ok (.iload_n 2, 1) := by decide +kernel
theorem dX3_nextOrder_57 : decode cX3_nextOrder 57 = .ok (.iaload, 1) := by decide +kernel
theorem dX3_nextOrder_58 : decode cX3_nextOrder 58 = .ok (.aload_n 0, 1) := by decide +kernel
theorem dX3_nextOrder_59 : decode cX3_nextOrder 59 = .ok (.getfield 19, 3) := by decide +kernel
theorem dX3_nextOrder_62 : decode cX3_nextOrder 62 = .ok (.iload_n 1, 1) := by decide +kernel
theorem dX3_nextOrder_63 : decode cX3_nextOrder 63 = .ok (.iaload, 1) := by decide +kernel
theorem dX3_nextOrder_64 : decode cX3_nextOrder 64 = .ok (.if_icmp .ge 9, 3) := by decide +kernel
theorem dX3_nextOrder_67 : decode cX3_nextOrder 67 = .ok (.iinc 2 (-1), 3) := by decide +kernel
theorem dX3_nextOrder_70 : decode cX3_nextOrder 70 = .ok (.goto (-23), 3) := by decide +kernel
theorem dX3_nextOrder_73 : decode cX3_nextOrder 73 = .ok (.aload_n 0, 1) := by decide +kernel
theorem dX3_nextOrder_74 : decode cX3_nextOrder 74 = .ok (.iload_n 1, 1) := by decide +kernel
theorem dX3_nextOrder_75 : decode cX3_nextOrder 75 = .ok (.iload_n 2, 1) := by decide +kernel
theorem dX3_nextOrder_76 : decode cX3_nextOrder 76 = .ok (.invokevirtual 55, 3) := by decide +kernel
theorem dX3_nextOrder_79 : decode cX3_nextOrder 79 = .ok (.iload_n 1, 1) := by decide +kernel
theorem dX3_nextOrder_80 : decode cX3_nextOrder 80 = .ok (.iconst 1, 1) := by decide +kernel
theorem dX3_nextOrder_81 : decode cX3_nextOrder 81 = .ok (.iadd, 1) := by decide +kernel
theorem dX3_nextOrder_82 : decode cX3_nextOrder 82 = .ok (.istore_n 3, 1) := by decide +kernel
theorem dX3_nextOrder_83 : decode cX3_nextOrder 83 = .ok (.aload_n 0, 1) := by decide +kernel
theorem dX3_nextOrder_84 : decode cX3_nextOrder 84 = .ok (.getfield 9, 3) := by decide +kernel
theorem dX3_nextOrder_87 : decode cX3_nextOrder 87 = .ok (.iconst 1, 1) := by decide +kernel
theorem dX3_nextOrder_88 : decode cX3_nextOrder 88 = .ok (.isub, 1) := by decide +kernel
theorem dX3_nextOrder_89 : decode cX3_nextOrder 89 = .ok (.istore 4, 2) := by decide +kernel
theorem dX3_nextOrder_91 : decode cX3_nextOrder 91 = .ok (.iload_n 3, 1) := by decide +kernel
theorem dX3_nextOrder_92 : decode cX3_nextOrder 92 = .ok (.iload 4, 2) := by decide +kernel
theorem dX3_nextOrder_94 : decode cX3_nextOrder 94 = .ok (.if_icmp .ge 19, 3) := by decide +kernel
theorem dX3_nextOrder_97 : decode cX3_nextOrder 97 = .ok (.aload_n 0, 1) := by decide +kernel
theorem dX3_nextOrder_98 : decode cX3_nextOrder 98 = .ok (.iload_n 3, 1) := by decide +kernel
theorem dX3_nextOrder_99 : decode cX3_nextOrder 99 = .ok (.iload 4, 2) := by decide +kernel
theorem dX3_nextOrder_101 : decode cX3_nextOrder 101 = .ok (.invokevirtual 55, 3) := by decide +kernel
theorem dX3_nextOrder_104 : decode cX3_nextOrder 104 = .ok (.iinc 3 1, 3) := by decide +kernel
theorem dX3_nextOrder_107 : decode cX3_nextOrder 107 = .ok (.iinc 4 (-1), 3) := by decide +kernel
theorem dX3_nextOrder_110 : decode cX3_nextOrder 110 = .ok (.goto (-19), 3) := by decide +kernel
theorem dX3_nextOrder_113 : decode cX3_nextOrder 113 = .ok (.iconst 1, 1) := by decide +kernel
theorem dX3_nextOrder_114 : decode cX3_nextOrder 114 = .ok (.ireturn, 1) := by decide +kernel
theorem dX3_swap_0 : decode cX3_swap 0 = .ok (.iload_n 1, 1) := by decide +kernel
theorem dX3_swap_1 : decode cX3_swap 1 = .ok (.ifCond .lt 17, 3) := by decide +kernel
theorem dX3_swap_4 : decode cX3_swap 4 = .ok (.iload_n 1, 1) := by decide +kernel
theorem dX3_swap_5 : decode cX3_swap 5 = .ok (.iconst 5, 1) := by decide +kernel
theorem dX3_swap_6 : decode cX3_swap 6 = .ok (.if_icmp .ge 12, 3) := by decide +kernel
theorem dX3_swap_9 : decode cX3_swap 9 = .ok (.iload_n 2, 1) := by decide +kernel
theorem dX3_swap_10 : decode cX3_swap 10 = .ok (.ifCond .lt 8, 3) := by decide +kernel
theorem dX3_swap_13 : decode cX3_swap 13 = .ok (.iload_n 2, 1) := by decide +kernel
theorem dX3_swap_14 : decode cX3_swap 14 = .ok (.iconst 5, 1) := by decide +kernel
theorem dX3_swap_15 : decode cX3_swap 15 = .ok (.if_icmp .lt 4, 3) := by decide +kernel
theorem dX3_swap_18 : decode cX3_swap 18 = .ok (.return_, 1) := by decide +kernel
theorem dX3_swap_19 : decode cX3_swap 19 = .ok (.aload_n 0, 1) := by decide +kernel
theorem dX3_swap_20 : decode cX3_swap 20 = .ok (.getfield 19, 3) := by decide +kernel
theorem dX3_swap_23 : decode cX3_swap 23 = .ok (.iload_n 1, 1) := by decide +kernel
theorem dX3_swap_24 : decode cX3_swap 24 = .ok (.iaload, 1) := by decide +kernel
theorem dX3_swap_25 : decode cX3_swap 25 = .ok (.istore_n 3, 1) := by decide +kernel
theorem dX3_swap_26 : decode cX3_swap 26 = .ok (.aload_n 0, 1) := by decide +kernel
theorem dX3_swap_27 : decode cX3_swap 27 = .ok (.getfield 19, 3) := by decide +kernel
theorem dX3_swap_30 : decode cX3_swap 30 = .ok (.iload_n 1, 1) := by decide +kernel
theorem dX3_swap_31 : decode cX3_swap 31 = .ok (.aload_n 0, 1) := by decide +kernel
theorem dX3_swap_32 : decode cX3_swap 32 = .ok (.getfield 19, 3) := by decide +kernel
theorem dX3_swap_35 : decode cX3_swap 35 = .ok (.iload_n 2, 1) := by decide +kernel
theorem dX3_swap_36 : decode cX3_swap 36 = .ok (.iaload, 1) := by decide +kernel
theorem dX3_swap_37 : decode cX3_swap 37 = .ok (.iastore, 1) := by decide +kernel
theorem dX3_swap_38 : decode cX3_swap 38 = .ok (.aload_n 0, 1) := by decide +kernel
theorem dX3_swap_39 : decode cX3_swap 39 = .ok (.getfield 19, 3) := by decide +kernel
theorem dX3_swap_42 : decode cX3_swap 42 = .ok (.iload_n 2, 1) := by decide +kernel
theorem dX3_swap_43 : decode cX3_swap 43 = .ok (.iload_n 3, 1) := by decide +kernel
theorem dX3_swap_44 : decode cX3_swap 44 = .ok (.iastore, 1) := by decide +kernel
theorem dX3_swap_45 : decode cX3_swap 45 = .ok (.return_, 1) := by decide +kernel
theorem dX4_init_0 : decode cX4_init 0 = .ok (.aload_n 0, 1) := by decide +kernel
theorem dX4_init_1 : decode cX4_init 1 = .ok (.invokespecial 5, 3) := by decide +kernel
theorem dX4_init_4 : decode cX4_init 4 = .ok (.aload_n 0, 1) := by decide +kernel
theorem dX4_init_5 : decode cX4_init 5 = .ok (.bipush 21, 2) := by decide +kernel
theorem dX4_init_7 : decode cX4_init 7 = .ok (.newarray .int, 2) := by decide +kernel
theorem dX4_init_9 : decode cX4_init 9 = .ok (.putfield 11, 3) := by decide +kernel
theorem dX4_init_12 : decode cX4_init 12 = .ok (.return_, 1) := by decide +kernel
theorem dX4_get_0 : decode cX4_get 0 = .ok (.iload_n 2, 1) := by decide +kernel
theorem dX4_get_1 : decode cX4_get 1 = .ok (.ifCond .lt 19, 3) := by decide +kernel
theorem dX4_get_4 : decode cX4_get 4 = .ok (.iload_n 2, 1) := by decide +kernel
theorem dX4_get_5 : decode cX4_get 5 = .ok (.iconst 5, 1) := by decide +kernel
theorem dX4_get_6 : decode cX4_get 6 = .ok (.if_icmp .ge 14, 3) := by decide +kernel
theorem dX4_get_9 : decode cX4_get 9 = .ok (.aload_n 0, 1) := by decide +kernel
theorem dX4_get_10 : decode cX4_get 10 = .ok (.getfield 11, 3) := by decide +kernel
theorem dX4_get_13 : decode cX4_get 13 = .ok (.iload_n 1, 1) := by decide +kernel
theorem dX4_get_14 : decode cX4_get 14 = .ok (.iload_n 2, 1) := by decide +kernel
theorem dX4_get_15 : decode cX4_get 15 = .ok (.iadd, 1) := by decide +kernel
theorem dX4_get_16 : decode cX4_get 16 = .ok (.iaload, 1) := by decide +kernel
theorem dX4_get_17 : decode cX4_get 17 = .ok (.goto 4, 3) := by decide +kernel
theorem dX4_get_20 : decode cX4_get 20 = .ok (.iconst (-1), 1) := by decide +kernel
theorem dX4_get_21 : decode cX4_get 21 = .ok (.ireturn, 1) := by decide +kernel
theorem dX4_put_0 : decode cX4_put 0 = .ok (.iload_n 2, 1) := by decide +kernel
theorem dX4_put_1 : decode cX4_put 1 = .ok (.ifCond .lt 17, 3) := by decide +kernel
theorem dX4_put_4 : decode cX4_put 4 = .ok (.iload_n 2, 1) := by decide +kernel
theorem dX4_put_5 : decode cX4_put 5 = .ok (.iconst 5, 1) := by decide +kernel
theorem dX4_put_6 : decode cX4_put 6 = .ok (.if_icmp .ge 12, 3) := by decide +kernel
theorem dX4_put_9 : decode cX4_put 9 = .ok (.aload_n 0, 1) := by decide +kernel
theorem dX4_put_10 : decode cX4_put 10 = .ok (.getfield 11, 3) := by decide +kernel
theorem dX4_put_13 : decode cX4_put 13 = .ok (.iload_n 1, 1) := by decide +kernel
theorem dX4_put_14 : decode cX4_put 14 = .ok (.iload_n 2, 1) := by decide +kernel
theorem dX4_put_15 : decode cX4_put 15 = .ok (.iadd, 1) := by decide +kernel
theorem dX4_put_16 : decode cX4_put 16 = .ok (.iload_n 3, 1) := by decide +kernel
theorem dX4_put_17 : decode cX4_put 17 = .ok (.iastore, 1) := by decide +kernel
theorem dX4_put_18 : decode cX4_put 18 = .ok (.return_, 1) := by decide +kernel
theorem dX4_at_0 : decode cX4_at 0 = .ok (.aload_n 0, 1) := by decide +kernel
theorem dX4_at_1 : decode cX4_at 1 = .ok (.iconst 0, 1) := by decide +kernel
theorem dX4_at_2 : decode cX4_at 2 = .ok (.iload_n 1, 1) := by decide +kernel
theorem dX4_at_3 : decode cX4_at 3 = .ok (.invokevirtual 15, 3) := by decide +kernel
theorem dX4_at_6 : decode cX4_at 6 = .ok (.ireturn, 1) := by decide +kernel
theorem dX4_from_0 : decode cX4_from 0 = .ok (.aload_n 0, 1) := by decide +kernel
theorem dX4_from_1 : decode cX4_from 1 = .ok (.iconst 5, 1) := by decide +kernel
theorem dX4_from_2 : decode cX4_from 2 = .ok (.iload_n 1, 1) := by decide +kernel
theorem dX4_from_3 : decode cX4_from 3 = .ok (.invokevirtual 15, 3) := by decide +kernel
theorem dX4_from_6 : decode cX4_from 6 = .ok (.ireturn, 1) := by decide +kernel
theorem dX4_pull_0 : decode cX4_pull 0 = .ok (.aload_n 0, 1) := by decide +kernel
theorem dX4_pull_1 : decode cX4_pull 1 = .ok (.bipush 10, 2) := by decide +kernel
theorem dX4_pull_3 : decode cX4_pull 3 = .ok (.iload_n 1, 1) := by decide +kernel
theorem dX4_pull_4 : decode cX4_pull 4 = .ok (.invokevirtual 15, 3) := by decide +kernel
theorem dX4_pull_7 : decode cX4_pull 7 = .ok (.ireturn, 1) := by decide +kernel
theorem dX4_went_0 : decode cX4_went 0 = .ok (.aload_n 0, 1) := by decide +kernel
theorem dX4_went_1 : decode cX4_went 1 = .ok (.bipush 15, 2) := by decide +kernel
theorem dX4_went_3 : decode cX4_went 3 = .ok (.iload_n 1, 1) := by decide +kernel
theorem dX4_went_4 : decode cX4_went 4 = .ok (.invokevirtual 15, 3) := by decide +kernel
theorem dX4_went_7 : decode cX4_went 7 = .ok (.ireturn, 1) := by decide +kernel
theorem dX4_stepsGone_0 : decode cX4_stepsGone 0 = .ok (.aload_n 0, 1) := by decide +kernel
theorem dX4_stepsGone_1 : decode cX4_stepsGone 1 = .ok (.getfield 11, 3) := by decide +kernel
theorem dX4_stepsGone_4 : decode cX4_stepsGone 4 = .ok (.bipush 20, 2) := by decide +kernel
theorem dX4_stepsGone_6 : decode cX4_stepsGone 6 = .ok (.iaload, 1) := by decide +kernel
theorem dX4_stepsGone_7 : decode cX4_stepsGone 7 = .ok (.ireturn, 1) := by decide +kernel
theorem dX4_launch_0 : decode cX4_launch 0 = .ok (.iconst 0, 1) := by decide +kernel
theorem dX4_launch_1 : decode cX4_launch 1 = .ok (.istore_n 2, 1) := by decide +kernel
theorem dX4_launch_2 : decode cX4_launch 2 = .ok (.iload_n 2, 1) := by decide +kernel
theorem dX4_launch_3 : decode cX4_launch 3 = .ok (.iconst 5, 1) := by decide +kernel
theorem dX4_launch_4 : decode cX4_launch 4 = .ok (.if_icmp .ge 47, 3) := by decide +kernel
theorem dX4_launch_7 : decode cX4_launch 7 = .ok (.aload_n 0, 1) := by decide +kernel
theorem dX4_launch_8 : decode cX4_launch 8 = .ok (.iconst 0, 1) := by decide +kernel
theorem dX4_launch_9 : decode cX4_launch 9 = .ok (.iload_n 2, 1) := by decide +kernel
theorem dX4_launch_10 : decode cX4_launch 10 = .ok (.aload_n 1, 1) := by decide +kernel
theorem dX4_launch_11 : decode cX4_launch 11 = .ok (.iload_n 2, 1) := by decide +kernel
theorem dX4_launch_12 : decode cX4_launch 12 = .ok (.invokevirtual 19, 3) := by decide +kernel
theorem dX4_launch_15 : decode cX4_launch 15 = .ok (.invokevirtual 25, 3) := by decide +kernel
theorem dX4_launch_18 : decode cX4_launch 18 = .ok (.aload_n 0, 1) := by decide +kernel
theorem dX4_launch_19 : decode cX4_launch 19 = .ok (.iconst 5, 1) := by decide +kernel
theorem dX4_launch_20 : decode cX4_launch 20 = .ok (.iload_n 2, 1) := by decide +kernel
theorem dX4_launch_21 : decode cX4_launch 21 = .ok (.iconst (-1), 1) := by decide +kernel
theorem dX4_launch_22 : decode cX4_launch 22 = .ok (.invokevirtual 25, 3) := by decide +kernel
theorem dX4_launch_25 : decode cX4_launch 25 = .ok (.aload_n 0, 1) := by decide +kernel
theorem dX4_launch_26 : decode cX4_launch 26 = .ok (.bipush 10, 2) := by decide +kernel
theorem dX4_launch_28 : decode cX4_launch 28 = .ok (.iload_n 2, 1) := by decide +kernel
theorem dX4_launch_29 : decode cX4_launch 29 = .ok (.aload_n 1, 1) := by decide +kernel
theorem dX4_launch_30 : decode cX4_launch 30 = .ok (.iload_n 2, 1) := by decide +kernel
theorem dX4_launch_31 : decode cX4_launch 31 = .ok (.invokevirtual 29, 3) := by decide +kernel
theorem dX4_launch_34 : decode cX4_launch 34 = .ok (.invokevirtual 25, 3) := by decide +kernel
theorem dX4_launch_37 : decode cX4_launch 37 = .ok (.aload_n 0, 1) := by decide +kernel
theorem dX4_launch_38 : decode cX4_launch 38 = .ok (.bipush 15, 2) := by decide +kernel
theorem dX4_launch_40 : decode cX4_launch 40 = .ok (.iload_n 2, 1) := by decide +kernel
theorem dX4_launch_41 : decode cX4_launch 41 = .ok (.iconst 0, 1) := by decide +kernel
theorem dX4_launch_42 : decode cX4_launch 42 = .ok (.invokevirtual 25, 3) := by decide +kernel
theorem dX4_launch_45 : decode cX4_launch 45 = .ok (.iinc 2 1, 3) := by decide +kernel
theorem dX4_launch_48 : decode cX4_launch 48 = .ok (.goto (-46), 3) := by decide +kernel
theorem dX4_launch_51 : decode cX4_launch 51 = .ok (.aload_n 0, 1) := by decide +kernel
theorem dX4_launch_52 : decode cX4_launch 52 = .ok (.getfield 11, 3) := by decide +kernel
theorem dX4_launch_55 : decode cX4_launch 55 = .ok (.bipush 20, 2) := by decide +kernel
theorem dX4_launch_57 : decode cX4_launch 57 = .ok (.iconst 0, 1) := by decide +kernel
theorem dX4_launch_58 : decode cX4_launch 58 = .ok (.iastore, 1) := by decide +kernel
theorem dX4_launch_59 : decode cX4_launch 59 = .ok (.return_, 1) := by decide +kernel
theorem dX4_advanceAll_0 : decode cX4_advanceAll 0 = .ok (.iconst 0, 1) := by decide +kernel
theorem dX4_advanceAll_1 : decode cX4_advanceAll 1 = .ok (.istore_n 2, 1) := by decide +kernel
theorem dX4_advanceAll_2 : decode cX4_advanceAll 2 = .ok (.iload_n 2, 1) := by decide +kernel
theorem dX4_advanceAll_3 : decode cX4_advanceAll 3 = .ok (.aload_n 1, 1) := by decide +kernel
theorem dX4_advanceAll_4 : decode cX4_advanceAll 4 = .ok (.getfield 32, 3) := by decide +kernel
theorem dX4_advanceAll_7 : decode cX4_advanceAll 7 = .ok (.if_icmp .ge 15, 3) := by decide +kernel
theorem dX4_advanceAll_10 : decode cX4_advanceAll 10 = .ok (.aload_n 0, 1) := by decide +kernel
theorem dX4_advanceAll_11 : decode cX4_advanceAll 11 = .ok (.aload_n 1, 1) := by decide +kernel
theorem dX4_advanceAll_12 : decode cX4_advanceAll 12 = .ok (.iload_n 2, 1) := by decide +kernel
theorem dX4_advanceAll_13 : decode cX4_advanceAll 13 = .ok (.invokevirtual 36, 3) := by decide +kernel
theorem dX4_advanceAll_16 : decode cX4_advanceAll 16 = .ok (.iinc 2 1, 3) := by decide +kernel
theorem dX4_advanceAll_19 : decode cX4_advanceAll 19 = .ok (.goto (-17), 3) := by decide +kernel
theorem dX4_advanceAll_22 : decode cX4_advanceAll 22 = .ok (.aload_n 0, 1) := by decide +kernel
theorem dX4_advanceAll_23 : decode cX4_advanceAll 23 = .ok (.getfield 11, 3) := by decide +kernel
theorem dX4_advanceAll_26 : decode cX4_advanceAll 26 = .ok (.bipush 20, 2) := by decide +kernel
theorem dX4_advanceAll_28 : decode cX4_advanceAll 28 = .ok (.dup2, 1) := by decide +kernel
theorem dX4_advanceAll_29 : decode cX4_advanceAll 29 = .ok (.iaload, 1) := by decide +kernel
theorem dX4_advanceAll_30 : decode cX4_advanceAll 30 = .ok (.iconst 1, 1) := by decide +kernel
theorem dX4_advanceAll_31 : decode cX4_advanceAll 31 = .ok (.iadd, 1) := by decide +kernel
theorem dX4_advanceAll_32 : decode cX4_advanceAll 32 = .ok (.iastore, 1) := by decide +kernel
theorem dX4_advanceAll_33 : decode cX4_advanceAll 33 = .ok (.return_, 1) := by decide +kernel
theorem dX4_advance_0 : decode cX4_advance 0 = .ok (.aload_n 0, 1) := by decide +kernel
theorem dX4_advance_1 : decode cX4_advance 1 = .ok (.aload_n 1, 1) := by decide +kernel
theorem dX4_advance_2 : decode cX4_advance 2 = .ok (.iload_n 2, 1) := by decide +kernel
theorem dX4_advance_3 : decode cX4_advance 3 = .ok (.invokevirtual 40, 3) := by decide +kernel
theorem dX4_advance_6 : decode cX4_advance 6 = .ok (.ifCond .eq 4, 3) := by decide +kernel
theorem dX4_advance_9 : decode cX4_advance 9 = .ok (.return_, 1) := by decide +kernel
theorem dX4_advance_10 : decode cX4_advance 10 = .ok (.aload_n 0, 1) := by decide +kernel
theorem dX4_advance_11 : decode cX4_advance 11 = .ok (.iload_n 2, 1) := by decide +kernel
theorem dX4_advance_12 : decode cX4_advance 12 = .ok (.invokevirtual 44, 3) := by decide +kernel
theorem dX4_advance_15 : decode cX4_advance 15 = .ok (.istore_n 3, 1) := by decide +kernel
theorem dX4_advance_16 : decode cX4_advance 16 = .ok (.aload_n 0, 1) := by decide +kernel
theorem dX4_advance_17 : decode cX4_advance 17 = .ok (.iconst 0, 1) := by decide +kernel
theorem dX4_advance_18 : decode cX4_advance 18 = .ok (.iload_n 2, 1) := by decide +kernel
theorem dX4_advance_19 : decode cX4_advance 19 = .ok (.aload_n 1, 1) := by decide +kernel
theorem dX4_advance_20 : decode cX4_advance 20 = .ok (.iload_n 3, 1) := by decide +kernel
theorem dX4_advance_21 : decode cX4_advance 21 = .ok (.aload_n 0, 1) := by decide +kernel
theorem dX4_advance_22 : decode cX4_advance 22 = .ok (.iload_n 2, 1) := by decide +kernel
theorem dX4_advance_23 : decode cX4_advance 23 = .ok (.invokevirtual 47, 3) := by decide +kernel
theorem dX4_advance_26 : decode cX4_advance 26 = .ok (.invokevirtual 50, 3) := by decide +kernel
theorem dX4_advance_29 : decode cX4_advance 29 = .ok (.invokevirtual 25, 3) := by decide +kernel
theorem dX4_advance_32 : decode cX4_advance 32 = .ok (.aload_n 0, 1) := by decide +kernel
theorem dX4_advance_33 : decode cX4_advance 33 = .ok (.iconst 5, 1) := by decide +kernel
theorem dX4_advance_34 : decode cX4_advance 34 = .ok (.iload_n 2, 1) := by decide +kernel
theorem dX4_advance_35 : decode cX4_advance 35 = .ok (.iload_n 3, 1) := by decide +kernel
theorem dX4_advance_36 : decode cX4_advance 36 = .ok (.invokevirtual 25, 3) := by decide +kernel
theorem dX4_advance_39 : decode cX4_advance 39 = .ok (.aload_n 0, 1) := by decide +kernel
theorem dX4_advance_40 : decode cX4_advance 40 = .ok (.bipush 15, 2) := by decide +kernel
theorem dX4_advance_42 : decode cX4_advance 42 = .ok (.iload_n 2, 1) := by decide +kernel
theorem dX4_advance_43 : decode cX4_advance 43 = .ok (.aload_n 0, 1) := by decide +kernel
theorem dX4_advance_44 : decode cX4_advance 44 = .ok (.iload_n 2, 1) := by decide +kernel
theorem dX4_advance_45 : decode cX4_advance 45 = .ok (.invokevirtual 53, 3) := by decide +kernel
theorem dX4_advance_48 : decode cX4_advance 48 = .ok (.iconst 1, 1) := by decide +kernel
theorem dX4_advance_49 : decode cX4_advance 49 = .ok (.iadd, 1) := by decide +kernel
theorem dX4_advance_50 : decode cX4_advance 50 = .ok (.invokevirtual 25, 3) := by decide +kernel
theorem dX4_advance_53 : decode cX4_advance 53 = .ok (.aload_n 0, 1) := by decide +kernel
theorem dX4_advance_54 : decode cX4_advance 54 = .ok (.iload_n 2, 1) := by decide +kernel
theorem dX4_advance_55 : decode cX4_advance 55 = .ok (.aload_n 1, 1) := by decide +kernel
theorem dX4_advance_56 : decode cX4_advance 56 = .ok (.iload_n 2, 1) := by decide +kernel
theorem dX4_advance_57 : decode cX4_advance 57 = .ok (.invokevirtual 56, 3) := by decide +kernel
theorem dX4_advance_60 : decode cX4_advance 60 = .ok (.invokevirtual 59, 3) := by decide +kernel
theorem dX4_advance_63 : decode cX4_advance 63 = .ok (.return_, 1) := by decide +kernel
theorem dX4_isSitting_0 : decode cX4_isSitting 0 = .ok (.aload_n 0, 1) := by decide +kernel
theorem dX4_isSitting_1 : decode cX4_isSitting 1 = .ok (.iload_n 2, 1) := by decide +kernel
theorem dX4_isSitting_2 : decode cX4_isSitting 2 = .ok (.invokevirtual 63, 3) := by decide +kernel
theorem dX4_isSitting_5 : decode cX4_isSitting 5 = .ok (.aload_n 1, 1) := by decide +kernel
theorem dX4_isSitting_6 : decode cX4_isSitting 6 = .ok (.aload_n 0, 1) := by decide +kernel
theorem dX4_isSitting_7 : decode cX4_isSitting 7 = .ok (.iload_n 2, 1) := by decide +kernel
theorem dX4_isSitting_8 : decode cX4_isSitting 8 = .ok (.invokevirtual 44, 3) := by decide +kernel
theorem dX4_isSitting_11 : decode cX4_isSitting 11 = .ok (.aload_n 0, 1) := by decide +kernel
theorem dX4_isSitting_12 : decode cX4_isSitting 12 = .ok (.iload_n 2, 1) := by decide +kernel
theorem dX4_isSitting_13 : decode cX4_isSitting 13 = .ok (.invokevirtual 47, 3) := by decide +kernel
theorem dX4_isSitting_16 : decode cX4_isSitting 16 = .ok (.invokevirtual 66, 3) := by decide +kernel
theorem dX4_isSitting_19 : decode cX4_isSitting 19 = .ok (.if_icmp .gt 7, 3) := by decide +kernel
theorem dX4_isSitting_22 : decode cX4_isSitting 22 = .ok (.iconst 1, 1) := by decide +kernel
theorem dX4_isSitting_23 : decode cX4_isSitting 23 = .ok (.goto 4, 3) := by decide +kernel
theorem dX4_isSitting_26 : decode cX4_isSitting 26 = .ok (.iconst 0, 1) := by decide +kernel
theorem dX4_isSitting_27 : decode cX4_isSitting 27 = .ok (.ireturn, 1) := by decide +kernel
theorem dX4_sitting_0 : decode cX4_sitting 0 = .ok (.iconst 0, 1) := by decide +kernel
theorem dX4_sitting_1 : decode cX4_sitting 1 = .ok (.istore_n 2, 1) := by decide +kernel
theorem dX4_sitting_2 : decode cX4_sitting 2 = .ok (.iconst 0, 1) := by decide +kernel
theorem dX4_sitting_3 : decode cX4_sitting 3 = .ok (.istore_n 3, 1) := by decide +kernel
theorem dX4_sitting_4 : decode cX4_sitting 4 = .ok (.iload_n 3, 1) := by decide +kernel
theorem dX4_sitting_5 : decode cX4_sitting 5 = .ok (.aload_n 1, 1) := by decide +kernel
theorem dX4_sitting_6 : decode cX4_sitting 6 = .ok (.getfield 32, 3) := by decide +kernel
theorem dX4_sitting_9 : decode cX4_sitting 9 = .ok (.if_icmp .ge 24, 3) := by decide +kernel
theorem dX4_sitting_12 : decode cX4_sitting 12 = .ok (.aload_n 0, 1) := by decide +kernel
theorem dX4_sitting_13 : decode cX4_sitting 13 = .ok (.aload_n 1, 1) := by decide +kernel
theorem dX4_sitting_14 : decode cX4_sitting 14 = .ok (.iload_n 3, 1) := by decide +kernel
theorem dX4_sitting_15 : decode cX4_sitting 15 = .ok (.invokevirtual 40, 3) := by decide +kernel
theorem dX4_sitting_18 : decode cX4_sitting 18 = .ok (.ifCond .eq 9, 3) := by decide +kernel
theorem dX4_sitting_21 : decode cX4_sitting 21 = .ok (.iload_n 2, 1) := by decide +kernel
theorem dX4_sitting_22 : decode cX4_sitting 22 = .ok (.iconst 1, 1) := by decide +kernel
theorem dX4_sitting_23 : decode cX4_sitting 23 = .ok (.iload_n 3, 1) := by decide +kernel
theorem dX4_sitting_24 : decode cX4_sitting 24 = .ok (.ishl, 1) := by decide +kernel
theorem dX4_sitting_25 : decode cX4_sitting 25 = .ok (.ior, 1) := by decide +kernel
theorem dX4_sitting_26 : decode cX4_sitting 26 = .ok (.istore_n 2, 1) := by decide +kernel
theorem dX4_sitting_27 : decode cX4_sitting 27 = .ok (.iinc 3 1, 3) := by decide +kernel
theorem dX4_sitting_30 : decode cX4_sitting 30 = .ok (.goto (-26), 3) := by decide +kernel
theorem dX4_sitting_33 : decode cX4_sitting 33 = .ok (.iload_n 2, 1) := by decide +kernel
theorem dX4_sitting_34 : decode cX4_sitting 34 = .ok (.ireturn, 1) := by decide +kernel
theorem dX4_places_0 : decode cX4_places 0 = .ok (.iconst 0, 1) := by decide +kernel
theorem dX4_places_1 : decode cX4_places 1 = .ok (.istore_n 2, 1) := by decide +kernel
theorem dX4_places_2 : decode cX4_places 2 = .ok (.iconst 0, 1) := by decide +kernel
theorem dX4_places_3 : decode cX4_places 3 = .ok (.istore_n 3, 1) := by decide +kernel
theorem dX4_places_4 : decode cX4_places 4 = .ok (.iload_n 3, 1) := by decide +kernel
theorem dX4_places_5 : decode cX4_places 5 = .ok (.aload_n 1, 1) := by decide +kernel
theorem dX4_places_6 : decode cX4_places 6 = .ok (.getfield 32, 3) := by decide +kernel
theorem dX4_places_9 : decode cX4_places 9 = .ok (.if_icmp .ge 19, 3) := by decide +kernel
theorem dX4_places_12 : decode cX4_places 12 = .ok (.iload_n 2, 1) := by decide +kernel
theorem dX4_places_13 : decode cX4_places 13 = .ok (.iconst 1, 1) := by decide +kernel
theorem dX4_places_14 : decode cX4_places 14 = .ok (.aload_n 0, 1) := by decide +kernel
theorem dX4_places_15 : decode cX4_places 15 = .ok (.iload_n 3, 1) := by decide +kernel
theorem dX4_places_16 : decode cX4_places 16 = .ok (.invokevirtual 44, 3) := by decide +kernel
theorem dX4_places_19 : decode cX4_places 19 = .ok (.ishl, 1) := by decide +kernel
theorem dX4_places_20 : decode cX4_places 20 = .ok (.ior, 1) := by decide +kernel
theorem dX4_places_21 : decode cX4_places 21 = .ok (.istore_n 2, 1) := by decide +kernel
theorem dX4_places_22 : decode cX4_places 22 = .ok (.iinc 3 1, 3) := by decide +kernel
theorem dX4_places_25 : decode cX4_places 25 = .ok (.goto (-21), 3) := by decide +kernel
theorem dX4_places_28 : decode cX4_places 28 = .ok (.iload_n 2, 1) := by decide +kernel
theorem dX4_places_29 : decode cX4_places 29 = .ok (.ireturn, 1) := by decide +kernel
theorem dX4_lighten_0 : decode cX4_lighten 0 = .ok (.aload_n 0, 1) := by decide +kernel
theorem dX4_lighten_1 : decode cX4_lighten 1 = .ok (.bipush 10, 2) := by decide +kernel
theorem dX4_lighten_3 : decode cX4_lighten 3 = .ok (.iload_n 1, 1) := by decide +kernel
theorem dX4_lighten_4 : decode cX4_lighten 4 = .ok (.iconst 0, 1) := by decide +kernel
theorem dX4_lighten_5 : decode cX4_lighten 5 = .ok (.aload_n 0, 1) := by decide +kernel
theorem dX4_lighten_6 : decode cX4_lighten 6 = .ok (.iload_n 1, 1) := by decide +kernel
theorem dX4_lighten_7 : decode cX4_lighten 7 = .ok (.invokevirtual 63, 3) := by decide +kernel
theorem dX4_lighten_10 : decode cX4_lighten 10 = .ok (.iload_n 2, 1) := by decide +kernel
theorem dX4_lighten_11 : decode cX4_lighten 11 = .ok (.isub, 1) := by decide +kernel
theorem dX4_lighten_12 : decode cX4_lighten 12 = .ok (.invokestatic 69, 3) := by decide +kernel
theorem dX4_lighten_15 : decode cX4_lighten 15 = .ok (.invokevirtual 25, 3) := by decide +kernel
theorem dX4_lighten_18 : decode cX4_lighten 18 = .ok (.return_, 1) := by decide +kernel
theorem dX4_load_0 : decode cX4_load 0 = .ok (.aload_n 0, 1) := by decide +kernel
theorem dX4_load_1 : decode cX4_load 1 = .ok (.bipush 10, 2) := by decide +kernel
theorem dX4_load_3 : decode cX4_load 3 = .ok (.iload_n 1, 1) := by decide +kernel
theorem dX4_load_4 : decode cX4_load 4 = .ok (.sipush 999, 3) := by decide +kernel
theorem dX4_load_7 : decode cX4_load 7 = .ok (.aload_n 0, 1) := by decide +kernel
theorem dX4_load_8 : decode cX4_load 8 = .ok (.iload_n 1, 1) := by decide +kernel
theorem dX4_load_9 : decode cX4_load 9 = .ok (.invokevirtual 63, 3) := by decide +kernel
theorem dX4_load_12 : decode cX4_load 12 = .ok (.iload_n 2, 1) := by decide +kernel
theorem dX4_load_13 : decode cX4_load 13 = .ok (.iadd, 1) := by decide +kernel
theorem dX4_load_14 : decode cX4_load 14 = .ok (.invokestatic 74, 3) := by decide +kernel
theorem dX4_load_17 : decode cX4_load 17 = .ok (.invokevirtual 25, 3) := by decide +kernel
theorem dX4_load_20 : decode cX4_load 20 = .ok (.return_, 1) := by decide +kernel
theorem dX4_swapPulls_0 : decode cX4_swapPulls 0 = .ok (.aload_n 0, 1) := by decide +kernel
theorem dX4_swapPulls_1 : decode cX4_swapPulls 1 = .ok (.iload_n 1, 1) := by decide +kernel
theorem dX4_swapPulls_2 : decode cX4_swapPulls 2 = .ok (.invokevirtual 63, 3) := by decide +kernel
theorem dX4_swapPulls_5 : decode cX4_swapPulls 5 = .ok (.istore_n 3, 1) := by decide +kernel
theorem dX4_swapPulls_6 : decode cX4_swapPulls 6 = .ok (.aload_n 0, 1) := by decide +kernel
theorem dX4_swapPulls_7 : decode cX4_swapPulls 7 = .ok (.bipush 10, 2) := by decide +kernel
theorem dX4_swapPulls_9 : decode cX4_swapPulls 9 = .ok (.iload_n 1, 1) := by decide +kernel
theorem dX4_swapPulls_10 : decode cX4_swapPulls 10 = .ok (.aload_n 0, 1) := by decide +kernel
theorem dX4_swapPulls_11 : decode cX4_swapPulls 11 = .ok (.iload_n 2, 1) := by decide +kernel
theorem dX4_swapPulls_12 : decode cX4_swapPulls 12 = .ok (.invokevirtual 63, 3) := by decide +kernel
theorem dX4_swapPulls_15 : decode cX4_swapPulls 15 = .ok (.invokevirtual 25, 3) := by decide +kernel
theorem dX4_swapPulls_18 : decode cX4_swapPulls 18 = .ok (.aload_n 0, 1) := by decide +kernel
theorem dX4_swapPulls_19 : decode cX4_swapPulls 19 = .ok (.bipush 10, 2) := by decide +kernel
theorem dX4_swapPulls_21 : decode cX4_swapPulls 21 = .ok (.iload_n 2, 1) := by decide +kernel
theorem dX4_swapPulls_22 : decode cX4_swapPulls 22 = .ok (.iload_n 3, 1) := by decide +kernel
theorem dX4_swapPulls_23 : decode cX4_swapPulls 23 = .ok (.invokevirtual 25, 3) := by decide +kernel
theorem dX4_swapPulls_26 : decode cX4_swapPulls 26 = .ok (.return_, 1) := by decide +kernel
theorem dX4_comeFromNowhere_0 : decode cX4_comeFromNowhere 0 = .ok (.aload_n 0, 1) := by decide +kernel
theorem dX4_comeFromNowhere_1 : decode cX4_comeFromNowhere 1 = .ok (.iconst 5, 1) := by decide +kernel
theorem dX4_comeFromNowhere_2 : decode cX4_comeFromNowhere 2 = .ok (.iload_n 1, 1) := by decide +kernel
theorem dX4_comeFromNowhere_3 : decode cX4_comeFromNowhere 3 = .ok (.iconst (-1), 1) := by decide +kernel
theorem dX4_comeFromNowhere_4 : decode cX4_comeFromNowhere 4 = .ok (.invokevirtual 25, 3) := by decide +kernel
theorem dX4_comeFromNowhere_7 : decode cX4_comeFromNowhere 7 = .ok (.return_, 1) := by decide +kernel
theorem dX5_init_0 : decode cX5_init 0 = .ok (.aload_n 0, 1) := by decide +kernel
theorem dX5_init_1 : decode cX5_init 1 = .ok (.invokespecial 3, 3) := by decide +kernel
theorem dX5_init_4 : decode cX5_init 4 = .ok (.aload_n 0, 1) := by decide +kernel
theorem dX5_init_5 : decode cX5_init 5 = .ok (.new 9, 3) := by decide +kernel
theorem dX5_init_8 : decode cX5_init 8 = .ok (.dup, 1) := by decide +kernel
theorem dX5_init_9 : decode cX5_init 9 = .ok (.iconst 2, 1) := by decide +kernel
theorem dX5_init_10 : decode cX5_init 10 = .ok (.invokespecial 11, 3) := by decide +kernel
theorem dX5_init_13 : decode cX5_init 13 = .ok (.putfield 14, 3) := by decide +kernel
theorem dX5_init_16 : decode cX5_init 16 = .ok (.aload_n 0, 1) := by decide +kernel
theorem dX5_init_17 : decode cX5_init 17 = .ok (.iconst 2, 1) := by decide +kernel
theorem dX5_init_18 : decode cX5_init 18 = .ok (.newarray .int, 2) := by decide +kernel
theorem dX5_init_20 : decode cX5_init 20 = .ok (.putfield 20, 3) := by decide +kernel
theorem dX5_init_23 : decode cX5_init 23 = .ok (.aload_n 0, 1) := by decide +kernel
theorem dX5_init_24 : decode cX5_init 24 = .ok (.iconst 2, 1) := by decide +kernel
theorem dX5_init_25 : decode cX5_init 25 = .ok (.newarray .boolean, 2) := by decide +kernel
theorem dX5_init_27 : decode cX5_init 27 = .ok (.putfield 24, 3) := by decide +kernel
theorem dX5_init_30 : decode cX5_init 30 = .ok (.return_, 1) := by decide +kernel
theorem dX5_isKept_0 : decode cX5_isKept 0 = .ok (.iload_n 1, 1) := by decide +kernel
theorem dX5_isKept_1 : decode cX5_isKept 1 = .ok (.ifCond .lt 21, 3) := by decide +kernel
theorem dX5_isKept_4 : decode cX5_isKept 4 = .ok (.iload_n 1, 1) := by decide +kernel
theorem dX5_isKept_5 : decode cX5_isKept 5 = .ok (.iconst 2, 1) := by decide +kernel
theorem dX5_isKept_6 : decode cX5_isKept 6 = .ok (.if_icmp .ge 16, 3) := by decide +kernel
theorem dX5_isKept_9 : decode cX5_isKept 9 = .ok (.aload_n 0, 1) := by decide +kernel
theorem dX5_isKept_10 : decode cX5_isKept 10 = .ok (.getfield 24, 3) := by decide +kernel
theorem dX5_isKept_13 : decode cX5_isKept 13 = .ok (.iload_n 1, 1) := by decide +kernel
theorem dX5_isKept_14 : decode cX5_isKept 14 = .ok (.baload, 1) := by decide +kernel
theorem dX5_isKept_15 : decode cX5_isKept 15 = .ok (.ifCond .eq 7, 3) := by decide +kernel
theorem dX5_isKept_18 : decode cX5_isKept 18 = .ok (.iconst 1, 1) := by decide +kernel
theorem dX5_isKept_19 : decode cX5_isKept 19 = .ok (.goto 4, 3) := by decide +kernel
theorem dX5_isKept_22 : decode cX5_isKept 22 = .ok (.iconst 0, 1) := by decide +kernel
theorem dX5_isKept_23 : decode cX5_isKept 23 = .ok (.ireturn, 1) := by decide +kernel
theorem dX5_keepIn_0 : decode cX5_keepIn 0 = .ok (.iload_n 1, 1) := by decide +kernel
theorem dX5_keepIn_1 : decode cX5_keepIn 1 = .ok (.ifCond .lt 8, 3) := by decide +kernel
theorem dX5_keepIn_4 : decode cX5_keepIn 4 = .ok (.iload_n 1, 1) := by decide +kernel
theorem dX5_keepIn_5 : decode cX5_keepIn 5 = .ok (.iconst 2, 1) := by decide +kernel
theorem dX5_keepIn_6 : decode cX5_keepIn 6 = .ok (.if_icmp .lt 4, 3) := by decide +kernel
theorem dX5_keepIn_9 : decode cX5_keepIn 9 = .ok (.return_, 1) := by decide +kernel
theorem dX5_keepIn_10 : decode cX5_keepIn 10 = .ok (.aload_n 0, 1) := by decide +kernel
theorem dX5_keepIn_11 : decode cX5_keepIn 11 = .ok (.getfield 14, 3) := by decide +kernel
theorem dX5_keepIn_14 : decode cX5_keepIn 14 = .ok (.iload_n 1, 1) := by decide +kernel
theorem dX5_keepIn_15 : decode cX5_keepIn 15 = .ok (.aload_n 2, 1) := by decide +kernel
theorem dX5_keepIn_16 : decode cX5_keepIn 16 = .ok (.invokevirtual 28, 3) := by decide +kernel
theorem dX5_keepIn_19 : decode cX5_keepIn 19 = .ok (.aload_n 0, 1) := by decide +kernel
theorem dX5_keepIn_20 : decode cX5_keepIn 20 = .ok (.getfield 20, 3) := by decide +kernel
theorem dX5_keepIn_23 : decode cX5_keepIn 23 = .ok (.iload_n 1, 1) := by decide +kernel
theorem dX5_keepIn_24 : decode cX5_keepIn 24 = .ok (.aload_n 3, 1) := by decide +kernel
theorem dX5_keepIn_25 : decode cX5_keepIn 25 = .ok (.getfield 32, 3) := by decide +kernel
theorem dX5_keepIn_28 : decode cX5_keepIn 28 = .ok (.iastore, 1) := by decide +kernel
theorem dX5_keepIn_29 : decode cX5_keepIn 29 = .ok (.aload_n 0, 1) := by decide +kernel
theorem dX5_keepIn_30 : decode cX5_keepIn 30 = .ok (.getfield 24, 3) := by decide +kernel
theorem dX5_keepIn_33 : decode cX5_keepIn 33 = .ok (.iload_n 1, 1) := by decide +kernel
theorem dX5_keepIn_34 : decode cX5_keepIn 34 = .ok (.iconst 1, 1) := by decide +kernel
theorem dX5_keepIn_35 : decode cX5_keepIn 35 = .ok (.bastore, 1) := by decide +kernel
theorem dX5_keepIn_36 : decode cX5_keepIn 36 = .ok (.return_, 1) := by decide +kernel
theorem dX5_bringBack_0 : decode cX5_bringBack 0 = .ok (.aload_n 0, 1) := by decide +kernel
theorem dX5_bringBack_1 : decode cX5_bringBack 1 = .ok (.iload_n 1, 1) := by decide +kernel
theorem dX5_bringBack_2 : decode cX5_bringBack 2 = .ok (.invokevirtual 38, 3) := by decide +kernel
theorem dX5_bringBack_5 : decode cX5_bringBack 5 = .ok (.ifCond .ne 4, 3) := by decide +kernel
theorem dX5_bringBack_8 : decode cX5_bringBack 8 = .ok (.return_, 1) := by decide +kernel
theorem dX5_bringBack_9 : decode cX5_bringBack 9 = .ok (.aload_n 0, 1) := by decide +kernel
theorem dX5_bringBack_10 : decode cX5_bringBack 10 = .ok (.getfield 14, 3) := by decide +kernel
theorem dX5_bringBack_13 : decode cX5_bringBack 13 = .ok (.iload_n 1, 1) := by decide +kernel
theorem dX5_bringBack_14 : decode cX5_bringBack 14 = .ok (.aload_n 2, 1) := by decide +kernel
theorem dX5_bringBack_15 : decode cX5_bringBack 15 = .ok (.invokevirtual 42, 3) := by decide +kernel
theorem dX5_bringBack_18 : decode cX5_bringBack 18 = .ok (.aload_n 3, 1) := by decide +kernel
theorem dX5_bringBack_19 : decode cX5_bringBack 19 = .ok (.aload_n 0, 1) := by decide +kernel
theorem dX5_bringBack_20 : decode cX5_bringBack 20 = .ok (.getfield 20, 3) := by decide +kernel
theorem dX5_bringBack_23 : decode cX5_bringBack 23 = .ok (.iload_n 1, 1) := by decide +kernel
theorem dX5_bringBack_24 : decode cX5_bringBack 24 = .ok (.iaload, 1) := by decide +kernel
theorem dX5_bringBack_25 : decode cX5_bringBack 25 = .ok (.putfield 32, 3) := by decide +kernel
theorem dX5_bringBack_28 : decode cX5_bringBack 28 = .ok (.return_, 1) := by decide +kernel
theorem dX5_forget_0 : decode cX5_forget 0 = .ok (.iconst 0, 1) := by decide +kernel
theorem dX5_forget_1 : decode cX5_forget 1 = .ok (.istore_n 1, 1) := by decide +kernel
theorem dX5_forget_2 : decode cX5_forget 2 = .ok (.iload_n 1, 1) := by decide +kernel
theorem dX5_forget_3 : decode cX5_forget 3 = .ok (.iconst 2, 1) := by decide +kernel
theorem dX5_forget_4 : decode cX5_forget 4 = .ok (.if_icmp .ge 16, 3) := by decide +kernel
theorem dX5_forget_7 : decode cX5_forget 7 = .ok (.aload_n 0, 1) := by decide +kernel
theorem dX5_forget_8 : decode cX5_forget 8 = .ok (.getfield 24, 3) := by decide +kernel
theorem dX5_forget_11 : decode cX5_forget 11 = .ok (.iload_n 1, 1) := by decide +kernel
theorem dX5_forget_12 : decode cX5_forget 12 = .ok (.iconst 0, 1) := by decide +kernel
theorem dX5_forget_13 : decode cX5_forget 13 = .ok (.bastore, 1) := by decide +kernel
theorem dX5_forget_14 : decode cX5_forget 14 = .ok (.iinc 1 1, 3) := by decide +kernel
theorem dX5_forget_17 : decode cX5_forget 17 = .ok (.goto (-15), 3) := by decide +kernel
theorem dX5_forget_20 : decode cX5_forget 20 = .ok (.return_, 1) := by decide +kernel
theorem dX6_init_0 : decode cX6_init 0 = .ok (.aload_n 0, 1) := by decide +kernel
theorem dX6_init_1 : decode cX6_init 1 = .ok (.invokespecial 3, 3) := by decide +kernel
theorem dX6_init_4 : decode cX6_init 4 = .ok (.aload_n 0, 1) := by decide +kernel
theorem dX6_init_5 : decode cX6_init 5 = .ok (.new 9, 3) := by decide +kernel
theorem dX6_init_8 : decode cX6_init 8 = .ok (.dup, 1) := by decide +kernel
theorem dX6_init_9 : decode cX6_init 9 = .ok (.bipush 20, 2) := by decide +kernel
theorem dX6_init_11 : decode cX6_init 11 = .ok (.invokespecial 11, 3) := by decide +kernel
theorem dX6_init_14 : decode cX6_init 14 = .ok (.putfield 14, 3) := by decide +kernel
theorem dX6_init_17 : decode cX6_init 17 = .ok (.aload_n 0, 1) := by decide +kernel
theorem dX6_init_18 : decode cX6_init 18 = .ok (.iconst 0, 1) := by decide +kernel
theorem dX6_init_19 : decode cX6_init 19 = .ok (.putfield 20, 3) := by decide +kernel
theorem dX6_init_22 : decode cX6_init 22 = .ok (.aload_n 0, 1) := by decide +kernel
theorem dX6_init_23 : decode cX6_init 23 = .ok (.iconst 0, 1) := by decide +kernel
theorem dX6_init_24 : decode cX6_init 24 = .ok (.putfield 24, 3) := by decide +kernel
theorem dX6_init_27 : decode cX6_init 27 = .ok (.return_, 1) := by decide +kernel
theorem dX6_remember_0 : decode cX6_remember 0 = .ok (.aload_n 0, 1) := by decide +kernel
theorem dX6_remember_1 : decode cX6_remember 1 = .ok (.getfield 14, 3) := by decide +kernel
theorem dX6_remember_4 : decode cX6_remember 4 = .ok (.aload_n 0, 1) := by decide +kernel
theorem dX6_remember_5 : decode cX6_remember 5 = .ok (.getfield 20, 3) := by decide +kernel
theorem dX6_remember_8 : decode cX6_remember 8 = .ok (.aload_n 1, 1) := by decide +kernel
theorem dX6_remember_9 : decode cX6_remember 9 = .ok (.invokevirtual 27, 3) := by decide +kernel
theorem dX6_remember_12 : decode cX6_remember 12 = .ok (.aload_n 0, 1) := by decide +kernel
theorem dX6_remember_13 : decode cX6_remember 13 = .ok (.aload_n 0, 1) := by decide +kernel
theorem dX6_remember_14 : decode cX6_remember 14 = .ok (.getfield 20, 3) := by decide +kernel
theorem dX6_remember_17 : decode cX6_remember 17 = .ok (.iconst 1, 1) := by decide +kernel
theorem dX6_remember_18 : decode cX6_remember 18 = .ok (.iadd, 1) := by decide +kernel
theorem dX6_remember_19 : decode cX6_remember 19 = .ok (.bipush 20, 2) := by decide +kernel
theorem dX6_remember_21 : decode cX6_remember 21 = .ok (.irem, 1) := by decide +kernel
theorem dX6_remember_22 : decode cX6_remember 22 = .ok (.putfield 20, 3) := by decide +kernel
theorem dX6_remember_25 : decode cX6_remember 25 = .ok (.aload_n 0, 1) := by decide +kernel
theorem dX6_remember_26 : decode cX6_remember 26 = .ok (.getfield 24, 3) := by decide +kernel
theorem dX6_remember_29 : decode cX6_remember 29 = .ok (.bipush 20, 2) := by decide +kernel
theorem dX6_remember_31 : decode cX6_remember 31 = .ok (.if_icmp .ge 13, 3) := by decide +kernel
theorem dX6_remember_34 : decode cX6_remember 34 = .ok (.aload_n 0, 1) := by decide +kernel
theorem dX6_remember_35 : decode cX6_remember 35 = .ok (.dup, 1) := by decide +kernel
theorem dX6_remember_36 : decode cX6_remember 36 = .ok (.getfield 24, 3) := by decide +kernel
theorem dX6_remember_39 : decode cX6_remember 39 = .ok (.iconst 1, 1) := by decide +kernel
theorem dX6_remember_40 : decode cX6_remember 40 = .ok (.iadd, 1) := by decide +kernel
theorem dX6_remember_41 : decode cX6_remember 41 = .ok (.putfield 24, 3) := by decide +kernel
theorem dX6_remember_44 : decode cX6_remember 44 = .ok (.return_, 1) := by decide +kernel
theorem dX6_bringBack_0 : decode cX6_bringBack 0 = .ok (.aload_n 0, 1) := by decide +kernel
theorem dX6_bringBack_1 : decode cX6_bringBack 1 = .ok (.getfield 24, 3) := by decide +kernel
theorem dX6_bringBack_4 : decode cX6_bringBack 4 = .ok (.iconst 1, 1) := by decide +kernel
theorem dX6_bringBack_5 : decode cX6_bringBack 5 = .ok (.if_icmp .ge 4, 3) := by decide +kernel
theorem dX6_bringBack_8 : decode cX6_bringBack 8 = .ok (.return_, 1) := by decide +kernel
theorem dX6_bringBack_9 : decode cX6_bringBack 9 = .ok (.aload_n 0, 1) := by decide +kernel
theorem dX6_bringBack_10 : decode cX6_bringBack 10 = .ok (.aload_n 0, 1) := by decide +kernel
theorem dX6_bringBack_11 : decode cX6_bringBack 11 = .ok (.getfield 20, 3) := by decide +kernel
theorem dX6_bringBack_14 : decode cX6_bringBack 14 = .ok (.bipush 20, 2) := by decide +kernel
theorem dX6_bringBack_16 : decode cX6_bringBack 16 = .ok (.iadd, 1) := by decide +kernel
theorem dX6_bringBack_17 : decode cX6_bringBack 17 = .ok (.iconst 1, 1) := by decide +kernel
theorem dX6_bringBack_18 : decode cX6_bringBack 18 = .ok (.isub, 1) := by decide +kernel
theorem dX6_bringBack_19 : decode cX6_bringBack 19 = .ok (.bipush 20, 2) := by decide +kernel
theorem dX6_bringBack_21 : decode cX6_bringBack 21 = .ok (.irem, 1) := by decide +kernel
theorem dX6_bringBack_22 : decode cX6_bringBack 22 = .ok (.putfield 20, 3) := by decide +kernel
theorem dX6_bringBack_25 : decode cX6_bringBack 25 = .ok (.aload_n 0, 1) := by decide +kernel
theorem dX6_bringBack_26 : decode cX6_bringBack 26 = .ok (.dup, 1) := by decide +kernel
theorem dX6_bringBack_27 : decode cX6_bringBack 27 = .ok (.getfield 24, 3) := by decide +kernel
theorem dX6_bringBack_30 : decode cX6_bringBack 30 = .ok (.iconst 1, 1) := by decide +kernel
theorem dX6_bringBack_31 : decode cX6_bringBack 31 = .ok (.isub, 1) := by decide +kernel
theorem dX6_bringBack_32 : decode cX6_bringBack 32 = .ok (.putfield 24, 3) := by decide +kernel
theorem dX6_bringBack_35 : decode cX6_bringBack 35 = .ok (.aload_n 0, 1) := by decide +kernel
theorem dX6_bringBack_36 : decode cX6_bringBack 36 = .ok (.getfield 14, 3) := by decide +kernel
theorem dX6_bringBack_39 : decode cX6_bringBack 39 = .ok (.aload_n 0, 1) := by decide +kernel
theorem dX6_bringBack_40 : decode cX6_bringBack 40 = .ok (.getfield 20, 3) := by decide +kernel
theorem dX6_bringBack_43 : decode cX6_bringBack 43 = .ok (.aload_n 1, 1) := by decide +kernel
theorem dX6_bringBack_44 : decode cX6_bringBack 44 = .ok (.invokevirtual 31, 3) := by decide +kernel
theorem dX6_bringBack_47 : decode cX6_bringBack 47 = .ok (.return_, 1) := by decide +kernel
theorem dX6_forget_0 : decode cX6_forget 0 = .ok (.aload_n 0, 1) := by decide +kernel
theorem dX6_forget_1 : decode cX6_forget 1 = .ok (.iconst 0, 1) := by decide +kernel
theorem dX6_forget_2 : decode cX6_forget 2 = .ok (.putfield 24, 3) := by decide +kernel
theorem dX6_forget_5 : decode cX6_forget 5 = .ok (.return_, 1) := by decide +kernel
theorem dX7_init_0 : decode cX7_init 0 = .ok (.aload_n 0, 1) := by decide +kernel
theorem dX7_init_1 : decode cX7_init 1 = .ok (.invokespecial 3, 3) := by decide +kernel
theorem dX7_init_4 : decode cX7_init 4 = .ok (.aload_n 0, 1) := by decide +kernel
theorem dX7_init_5 : decode cX7_init 5 = .ok (.iconst 0, 1) := by decide +kernel
theorem dX7_init_6 : decode cX7_init 6 = .ok (.newarray .int, 2) := by decide +kernel
theorem dX7_init_8 : decode cX7_init 8 = .ok (.putfield 9, 3) := by decide +kernel
theorem dX7_init_11 : decode cX7_init 11 = .ok (.aload_n 0, 1) := by decide +kernel
theorem dX7_init_12 : decode cX7_init 12 = .ok (.iconst 0, 1) := by decide +kernel
theorem dX7_init_13 : decode cX7_init 13 = .ok (.putfield 15, 3) := by decide +kernel
theorem dX7_init_16 : decode cX7_init 16 = .ok (.aload_n 0, 1) := by decide +kernel
theorem dX7_init_17 : decode cX7_init 17 = .ok (.iconst 0, 1) := by decide +kernel
theorem dX7_init_18 : decode cX7_init 18 = .ok (.putfield 19, 3) := by decide +kernel
theorem dX7_init_21 : decode cX7_init 21 = .ok (.aload_n 0, 1) := by decide +kernel
theorem dX7_init_22 : decode cX7_init 22 = .ok (.iconst 0, 1) := by decide +kernel
theorem dX7_init_23 : decode cX7_init 23 = .ok (.putfield 22, 3) := by decide +kernel
theorem dX7_init_26 : decode cX7_init 26 = .ok (.aload_n 0, 1) := by decide +kernel
theorem dX7_init_27 : decode cX7_init 27 = .ok (.iconst 0, 1) := by decide +kernel
theorem dX7_init_28 : decode cX7_init 28 = .ok (.putfield 25, 3) := by decide +kernel
theorem dX7_init_31 : decode cX7_init 31 = .ok (.aload_n 0, 1) := by decide +kernel
theorem dX7_init_32 : decode cX7_init 32 = .ok (.iconst (-1), 1) := by decide +kernel
theorem dX7_init_33 : decode cX7_init 33 = .ok (.putfield 28, 3) := by decide +kernel
theorem dX7_init_36 : decode cX7_init 36 = .ok (.return_, 1) := by decide +kernel
theorem dX7_readText_0 : decode cX7_readText 0 = .ok (.aload_n 0, 1) := by decide +kernel
theorem dX7_readText_1 : decode cX7_readText 1 = .ok (.aload_n 1, 1) := by decide +kernel
theorem dX7_readText_2 : decode cX7_readText 2 = .ok (.putfield 9, 3) := by decide +kernel
theorem dX7_readText_5 : decode cX7_readText 5 = .ok (.aload_n 0, 1) := by decide +kernel
theorem dX7_readText_6 : decode cX7_readText 6 = .ok (.iload_n 2, 1) := by decide +kernel
theorem dX7_readText_7 : decode cX7_readText 7 = .ok (.aload_n 1, 1) := by decide +kernel
theorem dX7_readText_8 : decode cX7_readText 8 = .ok (.arraylength, 1) := by decide +kernel
theorem dX7_readText_9 : decode cX7_readText 9 = .ok (.invokestatic 31, 3) := by decide +kernel
theorem dX7_readText_12 : decode cX7_readText 12 = .ok (.putfield 15, 3) := by decide +kernel
theorem dX7_readText_15 : decode cX7_readText 15 = .ok (.aload_n 0, 1) := by decide +kernel
theorem dX7_readText_16 : decode cX7_readText 16 = .ok (.iconst 0, 1) := by decide +kernel
theorem dX7_readText_17 : decode cX7_readText 17 = .ok (.putfield 19, 3) := by decide +kernel
theorem dX7_readText_20 : decode cX7_readText 20 = .ok (.aload_n 0, 1) := by decide +kernel
theorem dX7_readText_21 : decode cX7_readText 21 = .ok (.iconst 0, 1) := by decide +kernel
theorem dX7_readText_22 : decode cX7_readText 22 = .ok (.putfield 25, 3) := by decide +kernel
theorem dX7_readText_25 : decode cX7_readText 25 = .ok (.aload_n 0, 1) := by decide +kernel
theorem dX7_readText_26 : decode cX7_readText 26 = .ok (.iconst (-1), 1) := by decide +kernel
theorem dX7_readText_27 : decode cX7_readText 27 = .ok (.putfield 28, 3) := by decide +kernel
theorem dX7_readText_30 : decode cX7_readText 30 = .ok (.aload_n 3, 1) := by decide +kernel
theorem dX7_readText_31 : decode cX7_readText 31 = .ok (.invokevirtual 37, 3) := by decide +kernel
theorem dX7_readText_34 : decode cX7_readText 34 = .ok (.aload_n 0, 1) := by decide +kernel
theorem dX7_readText_35 : decode cX7_readText 35 = .ok (.invokevirtual 42, 3) := by decide +kernel
theorem dX7_readText_38 : decode cX7_readText 38 = .ok (.ifCond .eq 8, 3) := by decide +kernel
theorem dX7_readText_41 : decode cX7_readText 41 = .ok (.aload_n 0, 1) := by decide +kernel
theorem dX7_readText_42 : decode cX7_readText 42 = .ok (.aload_n 3, 1) := by decide +kernel
theorem dX7_readText_43 : decode cX7_readText 43 = .ok (.invokevirtual 46, 3) := by decide +kernel
theorem dX7_readText_46 : decode cX7_readText 46 = .ok (.iconst 0, 1) := by decide +kernel
theorem dX7_readText_47 : decode cX7_readText 47 = .ok (.istore 4, 2) := by decide +kernel
theorem dX7_readText_49 : decode cX7_readText 49 = .ok (.iload 4, 2) := by decide +kernel
theorem dX7_readText_51 : decode cX7_readText 51 = .ok (.sipush 240, 3) := by decide +kernel
theorem dX7_readText_54 : decode cX7_readText 54 = .ok (.if_icmp .ge 21, 3) := by decide +kernel
theorem dX7_readText_57 : decode cX7_readText 57 = .ok (.aload_n 0, 1) := by decide +kernel
theorem dX7_readText_58 : decode cX7_readText 58 = .ok (.invokevirtual 42, 3) := by decide +kernel
theorem dX7_readText_61 : decode cX7_readText 61 = .ok (.ifCond .eq 14, 3) := by decide +kernel
theorem dX7_readText_64 : decode cX7_readText 64 = .ok (.aload_n 0, 1) := by decide +kernel
theorem dX7_readText_65 : decode cX7_readText 65 = .ok (.aload_n 3, 1) := by decide +kernel
theorem dX7_readText_66 : decode cX7_readText 66 = .ok (.invokevirtual 50, 3) := by decide +kernel
theorem dX7_readText_69 : decode cX7_readText 69 = .ok (.iinc 4 1, 3) := by decide +kernel
theorem dX7_readText_72 : decode cX7_readText 72 = .ok (.goto (-23), 3) := by decide +kernel
theorem dX7_readText_75 : decode cX7_readText 75 = .ok (.aload_n 3, 1) := by decide +kernel
theorem dX7_readText_76 : decode cX7_readText 76 = .ok (.invokevirtual 53, 3) := by decide +kernel
theorem dX7_readText_79 : decode cX7_readText 79 = .ok (.return_, 1) := by decide +kernel
theorem dX7_readJunctions_0 : decode cX7_readJunctions 0 = .ok (.aload_n 0, 1) := by decide +kernel
theorem dX7_readJunctions_1 : decode cX7_readJunctions 1 = .ok (.bipush 106, 2) := by decide +kernel
theorem dX7_readJunctions_3 : decode cX7_readJunctions 3 = .ok (.invokevirtual 56, 3) := by decide +kernel
theorem dX7_readJunctions_6 : decode cX7_readJunctions 6 = .ok (.aload_n 0, 1) := by decide +kernel
theorem dX7_readJunctions_7 : decode cX7_readJunctions 7 = .ok (.iconst 1, 1) := by decide +kernel
theorem dX7_readJunctions_8 : decode cX7_readJunctions 8 = .ok (.bipush 9, 2) := by decide +kernel
theorem dX7_readJunctions_10 : decode cX7_readJunctions 10 = .ok (.invokevirtual 60, 3) := by decide +kernel
theorem dX7_readJunctions_13 : decode cX7_readJunctions 13 = .ok (.istore_n 2, 1) := by decide +kernel
theorem dX7_readJunctions_14 : decode cX7_readJunctions 14 = .ok (.aload_n 0, 1) := by decide +kernel
theorem dX7_readJunctions_15 : decode cX7_readJunctions 15 = .ok (.bipush 59, 2) := by decide +kernel
theorem dX7_readJunctions_17 : decode cX7_readJunctions 17 = .ok (.invokevirtual 56, 3) := by decide +kernel
theorem dX7_readJunctions_20 : decode cX7_readJunctions 20 = .ok (.aload_n 1, 1) := by decide +kernel
theorem dX7_readJunctions_21 : decode cX7_readJunctions 21 = .ok (.iload_n 2, 1) := by decide +kernel
theorem dX7_readJunctions_22 : decode cX7_readJunctions 22 = .ok (.putfield 63, 3) := by decide +kernel
theorem dX7_readJunctions_25 : decode cX7_readJunctions 25 = .ok (.return_, 1) := by decide +kernel
theorem dX7_goesOn_0 : decode cX7_goesOn 0 = .ok (.aload_n 0, 1) := by decide +kernel
theorem dX7_goesOn_1 : decode cX7_goesOn 1 = .ok (.invokevirtual 66, 3) := by decide +kernel
theorem dX7_goesOn_4 : decode cX7_goesOn 4 = .ok (.aload_n 0, 1) := by decide +kernel
theorem dX7_goesOn_5 : decode cX7_goesOn 5 = .ok (.getfield 25, 3) := by decide +kernel
theorem dX7_goesOn_8 : decode cX7_goesOn 8 = .ok (.ifCond .ne 18, 3) := by decide +kernel
theorem dX7_goesOn_11 : decode cX7_goesOn 11 = .ok (.aload_n 0, 1) := by decide +kernel
theorem dX7_goesOn_12 : decode cX7_goesOn 12 = .ok (.getfield 19, 3) := by decide +kernel
theorem dX7_goesOn_15 : decode cX7_goesOn 15 = .ok (.aload_n 0, 1) := by decide +kernel
theorem dX7_goesOn_16 : decode cX7_goesOn 16 = .ok (.getfield 15, 3) := by decide +kernel
theorem dX7_goesOn_19 : decode cX7_goesOn 19 = .ok (.if_icmp .ge 7, 3) := by decide +kernel
theorem dX7_goesOn_22 : decode cX7_goesOn 22 = .ok (.iconst 1, 1) := by decide +kernel
theorem dX7_goesOn_23 : decode cX7_goesOn 23 = .ok (.goto 4, 3) := by decide +kernel
theorem dX7_goesOn_26 : decode cX7_goesOn 26 = .ok (.iconst 0, 1) := by decide +kernel
theorem dX7_goesOn_27 : decode cX7_goesOn 27 = .ok (.ireturn, 1) := by decide +kernel
theorem dX7_readClause_0 : decode cX7_readClause 0 = .ok (.aload_n 0, 1) := by decide +kernel
theorem dX7_readClause_1 : decode cX7_readClause 1 = .ok (.invokevirtual 69, 3) := by decide +kernel
theorem dX7_readClause_4 : decode cX7_readClause 4 = .ok (.istore_n 2, 1) := by decide +kernel
theorem dX7_readClause_5 : decode cX7_readClause 5 = .ok (.aload_n 0, 1) := by decide +kernel
theorem dX7_readClause_6 : decode cX7_readClause 6 = .ok (.getfield 19, 3) := by decide +kernel
theorem dX7_readClause_9 : decode cX7_readClause 9 = .ok (.istore_n 3, 1) := by decide +kernel
theorem dX7_readClause_10 : decode cX7_readClause 10 = .ok (.aload_n 0, 1) := by decide +kernel
theorem dX7_readClause_11 : decode cX7_readClause 11 = .ok (.dup, 1) := by decide +kernel
theorem dX7_readClause_12 : decode cX7_readClause 12 = .ok (.getfield 19, 3) := by decide +kernel
theorem dX7_readClause_15 : decode cX7_readClause 15 = .ok (.iconst 1, 1) := by decide +kernel
theorem dX7_readClause_16 : decode cX7_readClause 16 = .ok (.iadd, 1) := by decide +kernel
theorem dX7_readClause_17 : decode cX7_readClause 17 = .ok (.putfield 19, 3) := by decide +kernel
theorem dX7_readClause_20 : decode cX7_readClause 20 = .ok (.iload_n 2, 1) := by decide +kernel
theorem dX7_readClause_21 : decode cX7_readClause 21 = .ok (.bipush 106, 2) := by decide +kernel
theorem dX7_readClause_23 : decode cX7_readClause 23 = .ok (.if_icmp .ne 12, 3) := by decide +kernel
theorem dX7_readClause_26 : decode cX7_readClause 26 = .ok (.aload_n 0, 1) := by decide +kernel
theorem dX7_readClause_27 : decode cX7_readClause 27 = .ok (.iconst 3, 1) := by decide +kernel
theorem dX7_readClause_28 : decode cX7_readClause 28 = .ok (.iload_n 3, 1) := by decide +kernel
theorem dX7_readClause_29 : decode cX7_readClause 29 = .ok (.invokevirtual 73, 3) := by decide +kernel
theorem dX7_readClause_32 : decode cX7_readClause 32 = .ok (.goto 66, 3) := by decide +kernel
theorem dX7_readClause_35 : decode cX7_readClause 35 = .ok (.iload_n 2, 1) := by decide +kernel
theorem dX7_readClause_36 : decode cX7_readClause 36 = .ok (.bipush 99, 2) := by decide +kernel
theorem dX7_readClause_38 : decode cX7_readClause 38 = .ok (.if_icmp .ne 26, 3) := by decide +kernel
theorem dX7_readClause_41 : decode cX7_readClause 41 = .ok (.aload_n 1, 1) := by decide +kernel
theorem dX7_readClause_42 : decode cX7_readClause 42 = .ok (.getfield 77, 3) := by decide +kernel
theorem dX7_readClause_45 : decode cX7_readClause 45 = .ok (.bipush 14, 2) := by decide +kernel
theorem dX7_readClause_47 : decode cX7_readClause 47 = .ok (.if_icmp .lt 9, 3) := by decide +kernel
theorem dX7_readClause_50 : decode cX7_readClause 50 = .ok (.aload_n 0, 1) := by decide +kernel
theorem dX7_readClause_51 : decode cX7_readClause 51 = .ok (.iconst 3, 1) := by decide +kernel
theorem dX7_readClause_52 : decode cX7_readClause 52 = .ok (.iload_n 3, 1) := by decide +kernel
theorem dX7_readClause_53 : decode cX7_readClause 53 = .ok (.invokevirtual 73, 3) := by decide +kernel
theorem dX7_readClause_56 : decode cX7_readClause 56 = .ok (.aload_n 0, 1) := by decide +kernel
theorem dX7_readClause_57 : decode cX7_readClause 57 = .ok (.aload_n 1, 1) := by decide +kernel
theorem dX7_readClause_58 : decode cX7_readClause 58 = .ok (.invokevirtual 80, 3) := by decide +kernel
theorem dX7_readClause_61 : decode cX7_readClause 61 = .ok (.goto 37, 3) := by decide +kernel
theorem dX7_readClause_64 : decode cX7_readClause 64 = .ok (.iload_n 2, 1) := by decide +kernel
theorem dX7_readClause_65 : decode cX7_readClause 65 = .ok (.bipush 98, 2) := by decide +kernel
theorem dX7_readClause_67 : decode cX7_readClause 67 = .ok (.if_icmp .ne 25, 3) := by decide +kernel
theorem dX7_readClause_70 : decode cX7_readClause 70 = .ok (.aload_n 1, 1) := by decide +kernel
theorem dX7_readClause_71 : decode cX7_readClause 71 = .ok (.getfield 83, 3) := by decide +kernel
theorem dX7_readClause_74 : decode cX7_readClause 74 = .ok (.iconst 5, 1) := by decide +kernel
theorem dX7_readClause_75 : decode cX7_readClause 75 = .ok (.if_icmp .lt 9, 3) := by decide +kernel
theorem dX7_readClause_78 : decode cX7_readClause 78 = .ok (.aload_n 0, 1) := by decide +kernel
theorem dX7_readClause_79 : decode cX7_readClause 79 = .ok (.iconst 3, 1) := by decide +kernel
theorem dX7_readClause_80 : decode cX7_readClause 80 = .ok (.iload_n 3, 1) := by decide +kernel
theorem dX7_readClause_81 : decode cX7_readClause 81 = .ok (.invokevirtual 73, 3) := by decide +kernel
theorem dX7_readClause_84 : decode cX7_readClause 84 = .ok (.aload_n 0, 1) := by decide +kernel
theorem dX7_readClause_85 : decode cX7_readClause 85 = .ok (.aload_n 1, 1) := by decide +kernel
theorem dX7_readClause_86 : decode cX7_readClause 86 = .ok (.invokevirtual 86, 3) := by decide +kernel
theorem dX7_readClause_89 : decode cX7_readClause 89 = .ok (.goto 9, 3) := by decide +kernel
theorem dX7_readClause_92 : decode cX7_readClause 92 = .ok (.aload_n 0, 1) := by decide +kernel
theorem dX7_readClause_93 : decode cX7_readClause 93 = .ok (.iconst 1, 1) := by decide +kernel
theorem dX7_readClause_94 : decode cX7_readClause 94 = .ok (.iload_n 3, 1) := by decide +kernel
theorem dX7_readClause_95 : decode cX7_readClause 95 = .ok (.invokevirtual 73, 3) := by decide +kernel
theorem dX7_readClause_98 : decode cX7_readClause 98 = .ok (.return_, 1) := by decide +kernel
theorem dX7_readCut_0 : decode cX7_readCut 0 = .ok (.aload_n 0, 1) := by decide +kernel
theorem dX7_readCut_1 : decode cX7_readCut 1 = .ok (.iconst 0, 1) := by decide +kernel
theorem dX7_readCut_2 : decode cX7_readCut 2 = .ok (.aload_n 1, 1) := by decide +kernel
theorem dX7_readCut_3 : decode cX7_readCut 3 = .ok (.getfield 63, 3) := by decide +kernel
theorem dX7_readCut_6 : decode cX7_readCut 6 = .ok (.iconst 1, 1) := by decide +kernel
theorem dX7_readCut_7 : decode cX7_readCut 7 = .ok (.isub, 1) := by decide +kernel
theorem dX7_readCut_8 : decode cX7_readCut 8 = .ok (.invokevirtual 60, 3) := by decide +kernel
theorem dX7_readCut_11 : decode cX7_readCut 11 = .ok (.istore_n 2, 1) := by decide +kernel
theorem dX7_readCut_12 : decode cX7_readCut 12 = .ok (.aload_n 0, 1) := by decide +kernel
theorem dX7_readCut_13 : decode cX7_readCut 13 = .ok (.iconst 0, 1) := by decide +kernel
theorem dX7_readCut_14 : decode cX7_readCut 14 = .ok (.aload_n 1, 1) := by decide +kernel
theorem dX7_readCut_15 : decode cX7_readCut 15 = .ok (.getfield 63, 3) := by decide +kernel
theorem dX7_readCut_18 : decode cX7_readCut 18 = .ok (.iconst 1, 1) := by decide +kernel
theorem dX7_readCut_19 : decode cX7_readCut 19 = .ok (.isub, 1) := by decide +kernel
theorem dX7_readCut_20 : decode cX7_readCut 20 = .ok (.invokevirtual 60, 3) := by decide +kernel
theorem dX7_readCut_23 : decode cX7_readCut 23 = .ok (.istore_n 3, 1) := by decide +kernel
theorem dX7_readCut_24 : decode cX7_readCut 24 = .ok (.iload_n 2, 1) := by decide +kernel
theorem dX7_readCut_25 : decode cX7_readCut 25 = .ok (.iload_n 3, 1) := by decide +kernel
theorem dX7_readCut_26 : decode cX7_readCut 26 = .ok (.if_icmp .eq 12, 3) := by decide +kernel
theorem dX7_readCut_29 : decode cX7_readCut 29 = .ok (.aload_n 1, 1) := by decide +kernel
theorem dX7_readCut_30 : decode cX7_readCut 30 = .ok (.iload_n 2, 1) := by decide +kernel
theorem dX7_readCut_31 : decode cX7_readCut 31 = .ok (.iload_n 3, 1) := by decide +kernel
theorem dX7_readCut_32 : decode cX7_readCut 32 = .ok (.invokevirtual 89, 3) := by decide +kernel
theorem dX7_readCut_35 : decode cX7_readCut 35 = .ok (.ifCond .eq 12, 3) := by decide +kernel
theorem dX7_readCut_38 : decode cX7_readCut 38 = .ok (.aload_n 0, 1) := by decide +kernel
theorem dX7_readCut_39 : decode cX7_readCut 39 = .ok (.iconst 4, 1) := by decide +kernel
theorem dX7_readCut_40 : decode cX7_readCut 40 = .ok (.aload_n 0, 1) := by decide +kernel
theorem dX7_readCut_41 : decode cX7_readCut 41 = .ok (.getfield 22, 3) := by decide +kernel
theorem dX7_readCut_44 : decode cX7_readCut 44 = .ok (.invokevirtual 73, 3) := by decide +kernel
theorem dX7_readCut_47 : decode cX7_readCut 47 = .ok (.aload_n 0, 1) := by decide +kernel
theorem dX7_readCut_48 : decode cX7_readCut 48 = .ok (.iconst 0, 1) := by decide +kernel
theorem dX7_readCut_49 : decode cX7_readCut 49 = .ok (.bipush 99, 2) := by decide +kernel
theorem dX7_readCut_51 : decode cX7_readCut 51 = .ok (.invokevirtual 60, 3) := by decide +kernel
theorem dX7_readCut_54 : decode cX7_readCut 54 = .ok (.istore 4, 2) := by decide +kernel
theorem dX7_readCut_56 : decode cX7_readCut 56 = .ok (.aload_n 0, 1) := by decide +kernel
theorem dX7_readCut_57 : decode cX7_readCut 57 = .ok (.bipush 59, 2) := by decide +kernel
theorem dX7_readCut_59 : decode cX7_readCut 59 = .ok (.invokevirtual 56, 3) := by decide +kernel
theorem dX7_readCut_62 : decode cX7_readCut 62 = .ok (.aload_n 0, 1) := by decide +kernel
theorem dX7_readCut_63 : decode cX7_readCut 63 = .ok (.getfield 25, 3) := by decide +kernel
theorem dX7_readCut_66 : decode cX7_readCut 66 = .ok (.ifCond .ne 11, 3) := by decide +kernel
theorem dX7_readCut_69 : decode cX7_readCut 69 = .ok (.aload_n 1, 1) := by decide +kernel
theorem dX7_readCut_70 : decode cX7_readCut 70 = .ok (.iload_n 2, 1) := by decide +kernel
theorem dX7_readCut_71 : decode cX7_readCut 71 = .ok (.iload_n 3, 1) := by decide +kernel
theorem dX7_readCut_72 : decode cX7_readCut 72 = .ok (.iload 4, 2) := by decide +kernel
theorem dX7_readCut_74 : decode cX7_readCut 74 = .ok (.invokevirtual 93, 3) := by decide +kernel
theorem dX7_readCut_77 : decode cX7_readCut 77 = .ok (.return_, 1) := by decide +kernel
theorem dX7_readBoat_0 : decode cX7_readBoat 0 = .ok (.aload_n 0, 1) := by decide +kernel
theorem dX7_readBoat_1 : decode cX7_readBoat 1 = .ok (.iconst 0, 1) := by decide +kernel
theorem dX7_readBoat_2 : decode cX7_readBoat 2 = .ok (.aload_n 1, 1) := by decide +kernel
theorem dX7_readBoat_3 : decode cX7_readBoat 3 = .ok (.getfield 63, 3) := by decide +kernel
theorem dX7_readBoat_6 : decode cX7_readBoat 6 = .ok (.iconst 1, 1) := by decide +kernel
theorem dX7_readBoat_7 : decode cX7_readBoat 7 = .ok (.isub, 1) := by decide +kernel
theorem dX7_readBoat_8 : decode cX7_readBoat 8 = .ok (.invokevirtual 60, 3) := by decide +kernel
theorem dX7_readBoat_11 : decode cX7_readBoat 11 = .ok (.istore_n 2, 1) := by decide +kernel
theorem dX7_readBoat_12 : decode cX7_readBoat 12 = .ok (.aload_n 0, 1) := by decide +kernel
theorem dX7_readBoat_13 : decode cX7_readBoat 13 = .ok (.iconst 0, 1) := by decide +kernel
theorem dX7_readBoat_14 : decode cX7_readBoat 14 = .ok (.sipush 999, 3) := by decide +kernel
theorem dX7_readBoat_17 : decode cX7_readBoat 17 = .ok (.invokevirtual 60, 3) := by decide +kernel
theorem dX7_readBoat_20 : decode cX7_readBoat 20 = .ok (.istore_n 3, 1) := by decide +kernel
theorem dX7_readBoat_21 : decode cX7_readBoat 21 = .ok (.aload_n 0, 1) := by decide +kernel
theorem dX7_readBoat_22 : decode cX7_readBoat 22 = .ok (.iconst 0, 1) := by decide +kernel
theorem dX7_readBoat_23 : decode cX7_readBoat 23 = .ok (.bipush 99, 2) := by decide +kernel
theorem dX7_readBoat_25 : decode cX7_readBoat 25 = .ok (.invokevirtual 60, 3) := by decide +kernel
theorem dX7_readBoat_28 : decode cX7_readBoat 28 = .ok (.istore 4, 2) := by decide +kernel
theorem dX7_readBoat_30 : decode cX7_readBoat 30 = .ok (.aload_n 0, 1) := by decide +kernel
theorem dX7_readBoat_31 : decode cX7_readBoat 31 = .ok (.bipush 59, 2) := by decide +kernel
theorem dX7_readBoat_33 : decode cX7_readBoat 33 = .ok (.invokevirtual 56, 3) := by decide +kernel
theorem dX7_readBoat_36 : decode cX7_readBoat 36 = .ok (.aload_n 0, 1) := by decide +kernel
theorem dX7_readBoat_37 : decode cX7_readBoat 37 = .ok (.getfield 25, 3) := by decide +kernel
theorem dX7_readBoat_40 : decode cX7_readBoat 40 = .ok (.ifCond .ne 11, 3) := by decide +kernel
theorem dX7_readBoat_43 : decode cX7_readBoat 43 = .ok (.aload_n 1, 1) := by decide +kernel
theorem dX7_readBoat_44 : decode cX7_readBoat 44 = .ok (.iload_n 2, 1) := by decide +kernel
theorem dX7_readBoat_45 : decode cX7_readBoat 45 = .ok (.iload_n 3, 1) := by decide +kernel
theorem dX7_readBoat_46 : decode cX7_readBoat 46 = .ok (.iload 4, 2) := by decide +kernel
theorem dX7_readBoat_48 : decode cX7_readBoat 48 = .ok (.invokevirtual 97, 3) := by decide +kernel
theorem dX7_readBoat_51 : decode cX7_readBoat 51 = .ok (.return_, 1) := by decide +kernel
theorem dX7_readSign_0 : decode cX7_readSign 0 = .ok (.aload_n 0, 1) := by decide +kernel
theorem dX7_readSign_1 : decode cX7_readSign 1 = .ok (.getfield 25, 3) := by decide +kernel
theorem dX7_readSign_4 : decode cX7_readSign 4 = .ok (.ifCond .eq 4, 3) := by decide +kernel
theorem dX7_readSign_7 : decode cX7_readSign 7 = .ok (.return_, 1) := by decide +kernel
theorem dX7_readSign_8 : decode cX7_readSign 8 = .ok (.aload_n 0, 1) := by decide +kernel
theorem dX7_readSign_9 : decode cX7_readSign 9 = .ok (.invokevirtual 66, 3) := by decide +kernel
theorem dX7_readSign_12 : decode cX7_readSign 12 = .ok (.aload_n 0, 1) := by decide +kernel
theorem dX7_readSign_13 : decode cX7_readSign 13 = .ok (.invokevirtual 69, 3) := by decide +kernel
theorem dX7_readSign_16 : decode cX7_readSign 16 = .ok (.iload_n 1, 1) := by decide +kernel
theorem dX7_readSign_17 : decode cX7_readSign 17 = .ok (.if_icmp .eq 12, 3) := by decide +kernel
theorem dX7_readSign_20 : decode cX7_readSign 20 = .ok (.aload_n 0, 1) := by decide +kernel
theorem dX7_readSign_21 : decode cX7_readSign 21 = .ok (.iconst 1, 1) := by decide +kernel
theorem dX7_readSign_22 : decode cX7_readSign 22 = .ok (.aload_n 0, 1) := by decide +kernel
theorem dX7_readSign_23 : decode cX7_readSign 23 = .ok (.getfield 19, 3) := by decide +kernel
theorem dX7_readSign_26 : decode cX7_readSign 26 = .ok (.invokevirtual 73, 3) := by decide +kernel
theorem dX7_readSign_29 : decode cX7_readSign 29 = .ok (.aload_n 0, 1) := by decide +kernel
theorem dX7_readSign_30 : decode cX7_readSign 30 = .ok (.dup, 1) := by decide +kernel
theorem dX7_readSign_31 : decode cX7_readSign 31 = .ok (.getfield 19, 3) := by decide +kernel
theorem dX7_readSign_34 : decode cX7_readSign 34 = .ok (.iconst 1, 1) := by decide +kernel
theorem dX7_readSign_35 : decode cX7_readSign 35 = .ok (.iadd, 1) := by decide +kernel
theorem dX7_readSign_36 : decode cX7_readSign 36 = .ok (.putfield 19, 3) := by decide +kernel
theorem dX7_readSign_39 : decode cX7_readSign 39 = .ok (.return_, 1) := by decide +kernel
theorem dX7_readNumber_0 : decode cX7_readNumber 0 = .ok (.aload_n 0, 1) := by decide +kernel
theorem dX7_readNumber_1 : decode cX7_readNumber 1 = .ok (.getfield 25, 3) := by decide +kernel
theorem dX7_readNumber_4 : decode cX7_readNumber 4 = .ok (.ifCond .eq 5, 3) := by decide +kernel
theorem dX7_readNumber_7 : decode cX7_readNumber 7 = .ok (.iconst 0, 1) := by decide +kernel
theorem dX7_readNumber_8 : decode cX7_readNumber 8 = .ok (.ireturn, 1) := by decide +kernel
theorem dX7_readNumber_9 : decode cX7_readNumber 9 = .ok (.aload_n 0, 1) := by decide +kernel
theorem dX7_readNumber_10 : decode cX7_readNumber 10 = .ok (.invokevirtual 66, 3) := by decide +kernel
theorem dX7_readNumber_13 : decode cX7_readNumber 13 = .ok (.aload_n 0, 1) := by decide +kernel
theorem dX7_readNumber_14 : decode cX7_readNumber 14 = .ok (.aload_n 0, 1) := by decide +kernel
theorem dX7_readNumber_15 : decode cX7_readNumber 15 = .ok (.getfield 19, 3) := by decide +kernel
theorem dX7_readNumber_18 : decode cX7_readNumber 18 = .ok (.putfield 22, 3) := by decide +kernel
theorem dX7_readNumber_21 : decode cX7_readNumber 21 = .ok (.iconst 0, 1) := by decide +kernel
theorem dX7_readNumber_22 : decode cX7_readNumber 22 = .ok (.istore_n 3, 1) := by decide +kernel
theorem dX7_readNumber_23 : decode cX7_readNumber 23 = .ok (.aload_n 0, 1) := by decide +kernel
theorem dX7_readNumber_24 : decode cX7_readNumber 24 = .ok (.getfield 19, 3) := by decide +kernel
theorem dX7_readNumber_27 : decode cX7_readNumber 27 = .ok (.aload_n 0, 1) := by decide +kernel
theorem dX7_readNumber_28 : decode cX7_readNumber 28 = .ok (.getfield 15, 3) := by decide +kernel
theorem dX7_readNumber_31 : decode cX7_readNumber 31 = .ok (.if_icmp .ge 52, 3) := by decide +kernel
theorem dX7_readNumber_34 : decode cX7_readNumber 34 = .ok (.aload_n 0, 1) := by decide +kernel
theorem dX7_readNumber_35 : decode cX7_readNumber 35 = .ok (.invokevirtual 69, 3) := by decide +kernel
theorem dX7_readNumber_38 : decode cX7_readNumber 38 = .ok (.invokestatic 100, 3) := by decide +kernel
theorem dX7_readNumber_41 : decode cX7_readNumber 41 = .ok (.ifCond .eq 42, 3) := by decide +kernel
theorem dX7_readNumber_44 : decode cX7_readNumber 44 = .ok (.aload_n 0, 1) := by decide +kernel
theorem dX7_readNumber_45 : decode cX7_readNumber 45 = .ok (.getfield 19, 3) := by decide +kernel
theorem dX7_readNumber_48 : decode cX7_readNumber 48 = .ok (.aload_n 0, 1) := by decide +kernel
theorem dX7_readNumber_49 : decode cX7_readNumber 49 = .ok (.getfield 22, 3) := by decide +kernel
theorem dX7_readNumber_52 : decode cX7_readNumber 52 = .ok (.isub, 1) := by decide +kernel
theorem dX7_readNumber_53 : decode cX7_readNumber 53 = .ok (.iconst 3, 1) := by decide +kernel
theorem dX7_readNumber_54 : decode cX7_readNumber 54 = .ok (.if_icmp .ge 16, 3) := by decide +kernel
theorem dX7_readNumber_57 : decode cX7_readNumber 57 = .ok (.iload_n 3, 1) := by decide +kernel
theorem dX7_readNumber_58 : decode cX7_readNumber 58 = .ok (.bipush 10, 2) := by decide +kernel
theorem dX7_readNumber_60 : decode cX7_readNumber 60 = .ok (.imul, 1) := by decide +kernel
theorem dX7_readNumber_61 : decode cX7_readNumber 61 = .ok (.aload_n 0, 1) := by decide +kernel
theorem dX7_readNumber_62 : decode cX7_readNumber 62 = .ok (.invokevirtual 69, 3) := by decide +kernel
theorem dX7_readNumber_65 : decode cX7_readNumber 65 = .ok (.iadd, 1) := by decide +kernel
theorem dX7_readNumber_66 : decode cX7_readNumber 66 = .ok (.bipush 48, 2) := by decide +kernel
theorem dX7_readNumber_68 : decode cX7_readNumber 68 = .ok (.isub, 1) := by decide +kernel
theorem dX7_readNumber_69 : decode cX7_readNumber 69 = .ok (.istore_n 3, 1) := by decide +kernel
theorem dX7_readNumber_70 : decode cX7_readNumber 70 = .ok (.aload_n 0, 1) := by decide +kernel
theorem dX7_readNumber_71 : decode cX7_readNumber 71 = .ok (.dup, 1) := by decide +kernel
theorem dX7_readNumber_72 : decode cX7_readNumber 72 = .ok (.getfield 19, 3) := by decide +kernel
theorem dX7_readNumber_75 : decode cX7_readNumber 75 = .ok (.iconst 1, 1) := by decide +kernel
theorem dX7_readNumber_76 : decode cX7_readNumber 76 = .ok (.iadd, 1) := by decide +kernel
theorem dX7_readNumber_77 : decode cX7_readNumber 77 = .ok (.putfield 19, 3) := by decide +kernel
theorem dX7_readNumber_80 : decode cX7_readNumber 80 = .ok (.goto (-57), 3) := by decide +kernel
theorem dX7_readNumber_83 : decode cX7_readNumber 83 = .ok (.aload_n 0, 1) := by decide +kernel
theorem dX7_readNumber_84 : decode cX7_readNumber 84 = .ok (.getfield 19, 3) := by decide +kernel
theorem dX7_readNumber_87 : decode cX7_readNumber 87 = .ok (.aload_n 0, 1) := by decide +kernel
theorem dX7_readNumber_88 : decode cX7_readNumber 88 = .ok (.getfield 22, 3) := by decide +kernel
theorem dX7_readNumber_91 : decode cX7_readNumber 91 = .ok (.if_icmp .ne 15, 3) := by decide +kernel
theorem dX7_readNumber_94 : decode cX7_readNumber 94 = .ok (.aload_n 0, 1) := by decide +kernel
theorem dX7_readNumber_95 : decode cX7_readNumber 95 = .ok (.iconst 1, 1) := by decide +kernel
theorem dX7_readNumber_96 : decode cX7_readNumber 96 = .ok (.aload_n 0, 1) := by decide +kernel
theorem dX7_readNumber_97 : decode cX7_readNumber 97 = .ok (.getfield 22, 3) := by decide +kernel
theorem dX7_readNumber_100 : decode cX7_readNumber 100 = .ok (.invokevirtual 73, 3) := by decide +kernel
theorem dX7_readNumber_103 : decode cX7_readNumber 103 = .ok (.goto 35, 3) := by decide +kernel
theorem dX7_readNumber_106 : decode cX7_readNumber 106 = .ok (.aload_n 0, 1) := by decide +kernel
theorem dX7_readNumber_107 : decode cX7_readNumber 107 = .ok (.getfield 19, 3) := by decide +kernel
theorem dX7_readNumber_110 : decode cX7_readNumber 110 = .ok (.aload_n 0, 1) := by decide +kernel
theorem dX7_readNumber_111 : decode cX7_readNumber 111 = .ok (.getfield 22, 3) := by decide +kernel
theorem dX7_readNumber_114 : decode cX7_readNumber 114 = .ok (.isub, 1) := by decide +kernel
theorem dX7_readNumber_115 : decode cX7_readNumber 115 = .ok (.iconst 3, 1) := by decide +kernel
theorem dX7_readNumber_116 : decode cX7_readNumber 116 = .ok (.if_icmp .gt 13, 3) := by decide +kernel
theorem dX7_readNumber_119 : decode cX7_readNumber 119 = .ok (.iload_n 3, 1) := by decide +kernel
theorem dX7_readNumber_120 : decode cX7_readNumber 120 = .ok (.iload_n 1, 1) := by decide +kernel
theorem dX7_readNumber_121 : decode cX7_readNumber 121 = .ok (.if_icmp .lt 8, 3) := by decide +kernel
theorem dX7_readNumber_124 : decode cX7_readNumber 124 = .ok (.iload_n 3, 1) := by decide +kernel
theorem dX7_readNumber_125 : decode cX7_readNumber 125 = .ok (.iload_n 2, 1) := by decide +kernel
theorem dX7_readNumber_126 : decode cX7_readNumber 126 = .ok (.if_icmp .le 12, 3) := by decide +kernel
theorem dX7_readNumber_129 : decode cX7_readNumber 129 = .ok (.aload_n 0, 1) := by decide +kernel
theorem dX7_readNumber_130 : decode cX7_readNumber 130 = .ok (.iconst 2, 1) := by decide +kernel
theorem dX7_readNumber_131 : decode cX7_readNumber 131 = .ok (.aload_n 0, 1) := by decide +kernel
theorem dX7_readNumber_132 : decode cX7_readNumber 132 = .ok (.getfield 22, 3) := by decide +kernel
theorem dX7_readNumber_135 : decode cX7_readNumber 135 = .ok (.invokevirtual 73, 3) := by decide +kernel
theorem dX7_readNumber_138 : decode cX7_readNumber 138 = .ok (.iload_n 3, 1) := by decide +kernel
theorem dX7_readNumber_139 : decode cX7_readNumber 139 = .ok (.ireturn, 1) := by decide +kernel
theorem dX7_skipBlanks_0 : decode cX7_skipBlanks 0 = .ok (.aload_n 0, 1) := by decide +kernel
theorem dX7_skipBlanks_1 : decode cX7_skipBlanks 1 = .ok (.getfield 19, 3) := by decide +kernel
theorem dX7_skipBlanks_4 : decode cX7_skipBlanks 4 = .ok (.aload_n 0, 1) := by decide +kernel
theorem dX7_skipBlanks_5 : decode cX7_skipBlanks 5 = .ok (.getfield 15, 3) := by decide +kernel
theorem dX7_skipBlanks_8 : decode cX7_skipBlanks 8 = .ok (.if_icmp .ge 25, 3) := by decide +kernel
theorem dX7_skipBlanks_11 : decode cX7_skipBlanks 11 = .ok (.aload_n 0, 1) := by decide +kernel
theorem dX7_skipBlanks_12 : decode cX7_skipBlanks 12 = .ok (.invokevirtual 69, 3) := by decide +kernel
theorem dX7_skipBlanks_15 : decode cX7_skipBlanks 15 = .ok (.bipush 32, 2) := by decide +kernel
theorem dX7_skipBlanks_17 : decode cX7_skipBlanks 17 = .ok (.if_icmp .ne 16, 3) := by decide +kernel
theorem dX7_skipBlanks_20 : decode cX7_skipBlanks 20 = .ok (.aload_n 0, 1) := by decide +kernel
theorem dX7_skipBlanks_21 : decode cX7_skipBlanks 21 = .ok (.dup, 1) := by decide +kernel
theorem dX7_skipBlanks_22 : decode cX7_skipBlanks 22 = .ok (.getfield 19, 3) := by decide +kernel
theorem dX7_skipBlanks_25 : decode cX7_skipBlanks 25 = .ok (.iconst 1, 1) := by decide +kernel
theorem dX7_skipBlanks_26 : decode cX7_skipBlanks 26 = .ok (.iadd, 1) := by decide +kernel
theorem dX7_skipBlanks_27 : decode cX7_skipBlanks 27 = .ok (.putfield 19, 3) := by decide +kernel
theorem dX7_skipBlanks_30 : decode cX7_skipBlanks 30 = .ok (.goto (-30), 3) := by decide +kernel
theorem dX7_skipBlanks_33 : decode cX7_skipBlanks 33 = .ok (.return_, 1) := by decide +kernel
theorem dX7_letterHere_0 : decode cX7_letterHere 0 = .ok (.aload_n 0, 1) := by decide +kernel
theorem dX7_letterHere_1 : decode cX7_letterHere 1 = .ok (.getfield 19, 3) := by decide +kernel
theorem dX7_letterHere_4 : decode cX7_letterHere 4 = .ok (.ifCond .lt 38, 3) := by decide +kernel
theorem dX7_letterHere_7 : decode cX7_letterHere 7 = .ok (.aload_n 0, 1) := by decide +kernel
theorem dX7_letterHere_8 : decode cX7_letterHere 8 = .ok (.getfield 19, 3) := by decide +kernel
theorem dX7_letterHere_11 : decode cX7_letterHere 11 = .ok (.aload_n 0, 1) := by decide +kernel
theorem dX7_letterHere_12 : decode cX7_letterHere 12 = .ok (.getfield 15, 3) := by decide +kernel
theorem dX7_letterHere_15 : decode cX7_letterHere 15 = .ok (.if_icmp .ge 27, 3) := by decide +kernel
theorem dX7_letterHere_18 : decode cX7_letterHere 18 = .ok (.aload_n 0, 1) := by decide +kernel
theorem dX7_letterHere_19 : decode cX7_letterHere 19 = .ok (.getfield 19, 3) := by decide +kernel
theorem dX7_letterHere_22 : decode cX7_letterHere 22 = .ok (.aload_n 0, 1) := by decide +kernel
theorem dX7_letterHere_23 : decode cX7_letterHere 23 = .ok (.getfield 9, 3) := by decide +kernel
theorem dX7_letterHere_26 : decode cX7_letterHere 26 = .ok (.arraylength, 1) := by decide +kernel
theorem dX7_letterHere_27 : decode cX7_letterHere 27 = .ok (.if_icmp .ge 15, 3) := by decide +kernel
theorem dX7_letterHere_30 : decode cX7_letterHere 30 = .ok (.aload_n 0, 1) := by decide +kernel
theorem dX7_letterHere_31 : decode cX7_letterHere 31 = .ok (.getfield 9, 3) := by decide +kernel
theorem dX7_letterHere_34 : decode cX7_letterHere 34 = .ok (.aload_n 0, 1) := by decide +kernel
theorem dX7_letterHere_35 : decode cX7_letterHere 35 = .ok (.getfield 19, 3) := by decide +kernel
theorem dX7_letterHere_38 : decode cX7_letterHere 38 = .ok (.iaload, 1) := by decide +kernel
theorem dX7_letterHere_39 : decode cX7_letterHere 39 = .ok (.goto 4, 3) := by decide +kernel
theorem dX7_letterHere_42 : decode cX7_letterHere 42 = .ok (.iconst (-1), 1) := by decide +kernel
theorem dX7_letterHere_43 : decode cX7_letterHere 43 = .ok (.ireturn, 1) := by decide +kernel
theorem dX7_isFigure_0 : decode cX7_isFigure 0 = .ok (.iload_n 0, 1) := by decide +kernel
theorem dX7_isFigure_1 : decode cX7_isFigure 1 = .ok (.bipush 48, 2) := by decide +kernel
theorem dX7_isFigure_3 : decode cX7_isFigure 3 = .ok (.if_icmp .lt 13, 3) := by decide +kernel
theorem dX7_isFigure_6 : decode cX7_isFigure 6 = .ok (.iload_n 0, 1) := by decide +kernel
theorem dX7_isFigure_7 : decode cX7_isFigure 7 = .ok (.bipush 57, 2) := by decide +kernel
theorem dX7_isFigure_9 : decode cX7_isFigure 9 = .ok (.if_icmp .gt 7, 3) := by decide +kernel
theorem dX7_isFigure_12 : decode cX7_isFigure 12 = .ok (.iconst 1, 1) := by decide +kernel
theorem dX7_isFigure_13 : decode cX7_isFigure 13 = .ok (.goto 4, 3) := by decide +kernel
theorem dX7_isFigure_16 : decode cX7_isFigure 16 = .ok (.iconst 0, 1) := by decide +kernel
theorem dX7_isFigure_17 : decode cX7_isFigure 17 = .ok (.ireturn, 1) := by decide +kernel
theorem dX7_note_0 : decode cX7_note 0 = .ok (.aload_n 0, 1) := by decide +kernel
theorem dX7_note_1 : decode cX7_note 1 = .ok (.getfield 25, 3) := by decide +kernel
theorem dX7_note_4 : decode cX7_note 4 = .ok (.ifCond .eq 4, 3) := by decide +kernel
theorem dX7_note_7 : decode cX7_note 7 = .ok (.return_, 1) := by decide +kernel
theorem dX7_note_8 : decode cX7_note 8 = .ok (.aload_n 0, 1) := by decide +kernel
theorem dX7_note_9 : decode cX7_note 9 = .ok (.iload_n 1, 1) := by decide +kernel
theorem dX7_note_10 : decode cX7_note 10 = .ok (.putfield 25, 3) := by decide +kernel
theorem dX7_note_13 : decode cX7_note 13 = .ok (.aload_n 0, 1) := by decide +kernel
theorem dX7_note_14 : decode cX7_note 14 = .ok (.iload_n 2, 1) := by decide +kernel
theorem dX7_note_15 : decode cX7_note 15 = .ok (.putfield 28, 3) := by decide +kernel
theorem dX7_note_18 : decode cX7_note 18 = .ok (.return_, 1) := by decide +kernel
theorem dX8_init_0 : decode cX8_init 0 = .ok (.aload_n 0, 1) := by decide +kernel
theorem dX8_init_1 : decode cX8_init 1 = .ok (.invokespecial 1, 3) := by decide +kernel
theorem dX8_init_4 : decode cX8_init 4 = .ok (.aload_n 0, 1) := by decide +kernel
theorem dX8_init_5 : decode cX8_init 5 = .ok (.iconst 0, 1) := by decide +kernel
theorem dX8_init_6 : decode cX8_init 6 = .ok (.iload_n 1, 1) := by decide +kernel
theorem dX8_init_7 : decode cX8_init 7 = .ok (.invokestatic 7, 3) := by decide +kernel
theorem dX8_init_10 : decode cX8_init 10 = .ok (.putfield 13, 3) := by decide +kernel
theorem dX8_init_13 : decode cX8_init 13 = .ok (.aload_n 0, 1) := by decide +kernel
theorem dX8_init_14 : decode cX8_init 14 = .ok (.aload_n 0, 1) := by decide +kernel
theorem dX8_init_15 : decode cX8_init 15 = .ok (.getfield 13, 3) := by decide +kernel
theorem dX8_init_18 : decode cX8_init 18 = .ok (.bipush 21, 2) := by decide +kernel
theorem dX8_init_20 : decode cX8_init 20 = .ok (.imul, 1) := by decide +kernel
theorem dX8_init_21 : decode cX8_init 21 = .ok (.newarray .int, 2) := by decide +kernel
theorem dX8_init_23 : decode cX8_init 23 = .ok (.putfield 21, 3) := by decide +kernel
theorem dX8_init_26 : decode cX8_init 26 = .ok (.return_, 1) := by decide +kernel
theorem dX8_store_0 : decode cX8_store 0 = .ok (.iload_n 1, 1) := by decide +kernel
theorem dX8_store_1 : decode cX8_store 1 = .ok (.ifCond .lt 29, 3) := by decide +kernel
theorem dX8_store_4 : decode cX8_store 4 = .ok (.iload_n 1, 1) := by decide +kernel
theorem dX8_store_5 : decode cX8_store 5 = .ok (.aload_n 0, 1) := by decide +kernel
theorem dX8_store_6 : decode cX8_store 6 = .ok (.getfield 13, 3) := by decide +kernel
theorem dX8_store_9 : decode cX8_store 9 = .ok (.if_icmp .ge 21, 3) := by decide +kernel
theorem dX8_store_12 : decode cX8_store 12 = .ok (.aload_n 2, 1) := by decide +kernel
theorem dX8_store_13 : decode cX8_store 13 = .ok (.getfield 25, 3) := by decide +kernel
theorem dX8_store_16 : decode cX8_store 16 = .ok (.iconst 0, 1) := by decide +kernel
theorem dX8_store_17 : decode cX8_store 17 = .ok (.aload_n 0, 1) := by decide +kernel
theorem dX8_store_18 : decode cX8_store 18 = .ok (.getfield 21, 3) := by decide +kernel
theorem dX8_store_21 : decode cX8_store 21 = .ok (.iload_n 1, 1) := by decide +kernel
theorem dX8_store_22 : decode cX8_store 22 = .ok (.bipush 21, 2) := by decide +kernel
theorem dX8_store_24 : decode cX8_store 24 = .ok (.imul, 1) := by decide +kernel
theorem dX8_store_25 : decode cX8_store 25 = .ok (.bipush 21, 2) := by decide +kernel
theorem dX8_store_27 : decode cX8_store 27 = .ok (.invokestatic 28, 3) := by decide +kernel
theorem dX8_store_30 : decode cX8_store 30 = .ok (.return_, 1) := by decide +kernel
theorem dX8_fetch_0 : decode cX8_fetch 0 = .ok (.iload_n 1, 1) := by decide +kernel
theorem dX8_fetch_1 : decode cX8_fetch 1 = .ok (.ifCond .lt 29, 3) := by decide +kernel
theorem dX8_fetch_4 : decode cX8_fetch 4 = .ok (.iload_n 1, 1) := by decide +kernel
theorem dX8_fetch_5 : decode cX8_fetch 5 = .ok (.aload_n 0, 1) := by decide +kernel
theorem dX8_fetch_6 : decode cX8_fetch 6 = .ok (.getfield 13, 3) := by decide +kernel
theorem dX8_fetch_9 : decode cX8_fetch 9 = .ok (.if_icmp .ge 21, 3) := by decide +kernel
theorem dX8_fetch_12 : decode cX8_fetch 12 = .ok (.aload_n 0, 1) := by decide +kernel
theorem dX8_fetch_13 : decode cX8_fetch 13 = .ok (.getfield 21, 3) := by decide +kernel
theorem dX8_fetch_16 : decode cX8_fetch 16 = .ok (.iload_n 1, 1) := by decide +kernel
theorem dX8_fetch_17 : decode cX8_fetch 17 = .ok (.bipush 21, 2) := by decide +kernel
theorem dX8_fetch_19 : decode cX8_fetch 19 = .ok (.imul, 1) := by decide +kernel
theorem dX8_fetch_20 : decode cX8_fetch 20 = .ok (.aload_n 2, 1) := by decide +kernel
theorem dX8_fetch_21 : decode cX8_fetch 21 = .ok (.getfield 25, 3) := by decide +kernel
theorem dX8_fetch_24 : decode cX8_fetch 24 = .ok (.iconst 0, 1) := by decide +kernel
theorem dX8_fetch_25 : decode cX8_fetch 25 = .ok (.bipush 21, 2) := by decide +kernel
theorem dX8_fetch_27 : decode cX8_fetch 27 = .ok (.invokestatic 28, 3) := by decide +kernel
theorem dX8_fetch_30 : decode cX8_fetch 30 = .ok (.return_, 1) := by decide +kernel
theorem dX9_init_0 : decode cX9_init 0 = .ok (.aload_n 0, 1) := by decide +kernel
theorem dX9_init_1 : decode cX9_init 1 = .ok (.invokespecial 3, 3) := by decide +kernel
theorem dX9_init_4 : decode cX9_init 4 = .ok (.aload_n 0, 1) := by decide +kernel
theorem dX9_init_5 : decode cX9_init 5 = .ok (.iconst 0, 1) := by decide +kernel
theorem dX9_init_6 : decode cX9_init 6 = .ok (.putfield 9, 3) := by decide +kernel
theorem dX9_init_9 : decode cX9_init 9 = .ok (.aload_n 0, 1) := by decide +kernel
theorem dX9_init_10 : decode cX9_init 10 = .ok (.iconst 0, 1) := by decide +kernel
theorem dX9_init_11 : decode cX9_init 11 = .ok (.putfield 15, 3) := by decide +kernel
theorem dX9_init_14 : decode cX9_init 14 = .ok (.aload_n 0, 1) := by decide +kernel
theorem dX9_init_15 : decode cX9_init 15 = .ok (.iconst 0, 1) := by decide +kernel
theorem dX9_init_16 : decode cX9_init 16 = .ok (.putfield 18, 3) := by decide +kernel
theorem dX9_init_19 : decode cX9_init 19 = .ok (.aload_n 0, 1) := by decide +kernel
theorem dX9_init_20 : decode cX9_init 20 = .ok (.bipush 14, 2) := by decide +kernel
theorem dX9_init_22 : decode cX9_init 22 = .ok (.newarray .int, 2) := by decide +kernel
theorem dX9_init_24 : decode cX9_init 24 = .ok (.putfield 21, 3) := by decide +kernel
theorem dX9_init_27 : decode cX9_init 27 = .ok (.aload_n 0, 1) := by decide +kernel
theorem dX9_init_28 : decode cX9_init 28 = .ok (.bipush 14, 2) := by decide +kernel
theorem dX9_init_30 : decode cX9_init 30 = .ok (.newarray .int, 2) := by decide +kernel
theorem dX9_init_32 : decode cX9_init 32 = .ok (.putfield 25, 3) := by decide +kernel
theorem dX9_init_35 : decode cX9_init 35 = .ok (.aload_n 0, 1) := by decide +kernel
theorem dX9_init_36 : decode cX9_init 36 = .ok (.bipush 14, 2) := by decide +kernel
theorem dX9_init_38 : decode cX9_init 38 = .ok (.newarray .int, 2) := by decide +kernel
theorem dX9_init_40 : decode cX9_init 40 = .ok (.putfield 28, 3) := by decide +kernel
theorem dX9_init_43 : decode cX9_init 43 = .ok (.aload_n 0, 1) := by decide +kernel
theorem dX9_init_44 : decode cX9_init 44 = .ok (.iconst 5, 1) := by decide +kernel
theorem dX9_init_45 : decode cX9_init 45 = .ok (.newarray .int, 2) := by decide +kernel
theorem dX9_init_47 : decode cX9_init 47 = .ok (.putfield 31, 3) := by decide +kernel
theorem dX9_init_50 : decode cX9_init 50 = .ok (.aload_n 0, 1) := by decide +kernel
theorem dX9_init_51 : decode cX9_init 51 = .ok (.iconst 5, 1) := by decide +kernel
theorem dX9_init_52 : decode cX9_init 52 = .ok (.newarray .int, 2) := by decide +kernel
theorem dX9_init_54 : decode cX9_init 54 = .ok (.putfield 34, 3) := by decide +kernel
theorem dX9_init_57 : decode cX9_init 57 = .ok (.aload_n 0, 1) := by decide +kernel
theorem dX9_init_58 : decode cX9_init 58 = .ok (.iconst 5, 1) := by decide +kernel
theorem dX9_init_59 : decode cX9_init 59 = .ok (.newarray .int, 2) := by decide +kernel
theorem dX9_init_61 : decode cX9_init 61 = .ok (.putfield 37, 3) := by decide +kernel
theorem dX9_init_64 : decode cX9_init 64 = .ok (.aload_n 0, 1) := by decide +kernel
theorem dX9_init_65 : decode cX9_init 65 = .ok (.bipush 90, 2) := by decide +kernel
theorem dX9_init_67 : decode cX9_init 67 = .ok (.newarray .int, 2) := by decide +kernel
theorem dX9_init_69 : decode cX9_init 69 = .ok (.putfield 40, 3) := by decide +kernel
theorem dX9_init_72 : decode cX9_init 72 = .ok (.aload_n 0, 1) := by decide +kernel
theorem dX9_init_73 : decode cX9_init 73 = .ok (.bipush 90, 2) := by decide +kernel
theorem dX9_init_75 : decode cX9_init 75 = .ok (.newarray .int, 2) := by decide +kernel
theorem dX9_init_77 : decode cX9_init 77 = .ok (.putfield 43, 3) := by decide +kernel
theorem dX9_init_80 : decode cX9_init 80 = .ok (.return_, 1) := by decide +kernel
theorem dX9_empty_0 : decode cX9_empty 0 = .ok (.aload_n 0, 1) := by decide +kernel
theorem dX9_empty_1 : decode cX9_empty 1 = .ok (.iconst 0, 1) := by decide +kernel
theorem dX9_empty_2 : decode cX9_empty 2 = .ok (.putfield 9, 3) := by decide +kernel
theorem dX9_empty_5 : decode cX9_empty 5 = .ok (.aload_n 0, 1) := by decide +kernel
theorem dX9_empty_6 : decode cX9_empty 6 = .ok (.iconst 0, 1) := by decide +kernel
theorem dX9_empty_7 : decode cX9_empty 7 = .ok (.putfield 15, 3) := by decide +kernel
theorem dX9_empty_10 : decode cX9_empty 10 = .ok (.aload_n 0, 1) := by decide +kernel
theorem dX9_empty_11 : decode cX9_empty 11 = .ok (.iconst 0, 1) := by decide +kernel
theorem dX9_empty_12 : decode cX9_empty 12 = .ok (.putfield 18, 3) := by decide +kernel
theorem dX9_empty_15 : decode cX9_empty 15 = .ok (.return_, 1) := by decide +kernel
theorem dX9_hasJunction_0 : decode cX9_hasJunction 0 = .ok (.iload_n 1, 1) := by decide +kernel
theorem dX9_hasJunction_1 : decode cX9_hasJunction 1 = .ok (.ifCond .lt 15, 3) := by decide +kernel
theorem dX9_hasJunction_4 : decode cX9_hasJunction 4 = .ok (.iload_n 1, 1) := by decide +kernel
theorem dX9_hasJunction_5 : decode cX9_hasJunction 5 = .ok (.aload_n 0, 1) := by decide +kernel
theorem dX9_hasJunction_6 : decode cX9_hasJunction 6 = .ok (.getfield 9, 3) := by decide +kernel
theorem dX9_hasJunction_9 : decode cX9_hasJunction 9 = .ok (.if_icmp .ge 7, 3) := by decide +kernel
theorem dX9_hasJunction_12 : decode cX9_hasJunction 12 = .ok (.iconst 1, 1) := by decide +kernel
theorem dX9_hasJunction_13 : decode cX9_hasJunction 13 = .ok (.goto 4, 3) := by decide +kernel
theorem dX9_hasJunction_16 : decode cX9_hasJunction 16 = .ok (.iconst 0, 1) := by decide +kernel
theorem dX9_hasJunction_17 : decode cX9_hasJunction 17 = .ok (.ireturn, 1) := by decide +kernel
theorem dX9_hasCut_0 : decode cX9_hasCut 0 = .ok (.iload_n 1, 1) := by decide +kernel
theorem dX9_hasCut_1 : decode cX9_hasCut 1 = .ok (.ifCond .lt 21, 3) := by decide +kernel
theorem dX9_hasCut_4 : decode cX9_hasCut 4 = .ok (.iload_n 1, 1) := by decide +kernel
theorem dX9_hasCut_5 : decode cX9_hasCut 5 = .ok (.aload_n 0, 1) := by decide +kernel
theorem dX9_hasCut_6 : decode cX9_hasCut 6 = .ok (.getfield 15, 3) := by decide +kernel
theorem dX9_hasCut_9 : decode cX9_hasCut 9 = .ok (.if_icmp .ge 13, 3) := by decide +kernel
theorem dX9_hasCut_12 : decode cX9_hasCut 12 = .ok (.iload_n 1, 1) := by decide +kernel
theorem dX9_hasCut_13 : decode cX9_hasCut 13 = .ok (.bipush 14, 2) := by decide +kernel
theorem dX9_hasCut_15 : decode cX9_hasCut 15 = .ok (.if_icmp .ge 7, 3) := by decide +kernel
theorem dX9_hasCut_18 : decode cX9_hasCut 18 = .ok (.iconst 1, 1) := by decide +kernel
theorem dX9_hasCut_19 : decode cX9_hasCut 19 = .ok (.goto 4, 3) := by decide +kernel
theorem dX9_hasCut_22 : decode cX9_hasCut 22 = .ok (.iconst 0, 1) := by decide +kernel
theorem dX9_hasCut_23 : decode cX9_hasCut 23 = .ok (.ireturn, 1) := by decide +kernel
theorem dX9_hasBoat_0 : decode cX9_hasBoat 0 = .ok (.iload_n 1, 1) := by decide +kernel
theorem dX9_hasBoat_1 : decode cX9_hasBoat 1 = .ok (.ifCond .lt 20, 3) := by decide +kernel
theorem dX9_hasBoat_4 : decode cX9_hasBoat 4 = .ok (.iload_n 1, 1) := by decide +kernel
theorem dX9_hasBoat_5 : decode cX9_hasBoat 5 = .ok (.aload_n 0, 1) := by decide +kernel
theorem dX9_hasBoat_6 : decode cX9_hasBoat 6 = .ok (.getfield 18, 3) := by decide +kernel
theorem dX9_hasBoat_9 : decode cX9_hasBoat 9 = .ok (.if_icmp .ge 12, 3) := by decide +kernel
theorem dX9_hasBoat_12 : decode cX9_hasBoat 12 = .ok (.iload_n 1, 1) := by decide +kernel
theorem dX9_hasBoat_13 : decode cX9_hasBoat 13 = .ok (.iconst 5, 1) := by decide +kernel
theorem dX9_hasBoat_14 : decode cX9_hasBoat 14 = .ok (.if_icmp .ge 7, 3) := by decide +kernel
theorem dX9_hasBoat_17 : decode cX9_hasBoat 17 = .ok (.iconst 1, 1) := by decide +kernel
theorem dX9_hasBoat_18 : decode cX9_hasBoat 18 = .ok (.goto 4, 3) := by decide +kernel
theorem dX9_hasBoat_21 : decode cX9_hasBoat 21 = .ok (.iconst 0, 1) := by decide +kernel
theorem dX9_hasBoat_22 : decode cX9_hasBoat 22 = .ok (.ireturn, 1) := by decide +kernel
theorem dX9_startOf_0 : decode cX9_startOf 0 = .ok (.aload_n 0, 1) := by decide +kernel
theorem dX9_startOf_1 : decode cX9_startOf 1 = .ok (.iload_n 1, 1) := by decide +kernel
theorem dX9_startOf_2 : decode cX9_startOf 2 = .ok (.invokevirtual 46, 3) := by decide +kernel
theorem dX9_startOf_5 : decode cX9_startOf 5 = .ok (.ifCond .eq 12, 3) := by decide +kernel
theorem dX9_startOf_8 : decode cX9_startOf 8 = .ok (.aload_n 0, 1) := by decide +kernel
theorem dX9_startOf_9 : decode cX9_startOf 9 = .ok (.getfield 31, 3) := by decide +kernel
theorem dX9_startOf_12 : decode cX9_startOf 12 = .ok (.iload_n 1, 1) := by decide +kernel
theorem dX9_startOf_13 : decode cX9_startOf 13 = .ok (.iaload, 1) := by decide +kernel
theorem dX9_startOf_14 : decode cX9_startOf 14 = .ok (.goto 4, 3) := by decide +kernel
theorem dX9_startOf_17 : decode cX9_startOf 17 = .ok (.iconst (-1), 1) := by decide +kernel
theorem dX9_startOf_18 : decode cX9_startOf 18 = .ok (.ireturn, 1) := by decide +kernel
theorem dX9_startPullOf_0 : decode cX9_startPullOf 0 = .ok (.aload_n 0, 1) := by decide +kernel
theorem dX9_startPullOf_1 : decode cX9_startPullOf 1 = .ok (.iload_n 1, 1) := by decide +kernel
theorem dX9_startPullOf_2 : decode cX9_startPullOf 2 = .ok (.invokevirtual 46, 3) := by decide +kernel
theorem dX9_startPullOf_5 : decode cX9_startPullOf 5 = .ok (.ifCond .eq 12, 3) := by decide +kernel
theorem dX9_startPullOf_8 : decode cX9_startPullOf 8 = .ok (.aload_n 0, 1) := by decide +kernel
theorem dX9_startPullOf_9 : decode cX9_startPullOf 9 = .ok (.getfield 34, 3) := by decide +kernel
theorem dX9_startPullOf_12 : decode cX9_startPullOf 12 = .ok (.iload_n 1, 1) := by decide +kernel
theorem dX9_startPullOf_13 : decode cX9_startPullOf 13 = .ok (.iaload, 1) := by decide +kernel
theorem dX9_startPullOf_14 : decode cX9_startPullOf 14 = .ok (.goto 4, 3) := by decide +kernel
theorem dX9_startPullOf_17 : decode cX9_startPullOf 17 = .ok (.iconst 0, 1) := by decide +kernel
theorem dX9_startPullOf_18 : decode cX9_startPullOf 18 = .ok (.ireturn, 1) := by decide +kernel
theorem dX9_wearOf_0 : decode cX9_wearOf 0 = .ok (.aload_n 0, 1) := by decide +kernel
theorem dX9_wearOf_1 : decode cX9_wearOf 1 = .ok (.iload_n 1, 1) := by decide +kernel
theorem dX9_wearOf_2 : decode cX9_wearOf 2 = .ok (.invokevirtual 46, 3) := by decide +kernel
theorem dX9_wearOf_5 : decode cX9_wearOf 5 = .ok (.ifCond .eq 12, 3) := by decide +kernel
theorem dX9_wearOf_8 : decode cX9_wearOf 8 = .ok (.aload_n 0, 1) := by decide +kernel
theorem dX9_wearOf_9 : decode cX9_wearOf 9 = .ok (.getfield 37, 3) := by decide +kernel
theorem dX9_wearOf_12 : decode cX9_wearOf 12 = .ok (.iload_n 1, 1) := by decide +kernel
theorem dX9_wearOf_13 : decode cX9_wearOf 13 = .ok (.iaload, 1) := by decide +kernel
theorem dX9_wearOf_14 : decode cX9_wearOf 14 = .ok (.goto 4, 3) := by decide +kernel
theorem dX9_wearOf_17 : decode cX9_wearOf 17 = .ok (.iconst 0, 1) := by decide +kernel
theorem dX9_wearOf_18 : decode cX9_wearOf 18 = .ok (.ireturn, 1) := by decide +kernel
theorem dX9_joined_0 : decode cX9_joined 0 = .ok (.iconst 0, 1) := by decide +kernel
theorem dX9_joined_1 : decode cX9_joined 1 = .ok (.istore_n 3, 1) := by decide +kernel
theorem dX9_joined_2 : decode cX9_joined 2 = .ok (.iload_n 3, 1) := by decide +kernel
theorem dX9_joined_3 : decode cX9_joined 3 = .ok (.aload_n 0, 1) := by decide +kernel
theorem dX9_joined_4 : decode cX9_joined 4 = .ok (.getfield 15, 3) := by decide +kernel
theorem dX9_joined_7 : decode cX9_joined 7 = .ok (.if_icmp .ge 21, 3) := by decide +kernel
theorem dX9_joined_10 : decode cX9_joined 10 = .ok (.aload_n 0, 1) := by decide +kernel
theorem dX9_joined_11 : decode cX9_joined 11 = .ok (.iload_n 3, 1) := by decide +kernel
theorem dX9_joined_12 : decode cX9_joined 12 = .ok (.iload_n 1, 1) := by decide +kernel
theorem dX9_joined_13 : decode cX9_joined 13 = .ok (.invokevirtual 50, 3) := by decide +kernel
theorem dX9_joined_16 : decode cX9_joined 16 = .ok (.iload_n 2, 1) := by decide +kernel
theorem dX9_joined_17 : decode cX9_joined 17 = .ok (.if_icmp .ne 5, 3) := by decide +kernel
theorem dX9_joined_20 : decode cX9_joined 20 = .ok (.iconst 1, 1) := by decide +kernel
theorem dX9_joined_21 : decode cX9_joined 21 = .ok (.ireturn, 1) := by decide +kernel
theorem dX9_joined_22 : decode cX9_joined 22 = .ok (.iinc 3 1, 3) := by decide +kernel
theorem dX9_joined_25 : decode cX9_joined 25 = .ok (.goto (-23), 3) := by decide +kernel
theorem dX9_joined_28 : decode cX9_joined 28 = .ok (.iconst 0, 1) := by decide +kernel
theorem dX9_joined_29 : decode cX9_joined 29 = .ok (.ireturn, 1) := by decide +kernel
theorem dX9_addCut_0 : decode cX9_addCut 0 = .ok (.aload_n 0, 1) := by decide +kernel
theorem dX9_addCut_1 : decode cX9_addCut 1 = .ok (.getfield 15, 3) := by decide +kernel
theorem dX9_addCut_4 : decode cX9_addCut 4 = .ok (.ifCond .lt 12, 3) := by decide +kernel
theorem dX9_addCut_7 : decode cX9_addCut 7 = .ok (.aload_n 0, 1) := by decide +kernel
theorem dX9_addCut_8 : decode cX9_addCut 8 = .ok (.getfield 15, 3) := by decide +kernel
theorem dX9_addCut_11 : decode cX9_addCut 11 = .ok (.bipush 14, 2) := by decide +kernel
theorem dX9_addCut_13 : decode cX9_addCut 13 = .ok (.if_icmp .lt 4, 3) := by decide +kernel
theorem dX9_addCut_16 : decode cX9_addCut 16 = .ok (.return_, 1) := by decide +kernel
theorem dX9_addCut_17 : decode cX9_addCut 17 = .ok (.aload_n 0, 1) := by decide +kernel
theorem dX9_addCut_18 : decode cX9_addCut 18 = .ok (.getfield 21, 3) := by decide +kernel
theorem dX9_addCut_21 : decode cX9_addCut 21 = .ok (.aload_n 0, 1) := by decide +kernel
theorem dX9_addCut_22 : decode cX9_addCut 22 = .ok (.getfield 15, 3) := by decide +kernel
theorem dX9_addCut_25 : decode cX9_addCut 25 = .ok (.iload_n 1, 1) := by decide +kernel
theorem dX9_addCut_26 : decode cX9_addCut 26 = .ok (.iastore, 1) := by decide +kernel
theorem dX9_addCut_27 : decode cX9_addCut 27 = .ok (.aload_n 0, 1) := by decide +kernel
theorem dX9_addCut_28 : decode cX9_addCut 28 = .ok (.getfield 25, 3) := by decide +kernel
theorem dX9_addCut_31 : decode cX9_addCut 31 = .ok (.aload_n 0, 1) := by decide +kernel
theorem dX9_addCut_32 : decode cX9_addCut 32 = .ok (.getfield 15, 3) := by decide +kernel
theorem dX9_addCut_35 : decode cX9_addCut 35 = .ok (.iload_n 2, 1) := by decide +kernel
theorem dX9_addCut_36 : decode cX9_addCut 36 = .ok (.iastore, 1) := by decide +kernel
theorem dX9_addCut_37 : decode cX9_addCut 37 = .ok (.aload_n 0, 1) := by decide +kernel
theorem dX9_addCut_38 : decode cX9_addCut 38 = .ok (.getfield 28, 3) := by decide +kernel
theorem dX9_addCut_41 : decode cX9_addCut 41 = .ok (.aload_n 0, 1) := by decide +kernel
theorem dX9_addCut_42 : decode cX9_addCut 42 = .ok (.getfield 15, 3) := by decide +kernel
theorem dX9_addCut_45 : decode cX9_addCut 45 = .ok (.iload_n 3, 1) := by decide +kernel
theorem dX9_addCut_46 : decode cX9_addCut 46 = .ok (.iastore, 1) := by decide +kernel
theorem dX9_addCut_47 : decode cX9_addCut 47 = .ok (.aload_n 0, 1) := by decide +kernel
theorem dX9_addCut_48 : decode cX9_addCut 48 = .ok (.dup, 1) := by decide +kernel
theorem dX9_addCut_49 : decode cX9_addCut 49 = .ok (.getfield 15, 3) := by decide +kernel
theorem dX9_addCut_52 : decode cX9_addCut 52 = .ok (.iconst 1, 1) := by decide +kernel
theorem dX9_addCut_53 : decode cX9_addCut 53 = .ok (.iadd, 1) := by decide +kernel
theorem dX9_addCut_54 : decode cX9_addCut 54 = .ok (.putfield 15, 3) := by decide +kernel
theorem dX9_addCut_57 : decode cX9_addCut 57 = .ok (.return_, 1) := by decide +kernel
theorem dX9_addBoat_0 : decode cX9_addBoat 0 = .ok (.aload_n 0, 1) := by decide +kernel
theorem dX9_addBoat_1 : decode cX9_addBoat 1 = .ok (.getfield 18, 3) := by decide +kernel
theorem dX9_addBoat_4 : decode cX9_addBoat 4 = .ok (.ifCond .lt 11, 3) := by decide +kernel
