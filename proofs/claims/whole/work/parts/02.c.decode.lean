theorem dX12_init_5 : decode cX12_init 5 = .ok (.bipush 14, 2) := by decide +kernel
theorem dX12_init_7 : decode cX12_init 7 = .ok (.newarray .int, 2) := by decide +kernel
theorem dX12_init_9 : decode cX12_init 9 = .ok (.putfield 7, 3) := by decide +kernel
theorem dX12_init_12 : decode cX12_init 12 = .ok (.aload_n 0, 1) := by decide +kernel
theorem dX12_init_13 : decode cX12_init 13 = .ok (.bipush 14, 2) := by decide +kernel
theorem dX12_init_15 : decode cX12_init 15 = .ok (.newarray .int, 2) := by decide +kernel
theorem dX12_init_17 : decode cX12_init 17 = .ok (.putfield 13, 3) := by decide +kernel
theorem dX12_init_20 : decode cX12_init 20 = .ok (.aload_n 0, 1) := by decide +kernel
theorem dX12_init_21 : decode cX12_init 21 = .ok (.bipush 14, 2) := by decide +kernel
theorem dX12_init_23 : decode cX12_init 23 = .ok (.newarray .int, 2) := by decide +kernel
theorem dX12_init_25 : decode cX12_init 25 = .ok (.putfield 16, 3) := by decide +kernel
theorem dX12_init_28 : decode cX12_init 28 = .ok (.aload_n 0, 1) := by decide +kernel
theorem dX12_init_29 : decode cX12_init 29 = .ok (.bipush 81, 2) := by decide +kernel
theorem dX12_init_31 : decode cX12_init 31 = .ok (.newarray .int, 2) := by decide +kernel
theorem dX12_init_33 : decode cX12_init 33 = .ok (.putfield 19, 3) := by decide +kernel
theorem dX12_init_36 : decode cX12_init 36 = .ok (.aload_n 0, 1) := by decide +kernel
theorem dX12_init_37 : decode cX12_init 37 = .ok (.iconst 5, 1) := by decide +kernel
theorem dX12_init_38 : decode cX12_init 38 = .ok (.newarray .int, 2) := by decide +kernel
theorem dX12_init_40 : decode cX12_init 40 = .ok (.putfield 22, 3) := by decide +kernel
theorem dX12_init_43 : decode cX12_init 43 = .ok (.aload_n 0, 1) := by decide +kernel
theorem dX12_init_44 : decode cX12_init 44 = .ok (.iconst 5, 1) := by decide +kernel
theorem dX12_init_45 : decode cX12_init 45 = .ok (.newarray .int, 2) := by decide +kernel
theorem dX12_init_47 : decode cX12_init 47 = .ok (.putfield 25, 3) := by decide +kernel
theorem dX12_init_50 : decode cX12_init 50 = .ok (.aload_n 0, 1) := by decide +kernel
theorem dX12_init_51 : decode cX12_init 51 = .ok (.bipush 21, 2) := by decide +kernel
theorem dX12_init_53 : decode cX12_init 53 = .ok (.newarray .int, 2) := by decide +kernel
theorem dX12_init_55 : decode cX12_init 55 = .ok (.putfield 28, 3) := by decide +kernel
theorem dX12_init_58 : decode cX12_init 58 = .ok (.aload_n 0, 1) := by decide +kernel
theorem dX12_init_59 : decode cX12_init 59 = .ok (.sipush 240, 3) := by decide +kernel
theorem dX12_init_62 : decode cX12_init 62 = .ok (.newarray .int, 2) := by decide +kernel
theorem dX12_init_64 : decode cX12_init 64 = .ok (.putfield 31, 3) := by decide +kernel
theorem dX12_init_67 : decode cX12_init 67 = .ok (.aload_n 0, 1) := by decide +kernel
theorem dX12_init_68 : decode cX12_init 68 = .ok (.iconst (-1), 1) := by decide +kernel
theorem dX12_init_69 : decode cX12_init 69 = .ok (.putfield 34, 3) := by decide +kernel
theorem dX12_init_72 : decode cX12_init 72 = .ok (.aload_n 0, 1) := by decide +kernel
theorem dX12_init_73 : decode cX12_init 73 = .ok (.bipush 14, 2) := by decide +kernel
theorem dX12_init_75 : decode cX12_init 75 = .ok (.newarray .int, 2) := by decide +kernel
theorem dX12_init_77 : decode cX12_init 77 = .ok (.putfield 38, 3) := by decide +kernel
theorem dX12_init_80 : decode cX12_init 80 = .ok (.aload_n 0, 1) := by decide +kernel
theorem dX12_init_81 : decode cX12_init 81 = .ok (.bipush 14, 2) := by decide +kernel
theorem dX12_init_83 : decode cX12_init 83 = .ok (.newarray .int, 2) := by decide +kernel
theorem dX12_init_85 : decode cX12_init 85 = .ok (.putfield 41, 3) := by decide +kernel
theorem dX12_init_88 : decode cX12_init 88 = .ok (.aload_n 0, 1) := by decide +kernel
theorem dX12_init_89 : decode cX12_init 89 = .ok (.bipush 14, 2) := by decide +kernel
theorem dX12_init_91 : decode cX12_init 91 = .ok (.newarray .int, 2) := by decide +kernel
theorem dX12_init_93 : decode cX12_init 93 = .ok (.putfield 44, 3) := by decide +kernel
theorem dX12_init_96 : decode cX12_init 96 = .ok (.aload_n 0, 1) := by decide +kernel
theorem dX12_init_97 : decode cX12_init 97 = .ok (.iconst 5, 1) := by decide +kernel
theorem dX12_init_98 : decode cX12_init 98 = .ok (.newarray .int, 2) := by decide +kernel
theorem dX12_init_100 : decode cX12_init 100 = .ok (.putfield 47, 3) := by decide +kernel
theorem dX12_init_103 : decode cX12_init 103 = .ok (.aload_n 0, 1) := by decide +kernel
theorem dX12_init_104 : decode cX12_init 104 = .ok (.iconst 5, 1) := by decide +kernel
theorem dX12_init_105 : decode cX12_init 105 = .ok (.newarray .int, 2) := by decide +kernel
theorem dX12_init_107 : decode cX12_init 107 = .ok (.putfield 50, 3) := by decide +kernel
theorem dX12_init_110 : decode cX12_init 110 = .ok (.aload_n 0, 1) := by decide +kernel
theorem dX12_init_111 : decode cX12_init 111 = .ok (.iconst 5, 1) := by decide +kernel
theorem dX12_init_112 : decode cX12_init 112 = .ok (.newarray .int, 2) := by decide +kernel
theorem dX12_init_114 : decode cX12_init 114 = .ok (.putfield 53, 3) := by decide +kernel
theorem dX12_init_117 : decode cX12_init 117 = .ok (.aload_n 0, 1) := by decide +kernel
theorem dX12_init_118 : decode cX12_init 118 = .ok (.sipush 420, 3) := by decide +kernel
theorem dX12_init_121 : decode cX12_init 121 = .ok (.newarray .int, 2) := by decide +kernel
theorem dX12_init_123 : decode cX12_init 123 = .ok (.putfield 56, 3) := by decide +kernel
theorem dX12_init_126 : decode cX12_init 126 = .ok (.aload_n 0, 1) := by decide +kernel
theorem dX12_init_127 : decode cX12_init 127 = .ok (.iconst 5, 1) := by decide +kernel
theorem dX12_init_128 : decode cX12_init 128 = .ok (.newarray .int, 2) := by decide +kernel
theorem dX12_init_130 : decode cX12_init 130 = .ok (.putfield 59, 3) := by decide +kernel
theorem dX12_init_133 : decode cX12_init 133 = .ok (.aload_n 0, 1) := by decide +kernel
theorem dX12_init_134 : decode cX12_init 134 = .ok (.iconst 5, 1) := by decide +kernel
theorem dX12_init_135 : decode cX12_init 135 = .ok (.newarray .int, 2) := by decide +kernel
theorem dX12_init_137 : decode cX12_init 137 = .ok (.putfield 62, 3) := by decide +kernel
theorem dX12_init_140 : decode cX12_init 140 = .ok (.aload_n 0, 1) := by decide +kernel
theorem dX12_init_141 : decode cX12_init 141 = .ok (.bipush 6, 2) := by decide +kernel
theorem dX12_init_143 : decode cX12_init 143 = .ok (.newarray .int, 2) := by decide +kernel
theorem dX12_init_145 : decode cX12_init 145 = .ok (.putfield 65, 3) := by decide +kernel
theorem dX12_init_148 : decode cX12_init 148 = .ok (.aload_n 0, 1) := by decide +kernel
theorem dX12_init_149 : decode cX12_init 149 = .ok (.bipush 6, 2) := by decide +kernel
theorem dX12_init_151 : decode cX12_init 151 = .ok (.newarray .int, 2) := by decide +kernel
theorem dX12_init_153 : decode cX12_init 153 = .ok (.putfield 68, 3) := by decide +kernel
theorem dX12_init_156 : decode cX12_init 156 = .ok (.aload_n 0, 1) := by decide +kernel
theorem dX12_init_157 : decode cX12_init 157 = .ok (.bipush 6, 2) := by decide +kernel
theorem dX12_init_159 : decode cX12_init 159 = .ok (.newarray .int, 2) := by decide +kernel
theorem dX12_init_161 : decode cX12_init 161 = .ok (.putfield 71, 3) := by decide +kernel
theorem dX12_init_164 : decode cX12_init 164 = .ok (.aload_n 0, 1) := by decide +kernel
theorem dX12_init_165 : decode cX12_init 165 = .ok (.bipush 31, 2) := by decide +kernel
theorem dX12_init_167 : decode cX12_init 167 = .ok (.newarray .int, 2) := by decide +kernel
theorem dX12_init_169 : decode cX12_init 169 = .ok (.putfield 74, 3) := by decide +kernel
theorem dX12_init_172 : decode cX12_init 172 = .ok (.aload_n 0, 1) := by decide +kernel
theorem dX12_init_173 : decode cX12_init 173 = .ok (.sipush 279, 3) := by decide +kernel
theorem dX12_init_176 : decode cX12_init 176 = .ok (.newarray .int, 2) := by decide +kernel
theorem dX12_init_178 : decode cX12_init 178 = .ok (.putfield 77, 3) := by decide +kernel
theorem dX12_init_181 : decode cX12_init 181 = .ok (.aload_n 0, 1) := by decide +kernel
theorem dX12_init_182 : decode cX12_init 182 = .ok (.bipush 15, 2) := by decide +kernel
theorem dX12_init_184 : decode cX12_init 184 = .ok (.newarray .int, 2) := by decide +kernel
theorem dX12_init_186 : decode cX12_init 186 = .ok (.putfield 80, 3) := by decide +kernel
theorem dX12_init_189 : decode cX12_init 189 = .ok (.aload_n 0, 1) := by decide +kernel
theorem dX12_init_190 : decode cX12_init 190 = .ok (.bipush 15, 2) := by decide +kernel
theorem dX12_init_192 : decode cX12_init 192 = .ok (.newarray .int, 2) := by decide +kernel
theorem dX12_init_194 : decode cX12_init 194 = .ok (.putfield 83, 3) := by decide +kernel
theorem dX12_init_197 : decode cX12_init 197 = .ok (.aload_n 0, 1) := by decide +kernel
theorem dX12_init_198 : decode cX12_init 198 = .ok (.bipush 44, 2) := by decide +kernel
theorem dX12_init_200 : decode cX12_init 200 = .ok (.newarray .int, 2) := by decide +kernel
theorem dX12_init_202 : decode cX12_init 202 = .ok (.putfield 86, 3) := by decide +kernel
theorem dX12_init_205 : decode cX12_init 205 = .ok (.aload_n 0, 1) := by decide +kernel
theorem dX12_init_206 : decode cX12_init 206 = .ok (.iconst 2, 1) := by decide +kernel
theorem dX12_init_207 : decode cX12_init 207 = .ok (.newarray .boolean, 2) := by decide +kernel
theorem dX12_init_209 : decode cX12_init 209 = .ok (.putfield 89, 3) := by decide +kernel
theorem dX12_init_212 : decode cX12_init 212 = .ok (.aload_n 0, 1) := by decide +kernel
theorem dX12_init_213 : decode cX12_init 213 = .ok (.iconst 0, 1) := by decide +kernel
theorem dX12_init_214 : decode cX12_init 214 = .ok (.putfield 93, 3) := by decide +kernel
theorem dX12_init_217 : decode cX12_init 217 = .ok (.return_, 1) := by decide +kernel
theorem dX12_in_0 : decode cX12_in 0 = .ok (.lload_n 0, 1) := by decide +kernel
theorem dX12_in_1 : decode cX12_in 1 = .ok (.lload_n 2, 1) := by decide +kernel
theorem dX12_in_2 : decode cX12_in 2 = .ok (.lcmp, 1) := by decide +kernel
theorem dX12_in_3 : decode cX12_in 3 = .ok (.ifCond .lt 14, 3) := by decide +kernel
theorem dX12_in_6 : decode cX12_in 6 = .ok (.lload_n 0, 1) := by decide +kernel
theorem dX12_in_7 : decode cX12_in 7 = .ok (.lload 4, 2) := by decide +kernel
theorem dX12_in_9 : decode cX12_in 9 = .ok (.lcmp, 1) := by decide +kernel
theorem dX12_in_10 : decode cX12_in 10 = .ok (.ifCond .gt 7, 3) := by decide +kernel
theorem dX12_in_13 : decode cX12_in 13 = .ok (.iconst 1, 1) := by decide +kernel
theorem dX12_in_14 : decode cX12_in 14 = .ok (.goto 4, 3) := by decide +kernel
theorem dX12_in_17 : decode cX12_in 17 = .ok (.iconst 0, 1) := by decide +kernel
theorem dX12_in_18 : decode cX12_in 18 = .ok (.ireturn, 1) := by decide +kernel
theorem dX12_isJunction_0 : decode cX12_isJunction 0 = .ok (.iload_n 1, 1) := by decide +kernel
theorem dX12_isJunction_1 : decode cX12_isJunction 1 = .ok (.i2l, 1) := by decide +kernel
theorem dX12_isJunction_2 : decode cX12_isJunction 2 = .ok (.lconst 0, 1) := by decide +kernel
theorem dX12_isJunction_3 : decode cX12_isJunction 3 = .ok (.aload_n 0, 1) := by decide +kernel
theorem dX12_isJunction_4 : decode cX12_isJunction 4 = .ok (.getfield 93, 3) := by decide +kernel
theorem dX12_isJunction_7 : decode cX12_isJunction 7 = .ok (.iconst 1, 1) := by decide +kernel
theorem dX12_isJunction_8 : decode cX12_isJunction 8 = .ok (.isub, 1) := by decide +kernel
theorem dX12_isJunction_9 : decode cX12_isJunction 9 = .ok (.i2l, 1) := by decide +kernel
theorem dX12_isJunction_10 : decode cX12_isJunction 10 = .ok (.invokestatic 96, 3) := by decide +kernel
theorem dX12_isJunction_13 : decode cX12_isJunction 13 = .ok (.ireturn, 1) := by decide +kernel
theorem dX12_isBoat_0 : decode cX12_isBoat 0 = .ok (.iload_n 1, 1) := by decide +kernel
theorem dX12_isBoat_1 : decode cX12_isBoat 1 = .ok (.i2l, 1) := by decide +kernel
theorem dX12_isBoat_2 : decode cX12_isBoat 2 = .ok (.lconst 0, 1) := by decide +kernel
theorem dX12_isBoat_3 : decode cX12_isBoat 3 = .ok (.aload_n 0, 1) := by decide +kernel
theorem dX12_isBoat_4 : decode cX12_isBoat 4 = .ok (.getfield 100, 3) := by decide +kernel
theorem dX12_isBoat_7 : decode cX12_isBoat 7 = .ok (.iconst 1, 1) := by decide +kernel
theorem dX12_isBoat_8 : decode cX12_isBoat 8 = .ok (.isub, 1) := by decide +kernel
theorem dX12_isBoat_9 : decode cX12_isBoat 9 = .ok (.i2l, 1) := by decide +kernel
theorem dX12_isBoat_10 : decode cX12_isBoat 10 = .ok (.invokestatic 96, 3) := by decide +kernel
theorem dX12_isBoat_13 : decode cX12_isBoat 13 = .ok (.ireturn, 1) := by decide +kernel
theorem dX12_feed_0 : decode cX12_feed 0 = .ok (.iload_n 1, 1) := by decide +kernel
theorem dX12_feed_1 : decode cX12_feed 1 = .ok (.i2l, 1) := by decide +kernel
theorem dX12_feed_2 : decode cX12_feed 2 = .ok (.lconst 0, 1) := by decide +kernel
theorem dX12_feed_3 : decode cX12_feed 3 = .ok (.ldc2_w 103, 3) := by decide +kernel
theorem dX12_feed_6 : decode cX12_feed 6 = .ok (.invokestatic 96, 3) := by decide +kernel
theorem dX12_feed_9 : decode cX12_feed 9 = .ok (.ifCond .ne 6, 3) := by decide +kernel
theorem dX12_feed_12 : decode cX12_feed 12 = .ok (.ldc 105, 2) := by decide +kernel
theorem dX12_feed_14 : decode cX12_feed 14 = .ok (.ireturn, 1) := by decide +kernel
theorem dX12_feed_15 : decode cX12_feed 15 = .ok (.aload_n 0, 1) := by decide +kernel
theorem dX12_feed_16 : decode cX12_feed 16 = .ok (.getfield 106, 3) := by decide +kernel
theorem dX12_feed_19 : decode cX12_feed 19 = .ok (.sipush 240, 3) := by decide +kernel
theorem dX12_feed_22 : decode cX12_feed 22 = .ok (.if_icmp .ne 6, 3) := by decide +kernel
theorem dX12_feed_25 : decode cX12_feed 25 = .ok (.ldc 109, 2) := by decide +kernel
theorem dX12_feed_27 : decode cX12_feed 27 = .ok (.ireturn, 1) := by decide +kernel
theorem dX12_feed_28 : decode cX12_feed 28 = .ok (.aload_n 0, 1) := by decide +kernel
theorem dX12_feed_29 : decode cX12_feed 29 = .ok (.getfield 31, 3) := by decide +kernel
theorem dX12_feed_32 : decode cX12_feed 32 = .ok (.aload_n 0, 1) := by decide +kernel
theorem dX12_feed_33 : decode cX12_feed 33 = .ok (.getfield 106, 3) := by decide +kernel
theorem dX12_feed_36 : decode cX12_feed 36 = .ok (.iload_n 1, 1) := by decide +kernel
theorem dX12_feed_37 : decode cX12_feed 37 = .ok (.iastore, 1) := by decide +kernel
theorem dX12_feed_38 : decode cX12_feed 38 = .ok (.aload_n 0, 1) := by decide +kernel
theorem dX12_feed_39 : decode cX12_feed 39 = .ok (.dup, 1) := by decide +kernel
theorem dX12_feed_40 : decode cX12_feed 40 = .ok (.getfield 106, 3) := by decide +kernel
theorem dX12_feed_43 : decode cX12_feed 43 = .ok (.iconst 1, 1) := by decide +kernel
theorem dX12_feed_44 : decode cX12_feed 44 = .ok (.iadd, 1) := by decide +kernel
theorem dX12_feed_45 : decode cX12_feed 45 = .ok (.putfield 106, 3) := by decide +kernel
theorem dX12_feed_48 : decode cX12_feed 48 = .ok (.aload_n 0, 1) := by decide +kernel
theorem dX12_feed_49 : decode cX12_feed 49 = .ok (.getfield 106, 3) := by decide +kernel
theorem dX12_feed_52 : decode cX12_feed 52 = .ok (.ireturn, 1) := by decide +kernel
theorem dX12_here_0 : decode cX12_here 0 = .ok (.aload_n 0, 1) := by decide +kernel
theorem dX12_here_1 : decode cX12_here 1 = .ok (.getfield 110, 3) := by decide +kernel
theorem dX12_here_4 : decode cX12_here 4 = .ok (.aload_n 0, 1) := by decide +kernel
theorem dX12_here_5 : decode cX12_here 5 = .ok (.getfield 106, 3) := by decide +kernel
theorem dX12_here_8 : decode cX12_here 8 = .ok (.if_icmp .ge 30, 3) := by decide +kernel
theorem dX12_here_11 : decode cX12_here 11 = .ok (.aload_n 0, 1) := by decide +kernel
theorem dX12_here_12 : decode cX12_here 12 = .ok (.getfield 31, 3) := by decide +kernel
theorem dX12_here_15 : decode cX12_here 15 = .ok (.aload_n 0, 1) := by decide +kernel
theorem dX12_here_16 : decode cX12_here 16 = .ok (.getfield 110, 3) := by decide +kernel
theorem dX12_here_19 : decode cX12_here 19 = .ok (.iaload, 1) := by decide +kernel
theorem dX12_here_20 : decode cX12_here 20 = .ok (.bipush 32, 2) := by decide +kernel
theorem dX12_here_22 : decode cX12_here 22 = .ok (.if_icmp .ne 16, 3) := by decide +kernel
theorem dX12_here_25 : decode cX12_here 25 = .ok (.aload_n 0, 1) := by decide +kernel
theorem dX12_here_26 : decode cX12_here 26 = .ok (.dup, 1) := by decide +kernel
theorem dX12_here_27 : decode cX12_here 27 = .ok (.getfield 110, 3) := by decide +kernel
theorem dX12_here_30 : decode cX12_here 30 = .ok (.iconst 1, 1) := by decide +kernel
theorem dX12_here_31 : decode cX12_here 31 = .ok (.iadd, 1) := by decide +kernel
theorem dX12_here_32 : decode cX12_here 32 = .ok (.putfield 110, 3) := by decide +kernel
theorem dX12_here_35 : decode cX12_here 35 = .ok (.goto (-35), 3) := by decide +kernel
theorem dX12_here_38 : decode cX12_here 38 = .ok (.aload_n 0, 1) := by decide +kernel
theorem dX12_here_39 : decode cX12_here 39 = .ok (.getfield 110, 3) := by decide +kernel
theorem dX12_here_42 : decode cX12_here 42 = .ok (.aload_n 0, 1) := by decide +kernel
theorem dX12_here_43 : decode cX12_here 43 = .ok (.getfield 106, 3) := by decide +kernel
theorem dX12_here_46 : decode cX12_here 46 = .ok (.if_icmp .ge 15, 3) := by decide +kernel
theorem dX12_here_49 : decode cX12_here 49 = .ok (.aload_n 0, 1) := by decide +kernel
theorem dX12_here_50 : decode cX12_here 50 = .ok (.getfield 31, 3) := by decide +kernel
theorem dX12_here_53 : decode cX12_here 53 = .ok (.aload_n 0, 1) := by decide +kernel
theorem dX12_here_54 : decode cX12_here 54 = .ok (.getfield 110, 3) := by decide +kernel
theorem dX12_here_57 : decode cX12_here 57 = .ok (.iaload, 1) := by decide +kernel
theorem dX12_here_58 : decode cX12_here 58 = .ok (.goto 4, 3) := by decide +kernel
theorem dX12_here_61 : decode cX12_here 61 = .ok (.iconst (-1), 1) := by decide +kernel
theorem dX12_here_62 : decode cX12_here 62 = .ok (.ireturn, 1) := by decide +kernel
theorem dX12_fails_0 : decode cX12_fails 0 = .ok (.aload_n 0, 1) := by decide +kernel
theorem dX12_fails_1 : decode cX12_fails 1 = .ok (.iload_n 2, 1) := by decide +kernel
theorem dX12_fails_2 : decode cX12_fails 2 = .ok (.putfield 34, 3) := by decide +kernel
theorem dX12_fails_5 : decode cX12_fails 5 = .ok (.iload_n 1, 1) := by decide +kernel
theorem dX12_fails_6 : decode cX12_fails 6 = .ok (.ireturn, 1) := by decide +kernel
theorem dX12_takeNumber_0 : decode cX12_takeNumber 0 = .ok (.aload_n 0, 1) := by decide +kernel
theorem dX12_takeNumber_1 : decode cX12_takeNumber 1 = .ok (.invokevirtual 113, 3) := by decide +kernel
theorem dX12_takeNumber_4 : decode cX12_takeNumber 4 = .ok (.istore_n 3, 1) := by decide +kernel
theorem dX12_takeNumber_5 : decode cX12_takeNumber 5 = .ok (.iload_n 3, 1) := by decide +kernel
theorem dX12_takeNumber_6 : decode cX12_takeNumber 6 = .ok (.i2l, 1) := by decide +kernel
theorem dX12_takeNumber_7 : decode cX12_takeNumber 7 = .ok (.ldc2_w 117, 3) := by decide +kernel
theorem dX12_takeNumber_10 : decode cX12_takeNumber 10 = .ok (.ldc2_w 119, 3) := by decide +kernel
theorem dX12_takeNumber_13 : decode cX12_takeNumber 13 = .ok (.invokestatic 96, 3) := by decide +kernel
theorem dX12_takeNumber_16 : decode cX12_takeNumber 16 = .ok (.ifCond .ne 13, 3) := by decide +kernel
theorem dX12_takeNumber_19 : decode cX12_takeNumber 19 = .ok (.aload_n 0, 1) := by decide +kernel
theorem dX12_takeNumber_20 : decode cX12_takeNumber 20 = .ok (.iconst 1, 1) := by decide +kernel
theorem dX12_takeNumber_21 : decode cX12_takeNumber 21 = .ok (.aload_n 0, 1) := by decide +kernel
theorem dX12_takeNumber_22 : decode cX12_takeNumber 22 = .ok (.getfield 110, 3) := by decide +kernel
theorem dX12_takeNumber_25 : decode cX12_takeNumber 25 = .ok (.invokevirtual 121, 3) := by decide +kernel
theorem dX12_takeNumber_28 : decode cX12_takeNumber 28 = .ok (.ireturn, 1) := by decide +kernel
theorem dX12_takeNumber_29 : decode cX12_takeNumber 29 = .ok (.aload_n 0, 1) := by decide +kernel
theorem dX12_takeNumber_30 : decode cX12_takeNumber 30 = .ok (.aload_n 0, 1) := by decide +kernel
theorem dX12_takeNumber_31 : decode cX12_takeNumber 31 = .ok (.getfield 110, 3) := by decide +kernel
theorem dX12_takeNumber_34 : decode cX12_takeNumber 34 = .ok (.putfield 125, 3) := by decide +kernel
theorem dX12_takeNumber_37 : decode cX12_takeNumber 37 = .ok (.aload_n 0, 1) := by decide +kernel
theorem dX12_takeNumber_38 : decode cX12_takeNumber 38 = .ok (.iconst 0, 1) := by decide +kernel
theorem dX12_takeNumber_39 : decode cX12_takeNumber 39 = .ok (.putfield 128, 3) := by decide +kernel
theorem dX12_takeNumber_42 : decode cX12_takeNumber 42 = .ok (.aload_n 0, 1) := by decide +kernel
theorem dX12_takeNumber_43 : decode cX12_takeNumber 43 = .ok (.getfield 110, 3) := by decide +kernel
theorem dX12_takeNumber_46 : decode cX12_takeNumber 46 = .ok (.aload_n 0, 1) := by decide +kernel
theorem dX12_takeNumber_47 : decode cX12_takeNumber 47 = .ok (.getfield 106, 3) := by decide +kernel
theorem dX12_takeNumber_50 : decode cX12_takeNumber 50 = .ok (.if_icmp .ge 79, 3) := by decide +kernel
theorem dX12_takeNumber_53 : decode cX12_takeNumber 53 = .ok (.aload_n 0, 1) := by decide +kernel
theorem dX12_takeNumber_54 : decode cX12_takeNumber 54 = .ok (.getfield 31, 3) := by decide +kernel
theorem dX12_takeNumber_57 : decode cX12_takeNumber 57 = .ok (.aload_n 0, 1) := by decide +kernel
theorem dX12_takeNumber_58 : decode cX12_takeNumber 58 = .ok (.getfield 110, 3) := by decide +kernel
theorem dX12_takeNumber_61 : decode cX12_takeNumber 61 = .ok (.iaload, 1) := by decide +kernel
theorem dX12_takeNumber_62 : decode cX12_takeNumber 62 = .ok (.i2l, 1) := by decide +kernel
theorem dX12_takeNumber_63 : decode cX12_takeNumber 63 = .ok (.ldc2_w 117, 3) := by decide +kernel
theorem dX12_takeNumber_66 : decode cX12_takeNumber 66 = .ok (.ldc2_w 119, 3) := by decide +kernel
theorem dX12_takeNumber_69 : decode cX12_takeNumber 69 = .ok (.invokestatic 96, 3) := by decide +kernel
theorem dX12_takeNumber_72 : decode cX12_takeNumber 72 = .ok (.ifCond .eq 57, 3) := by decide +kernel
theorem dX12_takeNumber_75 : decode cX12_takeNumber 75 = .ok (.aload_n 0, 1) := by decide +kernel
theorem dX12_takeNumber_76 : decode cX12_takeNumber 76 = .ok (.aload_n 0, 1) := by decide +kernel
theorem dX12_takeNumber_77 : decode cX12_takeNumber 77 = .ok (.getfield 128, 3) := by decide +kernel
theorem dX12_takeNumber_80 : decode cX12_takeNumber 80 = .ok (.sipush 10000, 3) := by decide +kernel
theorem dX12_takeNumber_83 : decode cX12_takeNumber 83 = .ok (.if_icmp .le 10, 3) := by decide +kernel
theorem dX12_takeNumber_86 : decode cX12_takeNumber 86 = .ok (.aload_n 0, 1) := by decide +kernel
theorem dX12_takeNumber_87 : decode cX12_takeNumber 87 = .ok (.getfield 128, 3) := by decide +kernel
theorem dX12_takeNumber_90 : decode cX12_takeNumber 90 = .ok (.goto 23, 3) := by decide +kernel
theorem dX12_takeNumber_93 : decode cX12_takeNumber 93 = .ok (.bipush 10, 2) := by decide +kernel
theorem dX12_takeNumber_95 : decode cX12_takeNumber 95 = .ok (.aload_n 0, 1) := by decide +kernel
theorem dX12_takeNumber_96 : decode cX12_takeNumber 96 = .ok (.getfield 128, 3) := by decide +kernel
theorem dX12_takeNumber_99 : decode cX12_takeNumber 99 = .ok (.imul, 1) := by decide +kernel
theorem dX12_takeNumber_100 : decode cX12_takeNumber 100 = .ok (.aload_n 0, 1) := by decide +kernel
theorem dX12_takeNumber_101 : decode cX12_takeNumber 101 = .ok (.getfield 31, 3) := by decide +kernel
theorem dX12_takeNumber_104 : decode cX12_takeNumber 104 = .ok (.aload_n 0, 1) := by decide +kernel
theorem dX12_takeNumber_105 : decode cX12_takeNumber 105 = .ok (.getfield 110, 3) := by decide +kernel
theorem dX12_takeNumber_108 : decode cX12_takeNumber 108 = .ok (.iaload, 1) := by decide +kernel
theorem dX12_takeNumber_109 : decode cX12_takeNumber 109 = .ok (.iadd, 1) := by decide +kernel
theorem dX12_takeNumber_110 : decode cX12_takeNumber 110 = .ok (.bipush 48, 2) := by decide +kernel
theorem dX12_takeNumber_112 : decode cX12_takeNumber 112 = .ok (.isub, 1) := by decide +kernel
theorem dX12_takeNumber_113 : decode cX12_takeNumber 113 = .ok (.putfield 128, 3) := by decide +kernel
theorem dX12_takeNumber_116 : decode cX12_takeNumber 116 = .ok (.aload_n 0, 1) := by decide +kernel
theorem dX12_takeNumber_117 : decode cX12_takeNumber 117 = .ok (.dup, 1) := by decide +kernel
theorem dX12_takeNumber_118 : decode cX12_takeNumber 118 = .ok (.getfield 110, 3) := by decide +kernel
theorem dX12_takeNumber_121 : decode cX12_takeNumber 121 = .ok (.iconst 1, 1) := by decide +kernel
theorem dX12_takeNumber_122 : decode cX12_takeNumber 122 = .ok (.iadd, 1) := by decide +kernel
theorem dX12_takeNumber_123 : decode cX12_takeNumber 123 = .ok (.putfield 110, 3) := by decide +kernel
theorem dX12_takeNumber_126 : decode cX12_takeNumber 126 = .ok (.goto (-84), 3) := by decide +kernel
theorem dX12_takeNumber_129 : decode cX12_takeNumber 129 = .ok (.aload_n 0, 1) := by decide +kernel
theorem dX12_takeNumber_130 : decode cX12_takeNumber 130 = .ok (.getfield 110, 3) := by decide +kernel
theorem dX12_takeNumber_133 : decode cX12_takeNumber 133 = .ok (.aload_n 0, 1) := by decide +kernel
theorem dX12_takeNumber_134 : decode cX12_takeNumber 134 = .ok (.getfield 125, 3) := by decide +kernel
theorem dX12_takeNumber_137 : decode cX12_takeNumber 137 = .ok (.isub, 1) := by decide +kernel
theorem dX12_takeNumber_138 : decode cX12_takeNumber 138 = .ok (.iconst 3, 1) := by decide +kernel
theorem dX12_takeNumber_139 : decode cX12_takeNumber 139 = .ok (.if_icmp .gt 18, 3) := by decide +kernel
theorem dX12_takeNumber_142 : decode cX12_takeNumber 142 = .ok (.aload_n 0, 1) := by decide +kernel
theorem dX12_takeNumber_143 : decode cX12_takeNumber 143 = .ok (.getfield 128, 3) := by decide +kernel
theorem dX12_takeNumber_146 : decode cX12_takeNumber 146 = .ok (.i2l, 1) := by decide +kernel
theorem dX12_takeNumber_147 : decode cX12_takeNumber 147 = .ok (.iload_n 1, 1) := by decide +kernel
theorem dX12_takeNumber_148 : decode cX12_takeNumber 148 = .ok (.i2l, 1) := by decide +kernel
theorem dX12_takeNumber_149 : decode cX12_takeNumber 149 = .ok (.iload_n 2, 1) := by decide +kernel
theorem dX12_takeNumber_150 : decode cX12_takeNumber 150 = .ok (.i2l, 1) := by decide +kernel
theorem dX12_takeNumber_151 : decode cX12_takeNumber 151 = .ok (.invokestatic 96, 3) := by decide +kernel
theorem dX12_takeNumber_154 : decode cX12_takeNumber 154 = .ok (.ifCond .ne 15, 3) := by decide +kernel
theorem dX12_takeNumber_157 : decode cX12_takeNumber 157 = .ok (.aload_n 0, 1) := by decide +kernel
theorem dX12_takeNumber_158 : decode cX12_takeNumber 158 = .ok (.iconst 2, 1) := by decide +kernel
theorem dX12_takeNumber_159 : decode cX12_takeNumber 159 = .ok (.aload_n 0, 1) := by decide +kernel
theorem dX12_takeNumber_160 : decode cX12_takeNumber 160 = .ok (.getfield 125, 3) := by decide +kernel
theorem dX12_takeNumber_163 : decode cX12_takeNumber 163 = .ok (.invokevirtual 121, 3) := by decide +kernel
theorem dX12_takeNumber_166 : decode cX12_takeNumber 166 = .ok (.goto 4, 3) := by decide +kernel
theorem dX12_takeNumber_169 : decode cX12_takeNumber 169 = .ok (.iconst 0, 1) := by decide +kernel
theorem dX12_takeNumber_170 : decode cX12_takeNumber 170 = .ok (.ireturn, 1) := by decide +kernel
theorem dX12_into_0 : decode cX12_into 0 = .ok (.aload_n 0, 1) := by decide +kernel
theorem dX12_into_1 : decode cX12_into 1 = .ok (.iload_n 3, 1) := by decide +kernel
theorem dX12_into_2 : decode cX12_into 2 = .ok (.iload 4, 2) := by decide +kernel
theorem dX12_into_4 : decode cX12_into 4 = .ok (.invokevirtual 131, 3) := by decide +kernel
theorem dX12_into_7 : decode cX12_into 7 = .ok (.istore 5, 2) := by decide +kernel
theorem dX12_into_9 : decode cX12_into 9 = .ok (.aload_n 1, 1) := by decide +kernel
theorem dX12_into_10 : decode cX12_into 10 = .ok (.iload_n 2, 1) := by decide +kernel
theorem dX12_into_11 : decode cX12_into 11 = .ok (.aload_n 0, 1) := by decide +kernel
theorem dX12_into_12 : decode cX12_into 12 = .ok (.getfield 128, 3) := by decide +kernel
theorem dX12_into_15 : decode cX12_into 15 = .ok (.iastore, 1) := by decide +kernel
theorem dX12_into_16 : decode cX12_into 16 = .ok (.iload 5, 2) := by decide +kernel
theorem dX12_into_18 : decode cX12_into 18 = .ok (.ireturn, 1) := by decide +kernel
theorem dX12_takeJunctions_0 : decode cX12_takeJunctions 0 = .ok (.aload_n 0, 1) := by decide +kernel
theorem dX12_takeJunctions_1 : decode cX12_takeJunctions 1 = .ok (.iconst 1, 1) := by decide +kernel
theorem dX12_takeJunctions_2 : decode cX12_takeJunctions 2 = .ok (.bipush 9, 2) := by decide +kernel
theorem dX12_takeJunctions_4 : decode cX12_takeJunctions 4 = .ok (.invokevirtual 131, 3) := by decide +kernel
theorem dX12_takeJunctions_7 : decode cX12_takeJunctions 7 = .ok (.istore_n 1, 1) := by decide +kernel
theorem dX12_takeJunctions_8 : decode cX12_takeJunctions 8 = .ok (.aload_n 0, 1) := by decide +kernel
theorem dX12_takeJunctions_9 : decode cX12_takeJunctions 9 = .ok (.aload_n 0, 1) := by decide +kernel
theorem dX12_takeJunctions_10 : decode cX12_takeJunctions 10 = .ok (.getfield 128, 3) := by decide +kernel
theorem dX12_takeJunctions_13 : decode cX12_takeJunctions 13 = .ok (.putfield 134, 3) := by decide +kernel
theorem dX12_takeJunctions_16 : decode cX12_takeJunctions 16 = .ok (.iload_n 1, 1) := by decide +kernel
theorem dX12_takeJunctions_17 : decode cX12_takeJunctions 17 = .ok (.ireturn, 1) := by decide +kernel
theorem dX12_isCutAlready_0 : decode cX12_isCutAlready 0 = .ok (.aload_n 0, 1) := by decide +kernel
theorem dX12_isCutAlready_1 : decode cX12_isCutAlready 1 = .ok (.getfield 38, 3) := by decide +kernel
theorem dX12_isCutAlready_4 : decode cX12_isCutAlready 4 = .ok (.iload_n 1, 1) := by decide +kernel
theorem dX12_isCutAlready_5 : decode cX12_isCutAlready 5 = .ok (.iaload, 1) := by decide +kernel
theorem dX12_isCutAlready_6 : decode cX12_isCutAlready 6 = .ok (.aload_n 0, 1) := by decide +kernel
theorem dX12_isCutAlready_7 : decode cX12_isCutAlready 7 = .ok (.getfield 41, 3) := by decide +kernel
theorem dX12_isCutAlready_10 : decode cX12_isCutAlready 10 = .ok (.iload_n 1, 1) := by decide +kernel
theorem dX12_isCutAlready_11 : decode cX12_isCutAlready 11 = .ok (.iaload, 1) := by decide +kernel
theorem dX12_isCutAlready_12 : decode cX12_isCutAlready 12 = .ok (.if_icmp .ne 7, 3) := by decide +kernel
theorem dX12_isCutAlready_15 : decode cX12_isCutAlready 15 = .ok (.iconst 1, 1) := by decide +kernel
theorem dX12_isCutAlready_16 : decode cX12_isCutAlready 16 = .ok (.goto 4, 3) := by decide +kernel
theorem dX12_isCutAlready_19 : decode cX12_isCutAlready 19 = .ok (.iconst 0, 1) := by decide +kernel
theorem dX12_isCutAlready_20 : decode cX12_isCutAlready 20 = .ok (.istore_n 2, 1) := by decide +kernel
theorem dX12_isCutAlready_21 : decode cX12_isCutAlready 21 = .ok (.iconst 0, 1) := by decide +kernel
theorem dX12_isCutAlready_22 : decode cX12_isCutAlready 22 = .ok (.istore_n 3, 1) := by decide +kernel
theorem dX12_isCutAlready_23 : decode cX12_isCutAlready 23 = .ok (.iload_n 3, 1) := by decide +kernel
theorem dX12_isCutAlready_24 : decode cX12_isCutAlready 24 = .ok (.iload_n 1, 1) := by decide +kernel
theorem dX12_isCutAlready_25 : decode cX12_isCutAlready 25 = .ok (.if_icmp .ge 103, 3) := by decide +kernel
theorem dX12_isCutAlready_28 : decode cX12_isCutAlready 28 = .ok (.aload_n 0, 1) := by decide +kernel
theorem dX12_isCutAlready_29 : decode cX12_isCutAlready 29 = .ok (.getfield 38, 3) := by decide +kernel
theorem dX12_isCutAlready_32 : decode cX12_isCutAlready 32 = .ok (.iload_n 3, 1) := by decide +kernel
theorem dX12_isCutAlready_33 : decode cX12_isCutAlready 33 = .ok (.iaload, 1) := by decide +kernel
theorem dX12_isCutAlready_34 : decode cX12_isCutAlready 34 = .ok (.aload_n 0, 1) := by decide +kernel
theorem dX12_isCutAlready_35 : decode cX12_isCutAlready 35 = .ok (.getfield 38, 3) := by decide +kernel
theorem dX12_isCutAlready_38 : decode cX12_isCutAlready 38 = .ok (.iload_n 1, 1) := by decide +kernel
theorem dX12_isCutAlready_39 : decode cX12_isCutAlready 39 = .ok (.iaload, 1) := by decide +kernel
theorem dX12_isCutAlready_40 : decode cX12_isCutAlready 40 = .ok (.if_icmp .ne 22, 3) := by decide +kernel
theorem dX12_isCutAlready_43 : decode cX12_isCutAlready 43 = .ok (.aload_n 0, 1) := by decide +kernel
theorem dX12_isCutAlready_44 : decode cX12_isCutAlready 44 = .ok (.getfield 41, 3) := by decide +kernel
theorem dX12_isCutAlready_47 : decode cX12_isCutAlready 47 = .ok (.iload_n 3, 1) := by decide +kernel
theorem dX12_isCutAlready_48 : decode cX12_isCutAlready 48 = .ok (.iaload, 1) := by decide +kernel
theorem dX12_isCutAlready_49 : decode cX12_isCutAlready 49 = .ok (.aload_n 0, 1) := by decide +kernel
theorem dX12_isCutAlready_50 : decode cX12_isCutAlready 50 = .ok (.getfield 41, 3) := by decide +kernel
theorem dX12_isCutAlready_53 : decode cX12_isCutAlready 53 = .ok (.iload_n 1, 1) := by decide +kernel
theorem dX12_isCutAlready_54 : decode cX12_isCutAlready 54 = .ok (.iaload, 1) := by decide +kernel
theorem dX12_isCutAlready_55 : decode cX12_isCutAlready 55 = .ok (.if_icmp .ne 7, 3) := by decide +kernel
theorem dX12_isCutAlready_58 : decode cX12_isCutAlready 58 = .ok (.iconst 1, 1) := by decide +kernel
theorem dX12_isCutAlready_59 : decode cX12_isCutAlready 59 = .ok (.goto 4, 3) := by decide +kernel
theorem dX12_isCutAlready_62 : decode cX12_isCutAlready 62 = .ok (.iconst 0, 1) := by decide +kernel
theorem dX12_isCutAlready_63 : decode cX12_isCutAlready 63 = .ok (.istore 4, 2) := by decide +kernel
theorem dX12_isCutAlready_65 : decode cX12_isCutAlready 65 = .ok (.aload_n 0, 1) := by decide +kernel
theorem dX12_isCutAlready_66 : decode cX12_isCutAlready 66 = .ok (.getfield 38, 3) := by decide +kernel
theorem dX12_isCutAlready_69 : decode cX12_isCutAlready 69 = .ok (.iload_n 3, 1) := by decide +kernel
theorem dX12_isCutAlready_70 : decode cX12_isCutAlready 70 = .ok (.iaload, 1) := by decide +kernel
theorem dX12_isCutAlready_71 : decode cX12_isCutAlready 71 = .ok (.aload_n 0, 1) := by decide +kernel
theorem dX12_isCutAlready_72 : decode cX12_isCutAlready 72 = .ok (.getfield 41, 3) := by decide +kernel
theorem dX12_isCutAlready_75 : decode cX12_isCutAlready 75 = .ok (.iload_n 1, 1) := by decide +kernel
theorem dX12_isCutAlready_76 : decode cX12_isCutAlready 76 = .ok (.iaload, 1) := by decide +kernel
theorem dX12_isCutAlready_77 : decode cX12_isCutAlready 77 = .ok (.if_icmp .ne 22, 3) := by decide +kernel
theorem dX12_isCutAlready_80 : decode cX12_isCutAlready 80 = .ok (.aload_n 0, 1) := by decide +kernel
theorem dX12_isCutAlready_81 : decode cX12_isCutAlready 81 = .ok (.getfield 41, 3) := by decide +kernel
theorem dX12_isCutAlready_84 : decode cX12_isCutAlready 84 = .ok (.iload_n 3, 1) := by decide +kernel
theorem dX12_isCutAlready_85 : decode cX12_isCutAlready 85 = .ok (.iaload, 1) := by decide +kernel
theorem dX12_isCutAlready_86 : decode cX12_isCutAlready 86 = .ok (.aload_n 0, 1) := by decide +kernel
theorem dX12_isCutAlready_87 : decode cX12_isCutAlready 87 = .ok (.getfield 38, 3) := by decide +kernel
theorem dX12_isCutAlready_90 : decode cX12_isCutAlready 90 = .ok (.iload_n 1, 1) := by decide +kernel
theorem dX12_isCutAlready_91 : decode cX12_isCutAlready 91 = .ok (.iaload, 1) := by decide +kernel
theorem dX12_isCutAlready_92 : decode cX12_isCutAlready 92 = .ok (.if_icmp .ne 7, 3) := by decide +kernel
theorem dX12_isCutAlready_95 : decode cX12_isCutAlready 95 = .ok (.iconst 1, 1) := by decide +kernel
theorem dX12_isCutAlready_96 : decode cX12_isCutAlready 96 = .ok (.goto 4, 3) := by decide +kernel
theorem dX12_isCutAlready_99 : decode cX12_isCutAlready 99 = .ok (.iconst 0, 1) := by decide +kernel
theorem dX12_isCutAlready_100 : decode cX12_isCutAlready 100 = .ok (.istore 5, 2) := by decide +kernel
theorem dX12_isCutAlready_102 : decode cX12_isCutAlready 102 = .ok (.iload_n 2, 1) := by decide +kernel
theorem dX12_isCutAlready_103 : decode cX12_isCutAlready 103 = .ok (.ifCond .ne 13, 3) := by decide +kernel
theorem dX12_isCutAlready_106 : decode cX12_isCutAlready 106 = .ok (.iload 4, 2) := by decide +kernel
theorem dX12_isCutAlready_108 : decode cX12_isCutAlready 108 = .ok (.ifCond .ne 8, 3) := by decide +kernel
theorem dX12_isCutAlready_111 : decode cX12_isCutAlready 111 = .ok (.iload 5, 2) := by decide +kernel
theorem dX12_isCutAlready_113 : decode cX12_isCutAlready 113 = .ok (.ifCond .eq 7, 3) := by decide +kernel
theorem dX12_isCutAlready_116 : decode cX12_isCutAlready 116 = .ok (.iconst 1, 1) := by decide +kernel
theorem dX12_isCutAlready_117 : decode cX12_isCutAlready 117 = .ok (.goto 4, 3) := by decide +kernel
theorem dX12_isCutAlready_120 : decode cX12_isCutAlready 120 = .ok (.iconst 0, 1) := by decide +kernel
theorem dX12_isCutAlready_121 : decode cX12_isCutAlready 121 = .ok (.istore_n 2, 1) := by decide +kernel
theorem dX12_isCutAlready_122 : decode cX12_isCutAlready 122 = .ok (.iinc 3 1, 3) := by decide +kernel
theorem dX12_isCutAlready_125 : decode cX12_isCutAlready 125 = .ok (.goto (-102), 3) := by decide +kernel
theorem dX12_isCutAlready_128 : decode cX12_isCutAlready 128 = .ok (.iload_n 2, 1) := by decide +kernel
theorem dX12_isCutAlready_129 : decode cX12_isCutAlready 129 = .ok (.ireturn, 1) := by decide +kernel
theorem dX12_takeCut_0 : decode cX12_takeCut 0 = .ok (.aload_n 0, 1) := by decide +kernel
theorem dX12_takeCut_1 : decode cX12_takeCut 1 = .ok (.getfield 137, 3) := by decide +kernel
theorem dX12_takeCut_4 : decode cX12_takeCut 4 = .ok (.istore_n 1, 1) := by decide +kernel
theorem dX12_takeCut_5 : decode cX12_takeCut 5 = .ok (.aload_n 0, 1) := by decide +kernel
theorem dX12_takeCut_6 : decode cX12_takeCut 6 = .ok (.dup, 1) := by decide +kernel
theorem dX12_takeCut_7 : decode cX12_takeCut 7 = .ok (.getfield 137, 3) := by decide +kernel
theorem dX12_takeCut_10 : decode cX12_takeCut 10 = .ok (.iconst 1, 1) := by decide +kernel
theorem dX12_takeCut_11 : decode cX12_takeCut 11 = .ok (.iadd, 1) := by decide +kernel
theorem dX12_takeCut_12 : decode cX12_takeCut 12 = .ok (.putfield 137, 3) := by decide +kernel
theorem dX12_takeCut_15 : decode cX12_takeCut 15 = .ok (.aload_n 0, 1) := by decide +kernel
theorem dX12_takeCut_16 : decode cX12_takeCut 16 = .ok (.aload_n 0, 1) := by decide +kernel
theorem dX12_takeCut_17 : decode cX12_takeCut 17 = .ok (.getfield 38, 3) := by decide +kernel
theorem dX12_takeCut_20 : decode cX12_takeCut 20 = .ok (.iload_n 1, 1) := by decide +kernel
theorem dX12_takeCut_21 : decode cX12_takeCut 21 = .ok (.iconst 0, 1) := by decide +kernel
theorem dX12_takeCut_22 : decode cX12_takeCut 22 = .ok (.aload_n 0, 1) := by decide +kernel
theorem dX12_takeCut_23 : decode cX12_takeCut 23 = .ok (.getfield 134, 3) := by decide +kernel
theorem dX12_takeCut_26 : decode cX12_takeCut 26 = .ok (.iconst 1, 1) := by decide +kernel
theorem dX12_takeCut_27 : decode cX12_takeCut 27 = .ok (.isub, 1) := by decide +kernel
theorem dX12_takeCut_28 : decode cX12_takeCut 28 = .ok (.invokevirtual 140, 3) := by decide +kernel
theorem dX12_takeCut_31 : decode cX12_takeCut 31 = .ok (.istore_n 2, 1) := by decide +kernel
theorem dX12_takeCut_32 : decode cX12_takeCut 32 = .ok (.iload_n 2, 1) := by decide +kernel
theorem dX12_takeCut_33 : decode cX12_takeCut 33 = .ok (.ifCond .le 7, 3) := by decide +kernel
theorem dX12_takeCut_36 : decode cX12_takeCut 36 = .ok (.iload_n 2, 1) := by decide +kernel
theorem dX12_takeCut_37 : decode cX12_takeCut 37 = .ok (.goto 19, 3) := by decide +kernel
theorem dX12_takeCut_40 : decode cX12_takeCut 40 = .ok (.aload_n 0, 1) := by decide +kernel
theorem dX12_takeCut_41 : decode cX12_takeCut 41 = .ok (.aload_n 0, 1) := by decide +kernel
theorem dX12_takeCut_42 : decode cX12_takeCut 42 = .ok (.getfield 41, 3) := by decide +kernel
theorem dX12_takeCut_45 : decode cX12_takeCut 45 = .ok (.iload_n 1, 1) := by decide +kernel
theorem dX12_takeCut_46 : decode cX12_takeCut 46 = .ok (.iconst 0, 1) := by decide +kernel
theorem dX12_takeCut_47 : decode cX12_takeCut 47 = .ok (.aload_n 0, 1) := by decide +kernel
theorem dX12_takeCut_48 : decode cX12_takeCut 48 = .ok (.getfield 134, 3) := by decide +kernel
theorem dX12_takeCut_51 : decode cX12_takeCut 51 = .ok (.iconst 1, 1) := by decide +kernel
theorem dX12_takeCut_52 : decode cX12_takeCut 52 = .ok (.isub, 1) := by decide +kernel
theorem dX12_takeCut_53 : decode cX12_takeCut 53 = .ok (.invokevirtual 140, 3) := by decide +kernel
theorem dX12_takeCut_56 : decode cX12_takeCut 56 = .ok (.istore_n 2, 1) := by decide +kernel
theorem dX12_takeCut_57 : decode cX12_takeCut 57 = .ok (.iload_n 2, 1) := by decide +kernel
theorem dX12_takeCut_58 : decode cX12_takeCut 58 = .ok (.ifCond .ne 21, 3) := by decide +kernel
theorem dX12_takeCut_61 : decode cX12_takeCut 61 = .ok (.aload_n 0, 1) := by decide +kernel
theorem dX12_takeCut_62 : decode cX12_takeCut 62 = .ok (.iload_n 1, 1) := by decide +kernel
theorem dX12_takeCut_63 : decode cX12_takeCut 63 = .ok (.invokevirtual 144, 3) := by decide +kernel
theorem dX12_takeCut_66 : decode cX12_takeCut 66 = .ok (.ifCond .eq 13, 3) := by decide +kernel
theorem dX12_takeCut_69 : decode cX12_takeCut 69 = .ok (.aload_n 0, 1) := by decide +kernel
theorem dX12_takeCut_70 : decode cX12_takeCut 70 = .ok (.iconst 4, 1) := by decide +kernel
theorem dX12_takeCut_71 : decode cX12_takeCut 71 = .ok (.aload_n 0, 1) := by decide +kernel
theorem dX12_takeCut_72 : decode cX12_takeCut 72 = .ok (.getfield 125, 3) := by decide +kernel
theorem dX12_takeCut_75 : decode cX12_takeCut 75 = .ok (.invokevirtual 121, 3) := by decide +kernel
theorem dX12_takeCut_78 : decode cX12_takeCut 78 = .ok (.ireturn, 1) := by decide +kernel
theorem dX12_takeCut_79 : decode cX12_takeCut 79 = .ok (.iload_n 2, 1) := by decide +kernel
theorem dX12_takeCut_80 : decode cX12_takeCut 80 = .ok (.ifCond .le 7, 3) := by decide +kernel
theorem dX12_takeCut_83 : decode cX12_takeCut 83 = .ok (.iload_n 2, 1) := by decide +kernel
theorem dX12_takeCut_84 : decode cX12_takeCut 84 = .ok (.goto 15, 3) := by decide +kernel
theorem dX12_takeCut_87 : decode cX12_takeCut 87 = .ok (.aload_n 0, 1) := by decide +kernel
theorem dX12_takeCut_88 : decode cX12_takeCut 88 = .ok (.aload_n 0, 1) := by decide +kernel
theorem dX12_takeCut_89 : decode cX12_takeCut 89 = .ok (.getfield 44, 3) := by decide +kernel
theorem dX12_takeCut_92 : decode cX12_takeCut 92 = .ok (.iload_n 1, 1) := by decide +kernel
theorem dX12_takeCut_93 : decode cX12_takeCut 93 = .ok (.iconst 0, 1) := by decide +kernel
theorem dX12_takeCut_94 : decode cX12_takeCut 94 = .ok (.bipush 99, 2) := by decide +kernel
theorem dX12_takeCut_96 : decode cX12_takeCut 96 = .ok (.invokevirtual 140, 3) := by decide +kernel
theorem dX12_takeCut_99 : decode cX12_takeCut 99 = .ok (.ireturn, 1) := by decide +kernel
theorem dX12_takeBoat_0 : decode cX12_takeBoat 0 = .ok (.aload_n 0, 1) := by decide +kernel
theorem dX12_takeBoat_1 : decode cX12_takeBoat 1 = .ok (.getfield 148, 3) := by decide +kernel
theorem dX12_takeBoat_4 : decode cX12_takeBoat 4 = .ok (.istore_n 1, 1) := by decide +kernel
theorem dX12_takeBoat_5 : decode cX12_takeBoat 5 = .ok (.aload_n 0, 1) := by decide +kernel
theorem dX12_takeBoat_6 : decode cX12_takeBoat 6 = .ok (.dup, 1) := by decide +kernel
theorem dX12_takeBoat_7 : decode cX12_takeBoat 7 = .ok (.getfield 148, 3) := by decide +kernel
theorem dX12_takeBoat_10 : decode cX12_takeBoat 10 = .ok (.iconst 1, 1) := by decide +kernel
theorem dX12_takeBoat_11 : decode cX12_takeBoat 11 = .ok (.iadd, 1) := by decide +kernel
theorem dX12_takeBoat_12 : decode cX12_takeBoat 12 = .ok (.putfield 148, 3) := by decide +kernel
theorem dX12_takeBoat_15 : decode cX12_takeBoat 15 = .ok (.aload_n 0, 1) := by decide +kernel
theorem dX12_takeBoat_16 : decode cX12_takeBoat 16 = .ok (.aload_n 0, 1) := by decide +kernel
theorem dX12_takeBoat_17 : decode cX12_takeBoat 17 = .ok (.getfield 47, 3) := by decide +kernel
theorem dX12_takeBoat_20 : decode cX12_takeBoat 20 = .ok (.iload_n 1, 1) := by decide +kernel
theorem dX12_takeBoat_21 : decode cX12_takeBoat 21 = .ok (.iconst 0, 1) := by decide +kernel
theorem dX12_takeBoat_22 : decode cX12_takeBoat 22 = .ok (.aload_n 0, 1) := by decide +kernel
theorem dX12_takeBoat_23 : decode cX12_takeBoat 23 = .ok (.getfield 134, 3) := by decide +kernel
theorem dX12_takeBoat_26 : decode cX12_takeBoat 26 = .ok (.iconst 1, 1) := by decide +kernel
theorem dX12_takeBoat_27 : decode cX12_takeBoat 27 = .ok (.isub, 1) := by decide +kernel
theorem dX12_takeBoat_28 : decode cX12_takeBoat 28 = .ok (.invokevirtual 140, 3) := by decide +kernel
theorem dX12_takeBoat_31 : decode cX12_takeBoat 31 = .ok (.istore_n 2, 1) := by decide +kernel
theorem dX12_takeBoat_32 : decode cX12_takeBoat 32 = .ok (.iload_n 2, 1) := by decide +kernel
theorem dX12_takeBoat_33 : decode cX12_takeBoat 33 = .ok (.ifCond .le 7, 3) := by decide +kernel
theorem dX12_takeBoat_36 : decode cX12_takeBoat 36 = .ok (.iload_n 2, 1) := by decide +kernel
theorem dX12_takeBoat_37 : decode cX12_takeBoat 37 = .ok (.goto 16, 3) := by decide +kernel
theorem dX12_takeBoat_40 : decode cX12_takeBoat 40 = .ok (.aload_n 0, 1) := by decide +kernel
theorem dX12_takeBoat_41 : decode cX12_takeBoat 41 = .ok (.aload_n 0, 1) := by decide +kernel
theorem dX12_takeBoat_42 : decode cX12_takeBoat 42 = .ok (.getfield 50, 3) := by decide +kernel
theorem dX12_takeBoat_45 : decode cX12_takeBoat 45 = .ok (.iload_n 1, 1) := by decide +kernel
theorem dX12_takeBoat_46 : decode cX12_takeBoat 46 = .ok (.iconst 0, 1) := by decide +kernel
theorem dX12_takeBoat_47 : decode cX12_takeBoat 47 = .ok (.sipush 999, 3) := by decide +kernel
theorem dX12_takeBoat_50 : decode cX12_takeBoat 50 = .ok (.invokevirtual 140, 3) := by decide +kernel
theorem dX12_takeBoat_53 : decode cX12_takeBoat 53 = .ok (.istore_n 2, 1) := by decide +kernel
theorem dX12_takeBoat_54 : decode cX12_takeBoat 54 = .ok (.iload_n 2, 1) := by decide +kernel
theorem dX12_takeBoat_55 : decode cX12_takeBoat 55 = .ok (.ifCond .le 7, 3) := by decide +kernel
theorem dX12_takeBoat_58 : decode cX12_takeBoat 58 = .ok (.iload_n 2, 1) := by decide +kernel
theorem dX12_takeBoat_59 : decode cX12_takeBoat 59 = .ok (.goto 15, 3) := by decide +kernel
theorem dX12_takeBoat_62 : decode cX12_takeBoat 62 = .ok (.aload_n 0, 1) := by decide +kernel
theorem dX12_takeBoat_63 : decode cX12_takeBoat 63 = .ok (.aload_n 0, 1) := by decide +kernel
theorem dX12_takeBoat_64 : decode cX12_takeBoat 64 = .ok (.getfield 53, 3) := by decide +kernel
theorem dX12_takeBoat_67 : decode cX12_takeBoat 67 = .ok (.iload_n 1, 1) := by decide +kernel
theorem dX12_takeBoat_68 : decode cX12_takeBoat 68 = .ok (.iconst 0, 1) := by decide +kernel
theorem dX12_takeBoat_69 : decode cX12_takeBoat 69 = .ok (.bipush 99, 2) := by decide +kernel
theorem dX12_takeBoat_71 : decode cX12_takeBoat 71 = .ok (.invokevirtual 140, 3) := by decide +kernel
theorem dX12_takeBoat_74 : decode cX12_takeBoat 74 = .ok (.ireturn, 1) := by decide +kernel
theorem dX12_takeClause_0 : decode cX12_takeClause 0 = .ok (.aload_n 0, 1) := by decide +kernel
theorem dX12_takeClause_1 : decode cX12_takeClause 1 = .ok (.invokevirtual 113, 3) := by decide +kernel
theorem dX12_takeClause_4 : decode cX12_takeClause 4 = .ok (.istore_n 1, 1) := by decide +kernel
theorem dX12_takeClause_5 : decode cX12_takeClause 5 = .ok (.iload_n 1, 1) := by decide +kernel
theorem dX12_takeClause_6 : decode cX12_takeClause 6 = .ok (.bipush 106, 2) := by decide +kernel
theorem dX12_takeClause_8 : decode cX12_takeClause 8 = .ok (.if_icmp .ne 7, 3) := by decide +kernel
theorem dX12_takeClause_11 : decode cX12_takeClause 11 = .ok (.iconst 0, 1) := by decide +kernel
theorem dX12_takeClause_12 : decode cX12_takeClause 12 = .ok (.goto 24, 3) := by decide +kernel
theorem dX12_takeClause_15 : decode cX12_takeClause 15 = .ok (.iload_n 1, 1) := by decide +kernel
theorem dX12_takeClause_16 : decode cX12_takeClause 16 = .ok (.bipush 99, 2) := by decide +kernel
theorem dX12_takeClause_18 : decode cX12_takeClause 18 = .ok (.if_icmp .ne 7, 3) := by decide +kernel
theorem dX12_takeClause_21 : decode cX12_takeClause 21 = .ok (.iconst 1, 1) := by decide +kernel
theorem dX12_takeClause_22 : decode cX12_takeClause 22 = .ok (.goto 14, 3) := by decide +kernel
theorem dX12_takeClause_25 : decode cX12_takeClause 25 = .ok (.iload_n 1, 1) := by decide +kernel
theorem dX12_takeClause_26 : decode cX12_takeClause 26 = .ok (.bipush 98, 2) := by decide +kernel
theorem dX12_takeClause_28 : decode cX12_takeClause 28 = .ok (.if_icmp .ne 7, 3) := by decide +kernel
theorem dX12_takeClause_31 : decode cX12_takeClause 31 = .ok (.iconst 2, 1) := by decide +kernel
theorem dX12_takeClause_32 : decode cX12_takeClause 32 = .ok (.goto 4, 3) := by decide +kernel
theorem dX12_takeClause_35 : decode cX12_takeClause 35 = .ok (.iconst (-1), 1) := by decide +kernel
theorem dX12_takeClause_36 : decode cX12_takeClause 36 = .ok (.istore_n 2, 1) := by decide +kernel
theorem dX12_takeClause_37 : decode cX12_takeClause 37 = .ok (.iload_n 2, 1) := by decide +kernel
theorem dX12_takeClause_38 : decode cX12_takeClause 38 = .ok (.ifCond .lt 14, 3) := by decide +kernel
theorem dX12_takeClause_41 : decode cX12_takeClause 41 = .ok (.iload_n 2, 1) := by decide +kernel
theorem dX12_takeClause_42 : decode cX12_takeClause 42 = .ok (.ifCond .le 20, 3) := by decide +kernel
theorem dX12_takeClause_45 : decode cX12_takeClause 45 = .ok (.aload_n 0, 1) := by decide +kernel
theorem dX12_takeClause_46 : decode cX12_takeClause 46 = .ok (.getfield 134, 3) := by decide +kernel
theorem dX12_takeClause_49 : decode cX12_takeClause 49 = .ok (.ifCond .ne 13, 3) := by decide +kernel
theorem dX12_takeClause_52 : decode cX12_takeClause 52 = .ok (.aload_n 0, 1) := by decide +kernel
theorem dX12_takeClause_53 : decode cX12_takeClause 53 = .ok (.iconst 1, 1) := by decide +kernel
theorem dX12_takeClause_54 : decode cX12_takeClause 54 = .ok (.aload_n 0, 1) := by decide +kernel
theorem dX12_takeClause_55 : decode cX12_takeClause 55 = .ok (.getfield 110, 3) := by decide +kernel
theorem dX12_takeClause_58 : decode cX12_takeClause 58 = .ok (.invokevirtual 121, 3) := by decide +kernel
theorem dX12_takeClause_61 : decode cX12_takeClause 61 = .ok (.ireturn, 1) := by decide +kernel
theorem dX12_takeClause_62 : decode cX12_takeClause 62 = .ok (.iload_n 2, 1) := by decide +kernel
theorem dX12_takeClause_63 : decode cX12_takeClause 63 = .ok (.ifCond .ne 18, 3) := by decide +kernel
theorem dX12_takeClause_66 : decode cX12_takeClause 66 = .ok (.aload_n 0, 1) := by decide +kernel
theorem dX12_takeClause_67 : decode cX12_takeClause 67 = .ok (.getfield 134, 3) := by decide +kernel
theorem dX12_takeClause_70 : decode cX12_takeClause 70 = .ok (.ifCond .le 7, 3) := by decide +kernel
theorem dX12_takeClause_73 : decode cX12_takeClause 73 = .ok (.iconst 1, 1) := by decide +kernel
theorem dX12_takeClause_74 : decode cX12_takeClause 74 = .ok (.goto 42, 3) := by decide +kernel
theorem dX12_takeClause_77 : decode cX12_takeClause 77 = .ok (.iconst 0, 1) := by decide +kernel
theorem dX12_takeClause_78 : decode cX12_takeClause 78 = .ok (.goto 38, 3) := by decide +kernel
theorem dX12_takeClause_81 : decode cX12_takeClause 81 = .ok (.iload_n 2, 1) := by decide +kernel
theorem dX12_takeClause_82 : decode cX12_takeClause 82 = .ok (.iconst 1, 1) := by decide +kernel
theorem dX12_takeClause_83 : decode cX12_takeClause 83 = .ok (.if_icmp .ne 20, 3) := by decide +kernel
theorem dX12_takeClause_86 : decode cX12_takeClause 86 = .ok (.aload_n 0, 1) := by decide +kernel
theorem dX12_takeClause_87 : decode cX12_takeClause 87 = .ok (.getfield 137, 3) := by decide +kernel
theorem dX12_takeClause_90 : decode cX12_takeClause 90 = .ok (.bipush 14, 2) := by decide +kernel
theorem dX12_takeClause_92 : decode cX12_takeClause 92 = .ok (.if_icmp .ne 7, 3) := by decide +kernel
theorem dX12_takeClause_95 : decode cX12_takeClause 95 = .ok (.iconst 1, 1) := by decide +kernel
theorem dX12_takeClause_96 : decode cX12_takeClause 96 = .ok (.goto 20, 3) := by decide +kernel
theorem dX12_takeClause_99 : decode cX12_takeClause 99 = .ok (.iconst 0, 1) := by decide +kernel
theorem dX12_takeClause_100 : decode cX12_takeClause 100 = .ok (.goto 16, 3) := by decide +kernel
theorem dX12_takeClause_103 : decode cX12_takeClause 103 = .ok (.aload_n 0, 1) := by decide +kernel
theorem dX12_takeClause_104 : decode cX12_takeClause 104 = .ok (.getfield 148, 3) := by decide +kernel
theorem dX12_takeClause_107 : decode cX12_takeClause 107 = .ok (.iconst 5, 1) := by decide +kernel
theorem dX12_takeClause_108 : decode cX12_takeClause 108 = .ok (.if_icmp .ne 7, 3) := by decide +kernel
theorem dX12_takeClause_111 : decode cX12_takeClause 111 = .ok (.iconst 1, 1) := by decide +kernel
theorem dX12_takeClause_112 : decode cX12_takeClause 112 = .ok (.goto 4, 3) := by decide +kernel
theorem dX12_takeClause_115 : decode cX12_takeClause 115 = .ok (.iconst 0, 1) := by decide +kernel
theorem dX12_takeClause_116 : decode cX12_takeClause 116 = .ok (.istore_n 3, 1) := by decide +kernel
theorem dX12_takeClause_117 : decode cX12_takeClause 117 = .ok (.iload_n 3, 1) := by decide +kernel
theorem dX12_takeClause_118 : decode cX12_takeClause 118 = .ok (.ifCond .eq 13, 3) := by decide +kernel
theorem dX12_takeClause_121 : decode cX12_takeClause 121 = .ok (.aload_n 0, 1) := by decide +kernel
theorem dX12_takeClause_122 : decode cX12_takeClause 122 = .ok (.iconst 3, 1) := by decide +kernel
theorem dX12_takeClause_123 : decode cX12_takeClause 123 = .ok (.aload_n 0, 1) := by decide +kernel
theorem dX12_takeClause_124 : decode cX12_takeClause 124 = .ok (.getfield 110, 3) := by decide +kernel
theorem dX12_takeClause_127 : decode cX12_takeClause 127 = .ok (.invokevirtual 121, 3) := by decide +kernel
theorem dX12_takeClause_130 : decode cX12_takeClause 130 = .ok (.ireturn, 1) := by decide +kernel
theorem dX12_takeClause_131 : decode cX12_takeClause 131 = .ok (.aload_n 0, 1) := by decide +kernel
theorem dX12_takeClause_132 : decode cX12_takeClause 132 = .ok (.dup, 1) := by decide +kernel
theorem dX12_takeClause_133 : decode cX12_takeClause 133 = .ok (.getfield 110, 3) := by decide +kernel
theorem dX12_takeClause_136 : decode cX12_takeClause 136 = .ok (.iconst 1, 1) := by decide +kernel
theorem dX12_takeClause_137 : decode cX12_takeClause 137 = .ok (.iadd, 1) := by decide +kernel
theorem dX12_takeClause_138 : decode cX12_takeClause 138 = .ok (.putfield 110, 3) := by decide +kernel
theorem dX12_takeClause_141 : decode cX12_takeClause 141 = .ok (.iload_n 2, 1) := by decide +kernel
theorem dX12_takeClause_142 : decode cX12_takeClause 142 = .ok (.ifCond .ne 10, 3) := by decide +kernel
theorem dX12_takeClause_145 : decode cX12_takeClause 145 = .ok (.aload_n 0, 1) := by decide +kernel
theorem dX12_takeClause_146 : decode cX12_takeClause 146 = .ok (.invokevirtual 151, 3) := by decide +kernel
theorem dX12_takeClause_149 : decode cX12_takeClause 149 = .ok (.goto 19, 3) := by decide +kernel
theorem dX12_takeClause_152 : decode cX12_takeClause 152 = .ok (.iload_n 2, 1) := by decide +kernel
theorem dX12_takeClause_153 : decode cX12_takeClause 153 = .ok (.iconst 1, 1) := by decide +kernel
theorem dX12_takeClause_154 : decode cX12_takeClause 154 = .ok (.if_icmp .ne 10, 3) := by decide +kernel
theorem dX12_takeClause_157 : decode cX12_takeClause 157 = .ok (.aload_n 0, 1) := by decide +kernel
theorem dX12_takeClause_158 : decode cX12_takeClause 158 = .ok (.invokevirtual 154, 3) := by decide +kernel
theorem dX12_takeClause_161 : decode cX12_takeClause 161 = .ok (.goto 7, 3) := by decide +kernel
theorem dX12_takeClause_164 : decode cX12_takeClause 164 = .ok (.aload_n 0, 1) := by decide +kernel
theorem dX12_takeClause_165 : decode cX12_takeClause 165 = .ok (.invokevirtual 157, 3) := by decide +kernel
theorem dX12_takeClause_168 : decode cX12_takeClause 168 = .ok (.istore 4, 2) := by decide +kernel
theorem dX12_takeClause_170 : decode cX12_takeClause 170 = .ok (.iload 4, 2) := by decide +kernel
theorem dX12_takeClause_172 : decode cX12_takeClause 172 = .ok (.ifCond .ne 22, 3) := by decide +kernel
theorem dX12_takeClause_175 : decode cX12_takeClause 175 = .ok (.aload_n 0, 1) := by decide +kernel
theorem dX12_takeClause_176 : decode cX12_takeClause 176 = .ok (.invokevirtual 113, 3) := by decide +kernel
theorem dX12_takeClause_179 : decode cX12_takeClause 179 = .ok (.bipush 59, 2) := by decide +kernel
theorem dX12_takeClause_181 : decode cX12_takeClause 181 = .ok (.if_icmp .eq 13, 3) := by decide +kernel
theorem dX12_takeClause_184 : decode cX12_takeClause 184 = .ok (.aload_n 0, 1) := by decide +kernel
theorem dX12_takeClause_185 : decode cX12_takeClause 185 = .ok (.iconst 1, 1) := by decide +kernel
theorem dX12_takeClause_186 : decode cX12_takeClause 186 = .ok (.aload_n 0, 1) := by decide +kernel
theorem dX12_takeClause_187 : decode cX12_takeClause 187 = .ok (.getfield 110, 3) := by decide +kernel
theorem dX12_takeClause_190 : decode cX12_takeClause 190 = .ok (.invokevirtual 121, 3) := by decide +kernel
theorem dX12_takeClause_193 : decode cX12_takeClause 193 = .ok (.ireturn, 1) := by decide +kernel
theorem dX12_takeClause_194 : decode cX12_takeClause 194 = .ok (.aload_n 0, 1) := by decide +kernel
theorem dX12_takeClause_195 : decode cX12_takeClause 195 = .ok (.dup, 1) := by decide +kernel
theorem dX12_takeClause_196 : decode cX12_takeClause 196 = .ok (.getfield 110, 3) := by decide +kernel
theorem dX12_takeClause_199 : decode cX12_takeClause 199 = .ok (.iconst 1, 1) := by decide +kernel
theorem dX12_takeClause_200 : decode cX12_takeClause 200 = .ok (.iadd, 1) := by decide +kernel
theorem dX12_takeClause_201 : decode cX12_takeClause 201 = .ok (.putfield 110, 3) := by decide +kernel
theorem dX12_takeClause_204 : decode cX12_takeClause 204 = .ok (.iload 4, 2) := by decide +kernel
theorem dX12_takeClause_206 : decode cX12_takeClause 206 = .ok (.ireturn, 1) := by decide +kernel
theorem dX12_takeRead_0 : decode cX12_takeRead 0 = .ok (.aload_n 0, 1) := by decide +kernel
theorem dX12_takeRead_1 : decode cX12_takeRead 1 = .ok (.aload_n 0, 1) := by decide +kernel
theorem dX12_takeRead_2 : decode cX12_takeRead 2 = .ok (.getfield 134, 3) := by decide +kernel
theorem dX12_takeRead_5 : decode cX12_takeRead 5 = .ok (.putfield 93, 3) := by decide +kernel
theorem dX12_takeRead_8 : decode cX12_takeRead 8 = .ok (.aload_n 0, 1) := by decide +kernel
theorem dX12_takeRead_9 : decode cX12_takeRead 9 = .ok (.aload_n 0, 1) := by decide +kernel
theorem dX12_takeRead_10 : decode cX12_takeRead 10 = .ok (.getfield 137, 3) := by decide +kernel
theorem dX12_takeRead_13 : decode cX12_takeRead 13 = .ok (.putfield 160, 3) := by decide +kernel
theorem dX12_takeRead_16 : decode cX12_takeRead 16 = .ok (.aload_n 0, 1) := by decide +kernel
theorem dX12_takeRead_17 : decode cX12_takeRead 17 = .ok (.aload_n 0, 1) := by decide +kernel
theorem dX12_takeRead_18 : decode cX12_takeRead 18 = .ok (.getfield 148, 3) := by decide +kernel
theorem dX12_takeRead_21 : decode cX12_takeRead 21 = .ok (.putfield 100, 3) := by decide +kernel
theorem dX12_takeRead_24 : decode cX12_takeRead 24 = .ok (.iconst 0, 1) := by decide +kernel
theorem dX12_takeRead_25 : decode cX12_takeRead 25 = .ok (.istore_n 1, 1) := by decide +kernel
theorem dX12_takeRead_26 : decode cX12_takeRead 26 = .ok (.iload_n 1, 1) := by decide +kernel
theorem dX12_takeRead_27 : decode cX12_takeRead 27 = .ok (.bipush 81, 2) := by decide +kernel
theorem dX12_takeRead_29 : decode cX12_takeRead 29 = .ok (.if_icmp .ge 16, 3) := by decide +kernel
theorem dX12_takeRead_32 : decode cX12_takeRead 32 = .ok (.aload_n 0, 1) := by decide +kernel
theorem dX12_takeRead_33 : decode cX12_takeRead 33 = .ok (.getfield 19, 3) := by decide +kernel
theorem dX12_takeRead_36 : decode cX12_takeRead 36 = .ok (.iload_n 1, 1) := by decide +kernel
theorem dX12_takeRead_37 : decode cX12_takeRead 37 = .ok (.iconst (-1), 1) := by decide +kernel
theorem dX12_takeRead_38 : decode cX12_takeRead 38 = .ok (.iastore, 1) := by decide +kernel
theorem dX12_takeRead_39 : decode cX12_takeRead 39 = .ok (.iinc 1 1, 3) := by decide +kernel
theorem dX12_takeRead_42 : decode cX12_takeRead 42 = .ok (.goto (-16), 3) := by decide +kernel
theorem dX12_takeRead_45 : decode cX12_takeRead 45 = .ok (.iconst 0, 1) := by decide +kernel
theorem dX12_takeRead_46 : decode cX12_takeRead 46 = .ok (.istore_n 1, 1) := by decide +kernel
theorem dX12_takeRead_47 : decode cX12_takeRead 47 = .ok (.iload_n 1, 1) := by decide +kernel
theorem dX12_takeRead_48 : decode cX12_takeRead 48 = .ok (.aload_n 0, 1) := by decide +kernel
theorem dX12_takeRead_49 : decode cX12_takeRead 49 = .ok (.getfield 160, 3) := by decide +kernel
theorem dX12_takeRead_52 : decode cX12_takeRead 52 = .ok (.if_icmp .ge 99, 3) := by decide +kernel
theorem dX12_takeRead_55 : decode cX12_takeRead 55 = .ok (.aload_n 0, 1) := by decide +kernel
theorem dX12_takeRead_56 : decode cX12_takeRead 56 = .ok (.getfield 7, 3) := by decide +kernel
theorem dX12_takeRead_59 : decode cX12_takeRead 59 = .ok (.iload_n 1, 1) := by decide +kernel
theorem dX12_takeRead_60 : decode cX12_takeRead 60 = .ok (.aload_n 0, 1) := by decide +kernel
theorem dX12_takeRead_61 : decode cX12_takeRead 61 = .ok (.getfield 38, 3) := by decide +kernel
theorem dX12_takeRead_64 : decode cX12_takeRead 64 = .ok (.iload_n 1, 1) := by decide +kernel
theorem dX12_takeRead_65 : decode cX12_takeRead 65 = .ok (.iaload, 1) := by decide +kernel
theorem dX12_takeRead_66 : decode cX12_takeRead 66 = .ok (.iastore, 1) := by decide +kernel
theorem dX12_takeRead_67 : decode cX12_takeRead 67 = .ok (.aload_n 0, 1) := by decide +kernel
theorem dX12_takeRead_68 : decode cX12_takeRead 68 = .ok (.getfield 13, 3) := by decide +kernel
theorem dX12_takeRead_71 : decode cX12_takeRead 71 = .ok (.iload_n 1, 1) := by decide +kernel
theorem dX12_takeRead_72 : decode cX12_takeRead 72 = .ok (.aload_n 0, 1) := by decide +kernel
theorem dX12_takeRead_73 : decode cX12_takeRead 73 = .ok (.getfield 41, 3) := by decide +kernel
theorem dX12_takeRead_76 : decode cX12_takeRead 76 = .ok (.iload_n 1, 1) := by decide +kernel
theorem dX12_takeRead_77 : decode cX12_takeRead 77 = .ok (.iaload, 1) := by decide +kernel
theorem dX12_takeRead_78 : decode cX12_takeRead 78 = .ok (.iastore, 1) := by decide +kernel
theorem dX12_takeRead_79 : decode cX12_takeRead 79 = .ok (.aload_n 0, 1) := by decide +kernel
theorem dX12_takeRead_80 : decode cX12_takeRead 80 = .ok (.getfield 16, 3) := by decide +kernel
theorem dX12_takeRead_83 : decode cX12_takeRead 83 = .ok (.iload_n 1, 1) := by decide +kernel
theorem dX12_takeRead_84 : decode cX12_takeRead 84 = .ok (.aload_n 0, 1) := by decide +kernel
theorem dX12_takeRead_85 : decode cX12_takeRead 85 = .ok (.getfield 44, 3) := by decide +kernel
theorem dX12_takeRead_88 : decode cX12_takeRead 88 = .ok (.iload_n 1, 1) := by decide +kernel
theorem dX12_takeRead_89 : decode cX12_takeRead 89 = .ok (.iaload, 1) := by decide +kernel
theorem dX12_takeRead_90 : decode cX12_takeRead 90 = .ok (.iastore, 1) := by decide +kernel
theorem dX12_takeRead_91 : decode cX12_takeRead 91 = .ok (.aload_n 0, 1) := by decide +kernel
theorem dX12_takeRead_92 : decode cX12_takeRead 92 = .ok (.getfield 19, 3) := by decide +kernel
theorem dX12_takeRead_95 : decode cX12_takeRead 95 = .ok (.bipush 9, 2) := by decide +kernel
theorem dX12_takeRead_97 : decode cX12_takeRead 97 = .ok (.aload_n 0, 1) := by decide +kernel
theorem dX12_takeRead_98 : decode cX12_takeRead 98 = .ok (.getfield 7, 3) := by decide +kernel
theorem dX12_takeRead_101 : decode cX12_takeRead 101 = .ok (.iload_n 1, 1) := by decide +kernel
theorem dX12_takeRead_102 : decode cX12_takeRead 102 = .ok (.iaload, 1) := by decide +kernel
theorem dX12_takeRead_103 : decode cX12_takeRead 103 = .ok (.imul, 1) := by decide +kernel
theorem dX12_takeRead_104 : decode cX12_takeRead 104 = .ok (.aload_n 0, 1) := by decide +kernel
theorem dX12_takeRead_105 : decode cX12_takeRead 105 = .ok (.getfield 13, 3) := by decide +kernel
theorem dX12_takeRead_108 : decode cX12_takeRead 108 = .ok (.iload_n 1, 1) := by decide +kernel
theorem dX12_takeRead_109 : decode cX12_takeRead 109 = .ok (.iaload, 1) := by decide +kernel
theorem dX12_takeRead_110 : decode cX12_takeRead 110 = .ok (.iadd, 1) := by decide +kernel
theorem dX12_takeRead_111 : decode cX12_takeRead 111 = .ok (.aload_n 0, 1) := by decide +kernel
theorem dX12_takeRead_112 : decode cX12_takeRead 112 = .ok (.getfield 16, 3) := by decide +kernel
theorem dX12_takeRead_115 : decode cX12_takeRead 115 = .ok (.iload_n 1, 1) := by decide +kernel
theorem dX12_takeRead_116 : decode cX12_takeRead 116 = .ok (.iaload, 1) := by decide +kernel
theorem dX12_takeRead_117 : decode cX12_takeRead 117 = .ok (.iastore, 1) := by decide +kernel
theorem dX12_takeRead_118 : decode cX12_takeRead 118 = .ok (.aload_n 0, 1) := by decide +kernel
theorem dX12_takeRead_119 : decode cX12_takeRead 119 = .ok (.getfield 19, 3) := by decide +kernel
theorem dX12_takeRead_122 : decode cX12_takeRead 122 = .ok (.bipush 9, 2) := by decide +kernel
theorem dX12_takeRead_124 : decode cX12_takeRead 124 = .ok (.aload_n 0, 1) := by decide +kernel
theorem dX12_takeRead_125 : decode cX12_takeRead 125 = .ok (.getfield 13, 3) := by decide +kernel
theorem dX12_takeRead_128 : decode cX12_takeRead 128 = .ok (.iload_n 1, 1) := by decide +kernel
theorem dX12_takeRead_129 : decode cX12_takeRead 129 = .ok (.iaload, 1) := by decide +kernel
theorem dX12_takeRead_130 : decode cX12_takeRead 130 = .ok (.imul, 1) := by decide +kernel
theorem dX12_takeRead_131 : decode cX12_takeRead 131 = .ok (.aload_n 0, 1) := by decide +kernel
theorem dX12_takeRead_132 : decode cX12_takeRead 132 = .ok (.getfield 7, 3) := by decide +kernel
theorem dX12_takeRead_135 : decode cX12_takeRead 135 = .ok (.iload_n 1, 1) := by decide +kernel
theorem dX12_takeRead_136 : decode cX12_takeRead 136 = .ok (.iaload, 1) := by decide +kernel
theorem dX12_takeRead_137 : decode cX12_takeRead 137 = .ok (.iadd, 1) := by decide +kernel
theorem dX12_takeRead_138 : decode cX12_takeRead 138 = .ok (.aload_n 0, 1) := by decide +kernel
theorem dX12_takeRead_139 : decode cX12_takeRead 139 = .ok (.getfield 16, 3) := by decide +kernel
theorem dX12_takeRead_142 : decode cX12_takeRead 142 = .ok (.iload_n 1, 1) := by decide +kernel
theorem dX12_takeRead_143 : decode cX12_takeRead 143 = .ok (.iaload, 1) := by decide +kernel
theorem dX12_takeRead_144 : decode cX12_takeRead 144 = .ok (.iastore, 1) := by decide +kernel
theorem dX12_takeRead_145 : decode cX12_takeRead 145 = .ok (.iinc 1 1, 3) := by decide +kernel
theorem dX12_takeRead_148 : decode cX12_takeRead 148 = .ok (.goto (-101), 3) := by decide +kernel
theorem dX12_takeRead_151 : decode cX12_takeRead 151 = .ok (.iconst 0, 1) := by decide +kernel
theorem dX12_takeRead_152 : decode cX12_takeRead 152 = .ok (.istore_n 1, 1) := by decide +kernel
theorem dX12_takeRead_153 : decode cX12_takeRead 153 = .ok (.iload_n 1, 1) := by decide +kernel
theorem dX12_takeRead_154 : decode cX12_takeRead 154 = .ok (.bipush 21, 2) := by decide +kernel
theorem dX12_takeRead_156 : decode cX12_takeRead 156 = .ok (.if_icmp .ge 16, 3) := by decide +kernel
theorem dX12_takeRead_159 : decode cX12_takeRead 159 = .ok (.aload_n 0, 1) := by decide +kernel
theorem dX12_takeRead_160 : decode cX12_takeRead 160 = .ok (.getfield 28, 3) := by decide +kernel
theorem dX12_takeRead_163 : decode cX12_takeRead 163 = .ok (.iload_n 1, 1) := by decide +kernel
theorem dX12_takeRead_164 : decode cX12_takeRead 164 = .ok (.iconst 0, 1) := by decide +kernel
theorem dX12_takeRead_165 : decode cX12_takeRead 165 = .ok (.iastore, 1) := by decide +kernel
theorem dX12_takeRead_166 : decode cX12_takeRead 166 = .ok (.iinc 1 1, 3) := by decide +kernel
theorem dX12_takeRead_169 : decode cX12_takeRead 169 = .ok (.goto (-16), 3) := by decide +kernel
theorem dX12_takeRead_172 : decode cX12_takeRead 172 = .ok (.iconst 0, 1) := by decide +kernel
theorem dX12_takeRead_173 : decode cX12_takeRead 173 = .ok (.istore_n 1, 1) := by decide +kernel
theorem dX12_takeRead_174 : decode cX12_takeRead 174 = .ok (.iload_n 1, 1) := by decide +kernel
theorem dX12_takeRead_175 : decode cX12_takeRead 175 = .ok (.iconst 5, 1) := by decide +kernel
theorem dX12_takeRead_176 : decode cX12_takeRead 176 = .ok (.if_icmp .ge 88, 3) := by decide +kernel
theorem dX12_takeRead_179 : decode cX12_takeRead 179 = .ok (.aload_n 0, 1) := by decide +kernel
theorem dX12_takeRead_180 : decode cX12_takeRead 180 = .ok (.getfield 28, 3) := by decide +kernel
theorem dX12_takeRead_183 : decode cX12_takeRead 183 = .ok (.iload_n 1, 1) := by decide +kernel
theorem dX12_takeRead_184 : decode cX12_takeRead 184 = .ok (.iload_n 1, 1) := by decide +kernel
theorem dX12_takeRead_185 : decode cX12_takeRead 185 = .ok (.aload_n 0, 1) := by decide +kernel
theorem dX12_takeRead_186 : decode cX12_takeRead 186 = .ok (.getfield 100, 3) := by decide +kernel
theorem dX12_takeRead_189 : decode cX12_takeRead 189 = .ok (.if_icmp .ge 12, 3) := by decide +kernel
theorem dX12_takeRead_192 : decode cX12_takeRead 192 = .ok (.aload_n 0, 1) := by decide +kernel
theorem dX12_takeRead_193 : decode cX12_takeRead 193 = .ok (.getfield 47, 3) := by decide +kernel
theorem dX12_takeRead_196 : decode cX12_takeRead 196 = .ok (.iload_n 1, 1) := by decide +kernel
theorem dX12_takeRead_197 : decode cX12_takeRead 197 = .ok (.iaload, 1) := by decide +kernel
theorem dX12_takeRead_198 : decode cX12_takeRead 198 = .ok (.goto 4, 3) := by decide +kernel
theorem dX12_takeRead_201 : decode cX12_takeRead 201 = .ok (.iconst 0, 1) := by decide +kernel
theorem dX12_takeRead_202 : decode cX12_takeRead 202 = .ok (.iastore, 1) := by decide +kernel
theorem dX12_takeRead_203 : decode cX12_takeRead 203 = .ok (.aload_n 0, 1) := by decide +kernel
theorem dX12_takeRead_204 : decode cX12_takeRead 204 = .ok (.getfield 28, 3) := by decide +kernel
theorem dX12_takeRead_207 : decode cX12_takeRead 207 = .ok (.iconst 5, 1) := by decide +kernel
theorem dX12_takeRead_208 : decode cX12_takeRead 208 = .ok (.iload_n 1, 1) := by decide +kernel
theorem dX12_takeRead_209 : decode cX12_takeRead 209 = .ok (.iadd, 1) := by decide +kernel
theorem dX12_takeRead_210 : decode cX12_takeRead 210 = .ok (.iconst (-1), 1) := by decide +kernel
theorem dX12_takeRead_211 : decode cX12_takeRead 211 = .ok (.iastore, 1) := by decide +kernel
theorem dX12_takeRead_212 : decode cX12_takeRead 212 = .ok (.aload_n 0, 1) := by decide +kernel
theorem dX12_takeRead_213 : decode cX12_takeRead 213 = .ok (.getfield 28, 3) := by decide +kernel
theorem dX12_takeRead_216 : decode cX12_takeRead 216 = .ok (.bipush 10, 2) := by decide +kernel
theorem dX12_takeRead_218 : decode cX12_takeRead 218 = .ok (.iload_n 1, 1) := by decide +kernel
theorem dX12_takeRead_219 : decode cX12_takeRead 219 = .ok (.iadd, 1) := by decide +kernel
theorem dX12_takeRead_220 : decode cX12_takeRead 220 = .ok (.iload_n 1, 1) := by decide +kernel
theorem dX12_takeRead_221 : decode cX12_takeRead 221 = .ok (.aload_n 0, 1) := by decide +kernel
theorem dX12_takeRead_222 : decode cX12_takeRead 222 = .ok (.getfield 100, 3) := by decide +kernel
theorem dX12_takeRead_225 : decode cX12_takeRead 225 = .ok (.if_icmp .ge 12, 3) := by decide +kernel
theorem dX12_takeRead_228 : decode cX12_takeRead 228 = .ok (.aload_n 0, 1) := by decide +kernel
theorem dX12_takeRead_229 : decode cX12_takeRead 229 = .ok (.getfield 50, 3) := by decide +kernel
theorem dX12_takeRead_232 : decode cX12_takeRead 232 = .ok (.iload_n 1, 1) := by decide +kernel
theorem dX12_takeRead_233 : decode cX12_takeRead 233 = .ok (.iaload, 1) := by decide +kernel
theorem dX12_takeRead_234 : decode cX12_takeRead 234 = .ok (.goto 4, 3) := by decide +kernel
theorem dX12_takeRead_237 : decode cX12_takeRead 237 = .ok (.iconst 0, 1) := by decide +kernel
theorem dX12_takeRead_238 : decode cX12_takeRead 238 = .ok (.iastore, 1) := by decide +kernel
theorem dX12_takeRead_239 : decode cX12_takeRead 239 = .ok (.aload_n 0, 1) := by decide +kernel
theorem dX12_takeRead_240 : decode cX12_takeRead 240 = .ok (.getfield 22, 3) := by decide +kernel
theorem dX12_takeRead_243 : decode cX12_takeRead 243 = .ok (.iload_n 1, 1) := by decide +kernel
theorem dX12_takeRead_244 : decode cX12_takeRead 244 = .ok (.aload_n 0, 1) := by decide +kernel
theorem dX12_takeRead_245 : decode cX12_takeRead 245 = .ok (.getfield 53, 3) := by decide +kernel
theorem dX12_takeRead_248 : decode cX12_takeRead 248 = .ok (.iload_n 1, 1) := by decide +kernel
theorem dX12_takeRead_249 : decode cX12_takeRead 249 = .ok (.iaload, 1) := by decide +kernel
theorem dX12_takeRead_250 : decode cX12_takeRead 250 = .ok (.iastore, 1) := by decide +kernel
theorem dX12_takeRead_251 : decode cX12_takeRead 251 = .ok (.aload_n 0, 1) := by decide +kernel
theorem dX12_takeRead_252 : decode cX12_takeRead 252 = .ok (.getfield 25, 3) := by decide +kernel
theorem dX12_takeRead_255 : decode cX12_takeRead 255 = .ok (.iload_n 1, 1) := by decide +kernel
theorem dX12_takeRead_256 : decode cX12_takeRead 256 = .ok (.iconst (-1), 1) := by decide +kernel
theorem dX12_takeRead_257 : decode cX12_takeRead 257 = .ok (.iastore, 1) := by decide +kernel
theorem dX12_takeRead_258 : decode cX12_takeRead 258 = .ok (.iinc 1 1, 3) := by decide +kernel
theorem dX12_takeRead_261 : decode cX12_takeRead 261 = .ok (.goto (-87), 3) := by decide +kernel
theorem dX12_takeRead_264 : decode cX12_takeRead 264 = .ok (.return_, 1) := by decide +kernel
theorem dX12_water_0 : decode cX12_water 0 = .ok (.aload_n 0, 1) := by decide +kernel
theorem dX12_water_1 : decode cX12_water 1 = .ok (.iconst (-1), 1) := by decide +kernel
theorem dX12_water_2 : decode cX12_water 2 = .ok (.putfield 34, 3) := by decide +kernel
theorem dX12_water_5 : decode cX12_water 5 = .ok (.aload_n 0, 1) := by decide +kernel
theorem dX12_water_6 : decode cX12_water 6 = .ok (.iconst 0, 1) := by decide +kernel
theorem dX12_water_7 : decode cX12_water 7 = .ok (.putfield 110, 3) := by decide +kernel
theorem dX12_water_10 : decode cX12_water 10 = .ok (.aload_n 0, 1) := by decide +kernel
theorem dX12_water_11 : decode cX12_water 11 = .ok (.iconst 0, 1) := by decide +kernel
theorem dX12_water_12 : decode cX12_water 12 = .ok (.putfield 134, 3) := by decide +kernel
theorem dX12_water_15 : decode cX12_water 15 = .ok (.aload_n 0, 1) := by decide +kernel
theorem dX12_water_16 : decode cX12_water 16 = .ok (.iconst 0, 1) := by decide +kernel
theorem dX12_water_17 : decode cX12_water 17 = .ok (.putfield 137, 3) := by decide +kernel
theorem dX12_water_20 : decode cX12_water 20 = .ok (.aload_n 0, 1) := by decide +kernel
theorem dX12_water_21 : decode cX12_water 21 = .ok (.iconst 0, 1) := by decide +kernel
theorem dX12_water_22 : decode cX12_water 22 = .ok (.putfield 148, 3) := by decide +kernel
theorem dX12_water_25 : decode cX12_water 25 = .ok (.iconst 0, 1) := by decide +kernel
theorem dX12_water_26 : decode cX12_water 26 = .ok (.istore_n 1, 1) := by decide +kernel
theorem dX12_water_27 : decode cX12_water 27 = .ok (.iload_n 1, 1) := by decide +kernel
theorem dX12_water_28 : decode cX12_water 28 = .ok (.ifCond .ne 18, 3) := by decide +kernel
theorem dX12_water_31 : decode cX12_water 31 = .ok (.aload_n 0, 1) := by decide +kernel
theorem dX12_water_32 : decode cX12_water 32 = .ok (.invokevirtual 113, 3) := by decide +kernel
theorem dX12_water_35 : decode cX12_water 35 = .ok (.ifCond .lt 11, 3) := by decide +kernel
theorem dX12_water_38 : decode cX12_water 38 = .ok (.aload_n 0, 1) := by decide +kernel
theorem dX12_water_39 : decode cX12_water 39 = .ok (.invokevirtual 163, 3) := by decide +kernel
theorem dX12_water_42 : decode cX12_water 42 = .ok (.istore_n 1, 1) := by decide +kernel
theorem dX12_water_43 : decode cX12_water 43 = .ok (.goto (-16), 3) := by decide +kernel
theorem dX12_water_46 : decode cX12_water 46 = .ok (.aload_n 0, 1) := by decide +kernel
theorem dX12_water_47 : decode cX12_water 47 = .ok (.iconst 0, 1) := by decide +kernel
theorem dX12_water_48 : decode cX12_water 48 = .ok (.putfield 106, 3) := by decide +kernel
theorem dX12_water_51 : decode cX12_water 51 = .ok (.iload_n 1, 1) := by decide +kernel
theorem dX12_water_52 : decode cX12_water 52 = .ok (.ifCond .le 8, 3) := by decide +kernel
theorem dX12_water_55 : decode cX12_water 55 = .ok (.bipush (-10), 2) := by decide +kernel
theorem dX12_water_57 : decode cX12_water 57 = .ok (.iload_n 1, 1) := by decide +kernel
theorem dX12_water_58 : decode cX12_water 58 = .ok (.isub, 1) := by decide +kernel
theorem dX12_water_59 : decode cX12_water 59 = .ok (.ireturn, 1) := by decide +kernel
theorem dX12_water_60 : decode cX12_water 60 = .ok (.aload_n 0, 1) := by decide +kernel
theorem dX12_water_61 : decode cX12_water 61 = .ok (.invokevirtual 166, 3) := by decide +kernel
theorem dX12_water_64 : decode cX12_water 64 = .ok (.aload_n 0, 1) := by decide +kernel
theorem dX12_water_65 : decode cX12_water 65 = .ok (.iconst 0, 1) := by decide +kernel
theorem dX12_water_66 : decode cX12_water 66 = .ok (.putfield 169, 3) := by decide +kernel
theorem dX12_water_69 : decode cX12_water 69 = .ok (.aload_n 0, 1) := by decide +kernel
theorem dX12_water_70 : decode cX12_water 70 = .ok (.iconst 0, 1) := by decide +kernel
theorem dX12_water_71 : decode cX12_water 71 = .ok (.putfield 172, 3) := by decide +kernel
theorem dX12_water_74 : decode cX12_water 74 = .ok (.aload_n 0, 1) := by decide +kernel
theorem dX12_water_75 : decode cX12_water 75 = .ok (.iconst 0, 1) := by decide +kernel
theorem dX12_water_76 : decode cX12_water 76 = .ok (.putfield 175, 3) := by decide +kernel
theorem dX12_water_79 : decode cX12_water 79 = .ok (.aload_n 0, 1) := by decide +kernel
theorem dX12_water_80 : decode cX12_water 80 = .ok (.getfield 89, 3) := by decide +kernel
theorem dX12_water_83 : decode cX12_water 83 = .ok (.iconst 0, 1) := by decide +kernel
theorem dX12_water_84 : decode cX12_water 84 = .ok (.iconst 0, 1) := by decide +kernel
theorem dX12_water_85 : decode cX12_water 85 = .ok (.bastore, 1) := by decide +kernel
theorem dX12_water_86 : decode cX12_water 86 = .ok (.aload_n 0, 1) := by decide +kernel
theorem dX12_water_87 : decode cX12_water 87 = .ok (.getfield 89, 3) := by decide +kernel
theorem dX12_water_90 : decode cX12_water 90 = .ok (.iconst 1, 1) := by decide +kernel
theorem dX12_water_91 : decode cX12_water 91 = .ok (.iconst 0, 1) := by decide +kernel
theorem dX12_water_92 : decode cX12_water 92 = .ok (.bastore, 1) := by decide +kernel
theorem dX12_water_93 : decode cX12_water 93 = .ok (.aload_n 0, 1) := by decide +kernel
theorem dX12_water_94 : decode cX12_water 94 = .ok (.getfield 100, 3) := by decide +kernel
theorem dX12_water_97 : decode cX12_water 97 = .ok (.ireturn, 1) := by decide +kernel
theorem dX12_fault_0 : decode cX12_fault 0 = .ok (.aload_n 0, 1) := by decide +kernel
theorem dX12_fault_1 : decode cX12_fault 1 = .ok (.getfield 34, 3) := by decide +kernel
theorem dX12_fault_4 : decode cX12_fault 4 = .ok (.ireturn, 1) := by decide +kernel
theorem dX12_board_0 : decode cX12_board 0 = .ok (.aload_n 0, 1) := by decide +kernel
theorem dX12_board_1 : decode cX12_board 1 = .ok (.aload_n 0, 1) := by decide +kernel
theorem dX12_board_2 : decode cX12_board 2 = .ok (.getfield 28, 3) := by decide +kernel
theorem dX12_board_5 : decode cX12_board 5 = .ok (.iload_n 1, 1) := by decide +kernel
theorem dX12_board_6 : decode cX12_board 6 = .ok (.iaload, 1) := by decide +kernel
theorem dX12_board_7 : decode cX12_board 7 = .ok (.putfield 178, 3) := by decide +kernel
theorem dX12_board_10 : decode cX12_board 10 = .ok (.aload_n 0, 1) := by decide +kernel
theorem dX12_board_11 : decode cX12_board 11 = .ok (.aload_n 0, 1) := by decide +kernel
theorem dX12_board_12 : decode cX12_board 12 = .ok (.getfield 28, 3) := by decide +kernel
theorem dX12_board_15 : decode cX12_board 15 = .ok (.iconst 5, 1) := by decide +kernel
theorem dX12_board_16 : decode cX12_board 16 = .ok (.iload_n 1, 1) := by decide +kernel
theorem dX12_board_17 : decode cX12_board 17 = .ok (.iadd, 1) := by decide +kernel
theorem dX12_board_18 : decode cX12_board 18 = .ok (.iaload, 1) := by decide +kernel
theorem dX12_board_19 : decode cX12_board 19 = .ok (.putfield 181, 3) := by decide +kernel
theorem dX12_board_22 : decode cX12_board 22 = .ok (.aload_n 0, 1) := by decide +kernel
theorem dX12_board_23 : decode cX12_board 23 = .ok (.aload_n 0, 1) := by decide +kernel
theorem dX12_board_24 : decode cX12_board 24 = .ok (.getfield 28, 3) := by decide +kernel
theorem dX12_board_27 : decode cX12_board 27 = .ok (.bipush 10, 2) := by decide +kernel
theorem dX12_board_29 : decode cX12_board 29 = .ok (.iload_n 1, 1) := by decide +kernel
theorem dX12_board_30 : decode cX12_board 30 = .ok (.iadd, 1) := by decide +kernel
theorem dX12_board_31 : decode cX12_board 31 = .ok (.iaload, 1) := by decide +kernel
theorem dX12_board_32 : decode cX12_board 32 = .ok (.putfield 184, 3) := by decide +kernel
theorem dX12_board_35 : decode cX12_board 35 = .ok (.return_, 1) := by decide +kernel
theorem dX12_goesTo_0 : decode cX12_goesTo 0 = .ok (.iconst (-1), 1) := by decide +kernel
theorem dX12_goesTo_1 : decode cX12_goesTo 1 = .ok (.istore_n 1, 1) := by decide +kernel
theorem dX12_goesTo_2 : decode cX12_goesTo 2 = .ok (.iconst 0, 1) := by decide +kernel
theorem dX12_goesTo_3 : decode cX12_goesTo 3 = .ok (.istore_n 2, 1) := by decide +kernel
theorem dX12_goesTo_4 : decode cX12_goesTo 4 = .ok (.iload_n 2, 1) := by decide +kernel
theorem dX12_goesTo_5 : decode cX12_goesTo 5 = .ok (.aload_n 0, 1) := by decide +kernel
theorem dX12_goesTo_6 : decode cX12_goesTo 6 = .ok (.getfield 93, 3) := by decide +kernel
theorem dX12_goesTo_9 : decode cX12_goesTo 9 = .ok (.if_icmp .ge 80, 3) := by decide +kernel
theorem dX12_goesTo_12 : decode cX12_goesTo 12 = .ok (.iload_n 2, 1) := by decide +kernel
theorem dX12_goesTo_13 : decode cX12_goesTo 13 = .ok (.aload_n 0, 1) := by decide +kernel
theorem dX12_goesTo_14 : decode cX12_goesTo 14 = .ok (.getfield 181, 3) := by decide +kernel
theorem dX12_goesTo_17 : decode cX12_goesTo 17 = .ok (.if_icmp .ne 7, 3) := by decide +kernel
theorem dX12_goesTo_20 : decode cX12_goesTo 20 = .ok (.iconst (-1), 1) := by decide +kernel
theorem dX12_goesTo_21 : decode cX12_goesTo 21 = .ok (.goto 17, 3) := by decide +kernel
theorem dX12_goesTo_24 : decode cX12_goesTo 24 = .ok (.aload_n 0, 1) := by decide +kernel
theorem dX12_goesTo_25 : decode cX12_goesTo 25 = .ok (.getfield 19, 3) := by decide +kernel
theorem dX12_goesTo_28 : decode cX12_goesTo 28 = .ok (.bipush 9, 2) := by decide +kernel
theorem dX12_goesTo_30 : decode cX12_goesTo 30 = .ok (.aload_n 0, 1) := by decide +kernel
theorem dX12_goesTo_31 : decode cX12_goesTo 31 = .ok (.getfield 178, 3) := by decide +kernel
theorem dX12_goesTo_34 : decode cX12_goesTo 34 = .ok (.imul, 1) := by decide +kernel
theorem dX12_goesTo_35 : decode cX12_goesTo 35 = .ok (.iload_n 2, 1) := by decide +kernel
theorem dX12_goesTo_36 : decode cX12_goesTo 36 = .ok (.iadd, 1) := by decide +kernel
theorem dX12_goesTo_37 : decode cX12_goesTo 37 = .ok (.iaload, 1) := by decide +kernel
theorem dX12_goesTo_38 : decode cX12_goesTo 38 = .ok (.istore_n 3, 1) := by decide +kernel
theorem dX12_goesTo_39 : decode cX12_goesTo 39 = .ok (.iload_n 3, 1) := by decide +kernel
theorem dX12_goesTo_40 : decode cX12_goesTo 40 = .ok (.ifCond .lt 29, 3) := by decide +kernel
theorem dX12_goesTo_43 : decode cX12_goesTo 43 = .ok (.iload_n 1, 1) := by decide +kernel
theorem dX12_goesTo_44 : decode cX12_goesTo 44 = .ok (.ifCond .lt 21, 3) := by decide +kernel
theorem dX12_goesTo_47 : decode cX12_goesTo 47 = .ok (.iload_n 3, 1) := by decide +kernel
theorem dX12_goesTo_48 : decode cX12_goesTo 48 = .ok (.aload_n 0, 1) := by decide +kernel
theorem dX12_goesTo_49 : decode cX12_goesTo 49 = .ok (.getfield 19, 3) := by decide +kernel
theorem dX12_goesTo_52 : decode cX12_goesTo 52 = .ok (.bipush 9, 2) := by decide +kernel
theorem dX12_goesTo_54 : decode cX12_goesTo 54 = .ok (.aload_n 0, 1) := by decide +kernel
theorem dX12_goesTo_55 : decode cX12_goesTo 55 = .ok (.getfield 178, 3) := by decide +kernel
theorem dX12_goesTo_58 : decode cX12_goesTo 58 = .ok (.imul, 1) := by decide +kernel
theorem dX12_goesTo_59 : decode cX12_goesTo 59 = .ok (.iload_n 1, 1) := by decide +kernel
theorem dX12_goesTo_60 : decode cX12_goesTo 60 = .ok (.iadd, 1) := by decide +kernel
theorem dX12_goesTo_61 : decode cX12_goesTo 61 = .ok (.iaload, 1) := by decide +kernel
theorem dX12_goesTo_62 : decode cX12_goesTo 62 = .ok (.if_icmp .ge 7, 3) := by decide +kernel
theorem dX12_goesTo_65 : decode cX12_goesTo 65 = .ok (.iconst 1, 1) := by decide +kernel
theorem dX12_goesTo_66 : decode cX12_goesTo 66 = .ok (.goto 4, 3) := by decide +kernel
theorem dX12_goesTo_69 : decode cX12_goesTo 69 = .ok (.iconst 0, 1) := by decide +kernel
theorem dX12_goesTo_70 : decode cX12_goesTo 70 = .ok (.istore 4, 2) := by decide +kernel
theorem dX12_goesTo_72 : decode cX12_goesTo 72 = .ok (.iload 4, 2) := by decide +kernel
theorem dX12_goesTo_74 : decode cX12_goesTo 74 = .ok (.ifCond .eq 7, 3) := by decide +kernel
theorem dX12_goesTo_77 : decode cX12_goesTo 77 = .ok (.iload_n 2, 1) := by decide +kernel
theorem dX12_goesTo_78 : decode cX12_goesTo 78 = .ok (.goto 4, 3) := by decide +kernel
theorem dX12_goesTo_81 : decode cX12_goesTo 81 = .ok (.iload_n 1, 1) := by decide +kernel
theorem dX12_goesTo_82 : decode cX12_goesTo 82 = .ok (.istore_n 1, 1) := by decide +kernel
theorem dX12_goesTo_83 : decode cX12_goesTo 83 = .ok (.iinc 2 1, 3) := by decide +kernel
theorem dX12_goesTo_86 : decode cX12_goesTo 86 = .ok (.goto (-82), 3) := by decide +kernel
theorem dX12_goesTo_89 : decode cX12_goesTo 89 = .ok (.iload_n 1, 1) := by decide +kernel
theorem dX12_goesTo_90 : decode cX12_goesTo 90 = .ok (.ifCond .lt 28, 3) := by decide +kernel
theorem dX12_goesTo_93 : decode cX12_goesTo 93 = .ok (.aload_n 0, 1) := by decide +kernel
theorem dX12_goesTo_94 : decode cX12_goesTo 94 = .ok (.getfield 184, 3) := by decide +kernel
theorem dX12_goesTo_97 : decode cX12_goesTo 97 = .ok (.aload_n 0, 1) := by decide +kernel
theorem dX12_goesTo_98 : decode cX12_goesTo 98 = .ok (.getfield 19, 3) := by decide +kernel
theorem dX12_goesTo_101 : decode cX12_goesTo 101 = .ok (.bipush 9, 2) := by decide +kernel
theorem dX12_goesTo_103 : decode cX12_goesTo 103 = .ok (.aload_n 0, 1) := by decide +kernel
theorem dX12_goesTo_104 : decode cX12_goesTo 104 = .ok (.getfield 178, 3) := by decide +kernel
theorem dX12_goesTo_107 : decode cX12_goesTo 107 = .ok (.imul, 1) := by decide +kernel
theorem dX12_goesTo_108 : decode cX12_goesTo 108 = .ok (.iload_n 1, 1) := by decide +kernel
theorem dX12_goesTo_109 : decode cX12_goesTo 109 = .ok (.iadd, 1) := by decide +kernel
theorem dX12_goesTo_110 : decode cX12_goesTo 110 = .ok (.iaload, 1) := by decide +kernel
theorem dX12_goesTo_111 : decode cX12_goesTo 111 = .ok (.if_icmp .le 7, 3) := by decide +kernel
theorem dX12_goesTo_114 : decode cX12_goesTo 114 = .ok (.iload_n 1, 1) := by decide +kernel
theorem dX12_goesTo_115 : decode cX12_goesTo 115 = .ok (.goto 4, 3) := by decide +kernel
theorem dX12_goesTo_118 : decode cX12_goesTo 118 = .ok (.iconst (-1), 1) := by decide +kernel
theorem dX12_goesTo_119 : decode cX12_goesTo 119 = .ok (.ireturn, 1) := by decide +kernel
theorem dX12_go_0 : decode cX12_go 0 = .ok (.aload_n 0, 1) := by decide +kernel
theorem dX12_go_1 : decode cX12_go 1 = .ok (.invokevirtual 187, 3) := by decide +kernel
theorem dX12_go_4 : decode cX12_go 4 = .ok (.istore_n 2, 1) := by decide +kernel
theorem dX12_go_5 : decode cX12_go 5 = .ok (.iload_n 2, 1) := by decide +kernel
theorem dX12_go_6 : decode cX12_go 6 = .ok (.ifCond .ge 5, 3) := by decide +kernel
theorem dX12_go_9 : decode cX12_go 9 = .ok (.iconst 0, 1) := by decide +kernel
theorem dX12_go_10 : decode cX12_go 10 = .ok (.ireturn, 1) := by decide +kernel
theorem dX12_go_11 : decode cX12_go 11 = .ok (.aload_n 0, 1) := by decide +kernel
theorem dX12_go_12 : decode cX12_go 12 = .ok (.aload_n 0, 1) := by decide +kernel
theorem dX12_go_13 : decode cX12_go 13 = .ok (.getfield 178, 3) := by decide +kernel
theorem dX12_go_16 : decode cX12_go 16 = .ok (.putfield 181, 3) := by decide +kernel
theorem dX12_go_19 : decode cX12_go 19 = .ok (.aload_n 0, 1) := by decide +kernel
theorem dX12_go_20 : decode cX12_go 20 = .ok (.iload_n 2, 1) := by decide +kernel
theorem dX12_go_21 : decode cX12_go 21 = .ok (.putfield 178, 3) := by decide +kernel
theorem dX12_go_24 : decode cX12_go 24 = .ok (.aload_n 0, 1) := by decide +kernel
theorem dX12_go_25 : decode cX12_go 25 = .ok (.aload_n 0, 1) := by decide +kernel
theorem dX12_go_26 : decode cX12_go 26 = .ok (.getfield 184, 3) := by decide +kernel
theorem dX12_go_29 : decode cX12_go 29 = .ok (.iload_n 1, 1) := by decide +kernel
theorem dX12_go_30 : decode cX12_go 30 = .ok (.if_icmp .le 12, 3) := by decide +kernel
theorem dX12_go_33 : decode cX12_go 33 = .ok (.aload_n 0, 1) := by decide +kernel
theorem dX12_go_34 : decode cX12_go 34 = .ok (.getfield 184, 3) := by decide +kernel
theorem dX12_go_37 : decode cX12_go 37 = .ok (.iload_n 1, 1) := by decide +kernel
theorem dX12_go_38 : decode cX12_go 38 = .ok (.isub, 1) := by decide +kernel
theorem dX12_go_39 : decode cX12_go 39 = .ok (.goto 4, 3) := by decide +kernel
theorem dX12_go_42 : decode cX12_go 42 = .ok (.iconst 0, 1) := by decide +kernel
theorem dX12_go_43 : decode cX12_go 43 = .ok (.putfield 184, 3) := by decide +kernel
theorem dX12_go_46 : decode cX12_go 46 = .ok (.iconst 1, 1) := by decide +kernel
theorem dX12_go_47 : decode cX12_go 47 = .ok (.ireturn, 1) := by decide +kernel
theorem dX12_sitting_0 : decode cX12_sitting 0 = .ok (.iconst 0, 1) := by decide +kernel
theorem dX12_sitting_1 : decode cX12_sitting 1 = .ok (.istore_n 1, 1) := by decide +kernel
theorem dX12_sitting_2 : decode cX12_sitting 2 = .ok (.iconst 0, 1) := by decide +kernel
theorem dX12_sitting_3 : decode cX12_sitting 3 = .ok (.istore_n 2, 1) := by decide +kernel
theorem dX12_sitting_4 : decode cX12_sitting 4 = .ok (.iload_n 2, 1) := by decide +kernel
theorem dX12_sitting_5 : decode cX12_sitting 5 = .ok (.aload_n 0, 1) := by decide +kernel
theorem dX12_sitting_6 : decode cX12_sitting 6 = .ok (.getfield 100, 3) := by decide +kernel
theorem dX12_sitting_9 : decode cX12_sitting 9 = .ok (.if_icmp .ge 31, 3) := by decide +kernel
theorem dX12_sitting_12 : decode cX12_sitting 12 = .ok (.aload_n 0, 1) := by decide +kernel
theorem dX12_sitting_13 : decode cX12_sitting 13 = .ok (.iload_n 2, 1) := by decide +kernel
theorem dX12_sitting_14 : decode cX12_sitting 14 = .ok (.invokevirtual 190, 3) := by decide +kernel
theorem dX12_sitting_17 : decode cX12_sitting 17 = .ok (.iload_n 1, 1) := by decide +kernel
theorem dX12_sitting_18 : decode cX12_sitting 18 = .ok (.aload_n 0, 1) := by decide +kernel
theorem dX12_sitting_19 : decode cX12_sitting 19 = .ok (.invokevirtual 187, 3) := by decide +kernel
theorem dX12_sitting_22 : decode cX12_sitting 22 = .ok (.ifCond .ge 9, 3) := by decide +kernel
theorem dX12_sitting_25 : decode cX12_sitting 25 = .ok (.iconst 1, 1) := by decide +kernel
theorem dX12_sitting_26 : decode cX12_sitting 26 = .ok (.iload_n 2, 1) := by decide +kernel
theorem dX12_sitting_27 : decode cX12_sitting 27 = .ok (.ishl, 1) := by decide +kernel
theorem dX12_sitting_28 : decode cX12_sitting 28 = .ok (.goto 4, 3) := by decide +kernel
theorem dX12_sitting_31 : decode cX12_sitting 31 = .ok (.iconst 0, 1) := by decide +kernel
theorem dX12_sitting_32 : decode cX12_sitting 32 = .ok (.ior, 1) := by decide +kernel
theorem dX12_sitting_33 : decode cX12_sitting 33 = .ok (.istore_n 1, 1) := by decide +kernel
theorem dX12_sitting_34 : decode cX12_sitting 34 = .ok (.iinc 2 1, 3) := by decide +kernel
theorem dX12_sitting_37 : decode cX12_sitting 37 = .ok (.goto (-33), 3) := by decide +kernel
theorem dX12_sitting_40 : decode cX12_sitting 40 = .ok (.iload_n 1, 1) := by decide +kernel
theorem dX12_sitting_41 : decode cX12_sitting 41 = .ok (.ireturn, 1) := by decide +kernel
theorem dX12_taken_0 : decode cX12_taken 0 = .ok (.iconst 0, 1) := by decide +kernel
theorem dX12_taken_1 : decode cX12_taken 1 = .ok (.istore_n 1, 1) := by decide +kernel
theorem dX12_taken_2 : decode cX12_taken 2 = .ok (.iconst 0, 1) := by decide +kernel
theorem dX12_taken_3 : decode cX12_taken 3 = .ok (.istore_n 2, 1) := by decide +kernel
theorem dX12_taken_4 : decode cX12_taken 4 = .ok (.iload_n 2, 1) := by decide +kernel
theorem dX12_taken_5 : decode cX12_taken 5 = .ok (.aload_n 0, 1) := by decide +kernel
theorem dX12_taken_6 : decode cX12_taken 6 = .ok (.getfield 100, 3) := by decide +kernel
theorem dX12_taken_9 : decode cX12_taken 9 = .ok (.if_icmp .ge 20, 3) := by decide +kernel
theorem dX12_taken_12 : decode cX12_taken 12 = .ok (.iload_n 1, 1) := by decide +kernel
theorem dX12_taken_13 : decode cX12_taken 13 = .ok (.iconst 1, 1) := by decide +kernel
theorem dX12_taken_14 : decode cX12_taken 14 = .ok (.aload_n 0, 1) := by decide +kernel
theorem dX12_taken_15 : decode cX12_taken 15 = .ok (.getfield 28, 3) := by decide +kernel
theorem dX12_taken_18 : decode cX12_taken 18 = .ok (.iload_n 2, 1) := by decide +kernel
theorem dX12_taken_19 : decode cX12_taken 19 = .ok (.iaload, 1) := by decide +kernel
theorem dX12_taken_20 : decode cX12_taken 20 = .ok (.ishl, 1) := by decide +kernel
theorem dX12_taken_21 : decode cX12_taken 21 = .ok (.ior, 1) := by decide +kernel
theorem dX12_taken_22 : decode cX12_taken 22 = .ok (.istore_n 1, 1) := by decide +kernel
theorem dX12_taken_23 : decode cX12_taken 23 = .ok (.iinc 2 1, 3) := by decide +kernel
theorem dX12_taken_26 : decode cX12_taken 26 = .ok (.goto (-22), 3) := by decide +kernel
theorem dX12_taken_29 : decode cX12_taken 29 = .ok (.iload_n 1, 1) := by decide +kernel
theorem dX12_taken_30 : decode cX12_taken 30 = .ok (.ireturn, 1) := by decide +kernel
theorem dX12_told_0 : decode cX12_told 0 = .ok (.iload_n 1, 1) := by decide +kernel
theorem dX12_told_1 : decode cX12_told 1 = .ok (.tableswitch 108 0 9 #[55, 60, 65, 70, 75, 83, 88, 93, 98, 103], 55) := by decide +kernel
theorem dX12_told_56 : decode cX12_told 56 = .ok (.aload_n 0, 1) := by decide +kernel
theorem dX12_told_57 : decode cX12_told 57 = .ok (.getfield 93, 3) := by decide +kernel
theorem dX12_told_60 : decode cX12_told 60 = .ok (.ireturn, 1) := by decide +kernel
theorem dX12_told_61 : decode cX12_told 61 = .ok (.aload_n 0, 1) := by decide +kernel
theorem dX12_told_62 : decode cX12_told 62 = .ok (.getfield 160, 3) := by decide +kernel
theorem dX12_told_65 : decode cX12_told 65 = .ok (.ireturn, 1) := by decide +kernel
theorem dX12_told_66 : decode cX12_told 66 = .ok (.aload_n 0, 1) := by decide +kernel
theorem dX12_told_67 : decode cX12_told 67 = .ok (.getfield 100, 3) := by decide +kernel
theorem dX12_told_70 : decode cX12_told 70 = .ok (.ireturn, 1) := by decide +kernel
theorem dX12_told_71 : decode cX12_told 71 = .ok (.aload_n 0, 1) := by decide +kernel
theorem dX12_told_72 : decode cX12_told 72 = .ok (.getfield 106, 3) := by decide +kernel
theorem dX12_told_75 : decode cX12_told 75 = .ok (.ireturn, 1) := by decide +kernel
theorem dX12_told_76 : decode cX12_told 76 = .ok (.aload_n 0, 1) := by decide +kernel
theorem dX12_told_77 : decode cX12_told 77 = .ok (.getfield 28, 3) := by decide +kernel
theorem dX12_told_80 : decode cX12_told 80 = .ok (.bipush 20, 2) := by decide +kernel
theorem dX12_told_82 : decode cX12_told 82 = .ok (.iaload, 1) := by decide +kernel
theorem dX12_told_83 : decode cX12_told 83 = .ok (.ireturn, 1) := by decide +kernel
theorem dX12_told_84 : decode cX12_told 84 = .ok (.aload_n 0, 1) := by decide +kernel
theorem dX12_told_85 : decode cX12_told 85 = .ok (.invokevirtual 194, 3) := by decide +kernel
theorem dX12_told_88 : decode cX12_told 88 = .ok (.ireturn, 1) := by decide +kernel
theorem dX12_told_89 : decode cX12_told 89 = .ok (.aload_n 0, 1) := by decide +kernel
theorem dX12_told_90 : decode cX12_told 90 = .ok (.invokevirtual 197, 3) := by decide +kernel
theorem dX12_told_93 : decode cX12_told 93 = .ok (.ireturn, 1) := by decide +kernel
theorem dX12_told_94 : decode cX12_told 94 = .ok (.aload_n 0, 1) := by decide +kernel
theorem dX12_told_95 : decode cX12_told 95 = .ok (.getfield 169, 3) := by decide +kernel
theorem dX12_told_98 : decode cX12_told 98 = .ok (.ireturn, 1) := by decide +kernel
theorem dX12_told_99 : decode cX12_told 99 = .ok (.aload_n 0, 1) := by decide +kernel
theorem dX12_told_100 : decode cX12_told 100 = .ok (.getfield 172, 3) := by decide +kernel
theorem dX12_told_103 : decode cX12_told 103 = .ok (.ireturn, 1) := by decide +kernel
theorem dX12_told_104 : decode cX12_told 104 = .ok (.aload_n 0, 1) := by decide +kernel
theorem dX12_told_105 : decode cX12_told 105 = .ok (.getfield 175, 3) := by decide +kernel
theorem dX12_told_108 : decode cX12_told 108 = .ok (.ireturn, 1) := by decide +kernel
theorem dX12_told_109 : decode cX12_told 109 = .ok (.ldc 105, 2) := by decide +kernel
theorem dX12_told_111 : decode cX12_told 111 = .ok (.ireturn, 1) := by decide +kernel
theorem dX12_cut_0 : decode cX12_cut 0 = .ok (.iload_n 1, 1) := by decide +kernel
theorem dX12_cut_1 : decode cX12_cut 1 = .ok (.i2l, 1) := by decide +kernel
theorem dX12_cut_2 : decode cX12_cut 2 = .ok (.lconst 0, 1) := by decide +kernel
theorem dX12_cut_3 : decode cX12_cut 3 = .ok (.aload_n 0, 1) := by decide +kernel
theorem dX12_cut_4 : decode cX12_cut 4 = .ok (.getfield 160, 3) := by decide +kernel
theorem dX12_cut_7 : decode cX12_cut 7 = .ok (.iconst 1, 1) := by decide +kernel
theorem dX12_cut_8 : decode cX12_cut 8 = .ok (.isub, 1) := by decide +kernel
theorem dX12_cut_9 : decode cX12_cut 9 = .ok (.i2l, 1) := by decide +kernel
theorem dX12_cut_10 : decode cX12_cut 10 = .ok (.invokestatic 96, 3) := by decide +kernel
theorem dX12_cut_13 : decode cX12_cut 13 = .ok (.ifCond .ne 6, 3) := by decide +kernel
theorem dX12_cut_16 : decode cX12_cut 16 = .ok (.ldc 200, 2) := by decide +kernel
theorem dX12_cut_18 : decode cX12_cut 18 = .ok (.ireturn, 1) := by decide +kernel
theorem dX12_cut_19 : decode cX12_cut 19 = .ok (.iload_n 2, 1) := by decide +kernel
theorem dX12_cut_20 : decode cX12_cut 20 = .ok (.ifCond .ne 12, 3) := by decide +kernel
theorem dX12_cut_23 : decode cX12_cut 23 = .ok (.aload_n 0, 1) := by decide +kernel
theorem dX12_cut_24 : decode cX12_cut 24 = .ok (.getfield 7, 3) := by decide +kernel
theorem dX12_cut_27 : decode cX12_cut 27 = .ok (.iload_n 1, 1) := by decide +kernel
theorem dX12_cut_28 : decode cX12_cut 28 = .ok (.iaload, 1) := by decide +kernel
theorem dX12_cut_29 : decode cX12_cut 29 = .ok (.goto 33, 3) := by decide +kernel
theorem dX12_cut_32 : decode cX12_cut 32 = .ok (.iload_n 2, 1) := by decide +kernel
theorem dX12_cut_33 : decode cX12_cut 33 = .ok (.iconst 1, 1) := by decide +kernel
theorem dX12_cut_34 : decode cX12_cut 34 = .ok (.if_icmp .ne 12, 3) := by decide +kernel
theorem dX12_cut_37 : decode cX12_cut 37 = .ok (.aload_n 0, 1) := by decide +kernel
theorem dX12_cut_38 : decode cX12_cut 38 = .ok (.getfield 13, 3) := by decide +kernel
theorem dX12_cut_41 : decode cX12_cut 41 = .ok (.iload_n 1, 1) := by decide +kernel
theorem dX12_cut_42 : decode cX12_cut 42 = .ok (.iaload, 1) := by decide +kernel
theorem dX12_cut_43 : decode cX12_cut 43 = .ok (.goto 19, 3) := by decide +kernel
theorem dX12_cut_46 : decode cX12_cut 46 = .ok (.iload_n 2, 1) := by decide +kernel
theorem dX12_cut_47 : decode cX12_cut 47 = .ok (.iconst 2, 1) := by decide +kernel
theorem dX12_cut_48 : decode cX12_cut 48 = .ok (.if_icmp .ne 12, 3) := by decide +kernel
theorem dX12_cut_51 : decode cX12_cut 51 = .ok (.aload_n 0, 1) := by decide +kernel
theorem dX12_cut_52 : decode cX12_cut 52 = .ok (.getfield 16, 3) := by decide +kernel
theorem dX12_cut_55 : decode cX12_cut 55 = .ok (.iload_n 1, 1) := by decide +kernel
theorem dX12_cut_56 : decode cX12_cut 56 = .ok (.iaload, 1) := by decide +kernel
theorem dX12_cut_57 : decode cX12_cut 57 = .ok (.goto 5, 3) := by decide +kernel
theorem dX12_cut_60 : decode cX12_cut 60 = .ok (.ldc 105, 2) := by decide +kernel
theorem dX12_cut_62 : decode cX12_cut 62 = .ok (.ireturn, 1) := by decide +kernel
theorem dX12_boat_0 : decode cX12_boat 0 = .ok (.aload_n 0, 1) := by decide +kernel
theorem dX12_boat_1 : decode cX12_boat 1 = .ok (.iload_n 1, 1) := by decide +kernel
theorem dX12_boat_2 : decode cX12_boat 2 = .ok (.invokevirtual 201, 3) := by decide +kernel
theorem dX12_boat_5 : decode cX12_boat 5 = .ok (.ifCond .ne 6, 3) := by decide +kernel
theorem dX12_boat_8 : decode cX12_boat 8 = .ok (.ldc 200, 2) := by decide +kernel
theorem dX12_boat_10 : decode cX12_boat 10 = .ok (.ireturn, 1) := by decide +kernel
theorem dX12_boat_11 : decode cX12_boat 11 = .ok (.iload_n 2, 1) := by decide +kernel
theorem dX12_boat_12 : decode cX12_boat 12 = .ok (.tableswitch 90 0 5 #[40, 47, 56, 66, 73, 83], 40) := by decide +kernel
theorem dX12_boat_52 : decode cX12_boat 52 = .ok (.aload_n 0, 1) := by decide +kernel
theorem dX12_boat_53 : decode cX12_boat 53 = .ok (.getfield 28, 3) := by decide +kernel
theorem dX12_boat_56 : decode cX12_boat 56 = .ok (.iload_n 1, 1) := by decide +kernel
theorem dX12_boat_57 : decode cX12_boat 57 = .ok (.iaload, 1) := by decide +kernel
theorem dX12_boat_58 : decode cX12_boat 58 = .ok (.ireturn, 1) := by decide +kernel
theorem dX12_boat_59 : decode cX12_boat 59 = .ok (.aload_n 0, 1) := by decide +kernel
theorem dX12_boat_60 : decode cX12_boat 60 = .ok (.getfield 28, 3) := by decide +kernel
theorem dX12_boat_63 : decode cX12_boat 63 = .ok (.iconst 5, 1) := by decide +kernel
theorem dX12_boat_64 : decode cX12_boat 64 = .ok (.iload_n 1, 1) := by decide +kernel
theorem dX12_boat_65 : decode cX12_boat 65 = .ok (.iadd, 1) := by decide +kernel
theorem dX12_boat_66 : decode cX12_boat 66 = .ok (.iaload, 1) := by decide +kernel
theorem dX12_boat_67 : decode cX12_boat 67 = .ok (.ireturn, 1) := by decide +kernel
theorem dX12_boat_68 : decode cX12_boat 68 = .ok (.aload_n 0, 1) := by decide +kernel
theorem dX12_boat_69 : decode cX12_boat 69 = .ok (.getfield 28, 3) := by decide +kernel
theorem dX12_boat_72 : decode cX12_boat 72 = .ok (.bipush 10, 2) := by decide +kernel
theorem dX12_boat_74 : decode cX12_boat 74 = .ok (.iload_n 1, 1) := by decide +kernel
theorem dX12_boat_75 : decode cX12_boat 75 = .ok (.iadd, 1) := by decide +kernel
theorem dX12_boat_76 : decode cX12_boat 76 = .ok (.iaload, 1) := by decide +kernel
theorem dX12_boat_77 : decode cX12_boat 77 = .ok (.ireturn, 1) := by decide +kernel
theorem dX12_boat_78 : decode cX12_boat 78 = .ok (.aload_n 0, 1) := by decide +kernel
theorem dX12_boat_79 : decode cX12_boat 79 = .ok (.getfield 22, 3) := by decide +kernel
theorem dX12_boat_82 : decode cX12_boat 82 = .ok (.iload_n 1, 1) := by decide +kernel
theorem dX12_boat_83 : decode cX12_boat 83 = .ok (.iaload, 1) := by decide +kernel
theorem dX12_boat_84 : decode cX12_boat 84 = .ok (.ireturn, 1) := by decide +kernel
theorem dX12_boat_85 : decode cX12_boat 85 = .ok (.aload_n 0, 1) := by decide +kernel
theorem dX12_boat_86 : decode cX12_boat 86 = .ok (.getfield 28, 3) := by decide +kernel
theorem dX12_boat_89 : decode cX12_boat 89 = .ok (.bipush 15, 2) := by decide +kernel
theorem dX12_boat_91 : decode cX12_boat 91 = .ok (.iload_n 1, 1) := by decide +kernel
theorem dX12_boat_92 : decode cX12_boat 92 = .ok (.iadd, 1) := by decide +kernel
theorem dX12_boat_93 : decode cX12_boat 93 = .ok (.iaload, 1) := by decide +kernel
theorem dX12_boat_94 : decode cX12_boat 94 = .ok (.ireturn, 1) := by decide +kernel
theorem dX12_boat_95 : decode cX12_boat 95 = .ok (.aload_n 0, 1) := by decide +kernel
theorem dX12_boat_96 : decode cX12_boat 96 = .ok (.getfield 25, 3) := by decide +kernel
theorem dX12_boat_99 : decode cX12_boat 99 = .ok (.iload_n 1, 1) := by decide +kernel
theorem dX12_boat_100 : decode cX12_boat 100 = .ok (.iaload, 1) := by decide +kernel
theorem dX12_boat_101 : decode cX12_boat 101 = .ok (.ireturn, 1) := by decide +kernel
theorem dX12_boat_102 : decode cX12_boat 102 = .ok (.ldc 105, 2) := by decide +kernel
theorem dX12_boat_104 : decode cX12_boat 104 = .ok (.ireturn, 1) := by decide +kernel
theorem dX12_remember_0 : decode cX12_remember 0 = .ok (.aload_n 0, 1) := by decide +kernel
theorem dX12_remember_1 : decode cX12_remember 1 = .ok (.getfield 175, 3) := by decide +kernel
theorem dX12_remember_4 : decode cX12_remember 4 = .ok (.bipush 20, 2) := by decide +kernel
theorem dX12_remember_6 : decode cX12_remember 6 = .ok (.if_icmp .ne 44, 3) := by decide +kernel
theorem dX12_remember_9 : decode cX12_remember 9 = .ok (.bipush 21, 2) := by decide +kernel
theorem dX12_remember_11 : decode cX12_remember 11 = .ok (.istore_n 1, 1) := by decide +kernel
theorem dX12_remember_12 : decode cX12_remember 12 = .ok (.iload_n 1, 1) := by decide +kernel
theorem dX12_remember_13 : decode cX12_remember 13 = .ok (.sipush 420, 3) := by decide +kernel
theorem dX12_remember_16 : decode cX12_remember 16 = .ok (.if_icmp .ge 24, 3) := by decide +kernel
theorem dX12_remember_19 : decode cX12_remember 19 = .ok (.aload_n 0, 1) := by decide +kernel
theorem dX12_remember_20 : decode cX12_remember 20 = .ok (.getfield 56, 3) := by decide +kernel
theorem dX12_remember_23 : decode cX12_remember 23 = .ok (.iload_n 1, 1) := by decide +kernel
theorem dX12_remember_24 : decode cX12_remember 24 = .ok (.bipush 21, 2) := by decide +kernel
theorem dX12_remember_26 : decode cX12_remember 26 = .ok (.isub, 1) := by decide +kernel
theorem dX12_remember_27 : decode cX12_remember 27 = .ok (.aload_n 0, 1) := by decide +kernel
theorem dX12_remember_28 : decode cX12_remember 28 = .ok (.getfield 56, 3) := by decide +kernel
theorem dX12_remember_31 : decode cX12_remember 31 = .ok (.iload_n 1, 1) := by decide +kernel
theorem dX12_remember_32 : decode cX12_remember 32 = .ok (.iaload, 1) := by decide +kernel
theorem dX12_remember_33 : decode cX12_remember 33 = .ok (.iastore, 1) := by decide +kernel
theorem dX12_remember_34 : decode cX12_remember 34 = .ok (.iinc 1 1, 3) := by decide +kernel
theorem dX12_remember_37 : decode cX12_remember 37 = .ok (.goto (-25), 3) := by decide +kernel
theorem dX12_remember_40 : decode cX12_remember 40 = .ok (.aload_n 0, 1) := by decide +kernel
theorem dX12_remember_41 : decode cX12_remember 41 = .ok (.dup, 1) := by decide +kernel
theorem dX12_remember_42 : decode cX12_remember 42 = .ok (.getfield 175, 3) := by decide +kernel
theorem dX12_remember_45 : decode cX12_remember 45 = .ok (.iconst 1, 1) := by decide +kernel
theorem dX12_remember_46 : decode cX12_remember 46 = .ok (.isub, 1) := by decide +kernel
theorem dX12_remember_47 : decode cX12_remember 47 = .ok (.putfield 175, 3) := by decide +kernel
theorem dX12_remember_50 : decode cX12_remember 50 = .ok (.iconst 0, 1) := by decide +kernel
theorem dX12_remember_51 : decode cX12_remember 51 = .ok (.istore_n 1, 1) := by decide +kernel
theorem dX12_remember_52 : decode cX12_remember 52 = .ok (.iload_n 1, 1) := by decide +kernel
theorem dX12_remember_53 : decode cX12_remember 53 = .ok (.bipush 21, 2) := by decide +kernel
theorem dX12_remember_55 : decode cX12_remember 55 = .ok (.if_icmp .ge 29, 3) := by decide +kernel
theorem dX12_remember_58 : decode cX12_remember 58 = .ok (.aload_n 0, 1) := by decide +kernel
theorem dX12_remember_59 : decode cX12_remember 59 = .ok (.getfield 56, 3) := by decide +kernel
theorem dX12_remember_62 : decode cX12_remember 62 = .ok (.bipush 21, 2) := by decide +kernel
theorem dX12_remember_64 : decode cX12_remember 64 = .ok (.aload_n 0, 1) := by decide +kernel
theorem dX12_remember_65 : decode cX12_remember 65 = .ok (.getfield 175, 3) := by decide +kernel
theorem dX12_remember_68 : decode cX12_remember 68 = .ok (.imul, 1) := by decide +kernel
theorem dX12_remember_69 : decode cX12_remember 69 = .ok (.iload_n 1, 1) := by decide +kernel
theorem dX12_remember_70 : decode cX12_remember 70 = .ok (.iadd, 1) := by decide +kernel
theorem dX12_remember_71 : decode cX12_remember 71 = .ok (.aload_n 0, 1) := by decide +kernel
theorem dX12_remember_72 : decode cX12_remember 72 = .ok (.getfield 28, 3) := by decide +kernel
theorem dX12_remember_75 : decode cX12_remember 75 = .ok (.iload_n 1, 1) := by decide +kernel
theorem dX12_remember_76 : decode cX12_remember 76 = .ok (.iaload, 1) := by decide +kernel
theorem dX12_remember_77 : decode cX12_remember 77 = .ok (.iastore, 1) := by decide +kernel
theorem dX12_remember_78 : decode cX12_remember 78 = .ok (.iinc 1 1, 3) := by decide +kernel
theorem dX12_remember_81 : decode cX12_remember 81 = .ok (.goto (-29), 3) := by decide +kernel
theorem dX12_remember_84 : decode cX12_remember 84 = .ok (.aload_n 0, 1) := by decide +kernel
theorem dX12_remember_85 : decode cX12_remember 85 = .ok (.dup, 1) := by decide +kernel
theorem dX12_remember_86 : decode cX12_remember 86 = .ok (.getfield 175, 3) := by decide +kernel
theorem dX12_remember_89 : decode cX12_remember 89 = .ok (.iconst 1, 1) := by decide +kernel
theorem dX12_remember_90 : decode cX12_remember 90 = .ok (.iadd, 1) := by decide +kernel
theorem dX12_remember_91 : decode cX12_remember 91 = .ok (.putfield 175, 3) := by decide +kernel
theorem dX12_remember_94 : decode cX12_remember 94 = .ok (.return_, 1) := by decide +kernel
theorem dX12_stepAll_0 : decode cX12_stepAll 0 = .ok (.iconst 0, 1) := by decide +kernel
theorem dX12_stepAll_1 : decode cX12_stepAll 1 = .ok (.istore_n 1, 1) := by decide +kernel
theorem dX12_stepAll_2 : decode cX12_stepAll 2 = .ok (.iload_n 1, 1) := by decide +kernel
theorem dX12_stepAll_3 : decode cX12_stepAll 3 = .ok (.aload_n 0, 1) := by decide +kernel
theorem dX12_stepAll_4 : decode cX12_stepAll 4 = .ok (.getfield 100, 3) := by decide +kernel
theorem dX12_stepAll_7 : decode cX12_stepAll 7 = .ok (.if_icmp .ge 79, 3) := by decide +kernel
theorem dX12_stepAll_10 : decode cX12_stepAll 10 = .ok (.aload_n 0, 1) := by decide +kernel
theorem dX12_stepAll_11 : decode cX12_stepAll 11 = .ok (.iload_n 1, 1) := by decide +kernel
theorem dX12_stepAll_12 : decode cX12_stepAll 12 = .ok (.invokevirtual 190, 3) := by decide +kernel
theorem dX12_stepAll_15 : decode cX12_stepAll 15 = .ok (.aload_n 0, 1) := by decide +kernel
theorem dX12_stepAll_16 : decode cX12_stepAll 16 = .ok (.getfield 28, 3) := by decide +kernel
theorem dX12_stepAll_19 : decode cX12_stepAll 19 = .ok (.bipush 15, 2) := by decide +kernel
theorem dX12_stepAll_21 : decode cX12_stepAll 21 = .ok (.iload_n 1, 1) := by decide +kernel
theorem dX12_stepAll_22 : decode cX12_stepAll 22 = .ok (.iadd, 1) := by decide +kernel
theorem dX12_stepAll_23 : decode cX12_stepAll 23 = .ok (.dup2, 1) := by decide +kernel
theorem dX12_stepAll_24 : decode cX12_stepAll 24 = .ok (.iaload, 1) := by decide +kernel
theorem dX12_stepAll_25 : decode cX12_stepAll 25 = .ok (.aload_n 0, 1) := by decide +kernel
theorem dX12_stepAll_26 : decode cX12_stepAll 26 = .ok (.aload_n 0, 1) := by decide +kernel
theorem dX12_stepAll_27 : decode cX12_stepAll 27 = .ok (.getfield 22, 3) := by decide +kernel
theorem dX12_stepAll_30 : decode cX12_stepAll 30 = .ok (.iload_n 1, 1) := by decide +kernel
theorem dX12_stepAll_31 : decode cX12_stepAll 31 = .ok (.iaload, 1) := by decide +kernel
theorem dX12_stepAll_32 : decode cX12_stepAll 32 = .ok (.invokevirtual 204, 3) := by decide +kernel
theorem dX12_stepAll_35 : decode cX12_stepAll 35 = .ok (.ifCond .eq 7, 3) := by decide +kernel
theorem dX12_stepAll_38 : decode cX12_stepAll 38 = .ok (.iconst 1, 1) := by decide +kernel
theorem dX12_stepAll_39 : decode cX12_stepAll 39 = .ok (.goto 4, 3) := by decide +kernel
theorem dX12_stepAll_42 : decode cX12_stepAll 42 = .ok (.iconst 0, 1) := by decide +kernel
theorem dX12_stepAll_43 : decode cX12_stepAll 43 = .ok (.iadd, 1) := by decide +kernel
theorem dX12_stepAll_44 : decode cX12_stepAll 44 = .ok (.iastore, 1) := by decide +kernel
theorem dX12_stepAll_45 : decode cX12_stepAll 45 = .ok (.aload_n 0, 1) := by decide +kernel
theorem dX12_stepAll_46 : decode cX12_stepAll 46 = .ok (.getfield 28, 3) := by decide +kernel
theorem dX12_stepAll_49 : decode cX12_stepAll 49 = .ok (.iload_n 1, 1) := by decide +kernel
theorem dX12_stepAll_50 : decode cX12_stepAll 50 = .ok (.aload_n 0, 1) := by decide +kernel
theorem dX12_stepAll_51 : decode cX12_stepAll 51 = .ok (.getfield 178, 3) := by decide +kernel
theorem dX12_stepAll_54 : decode cX12_stepAll 54 = .ok (.iastore, 1) := by decide +kernel
theorem dX12_stepAll_55 : decode cX12_stepAll 55 = .ok (.aload_n 0, 1) := by decide +kernel
theorem dX12_stepAll_56 : decode cX12_stepAll 56 = .ok (.getfield 28, 3) := by decide +kernel
theorem dX12_stepAll_59 : decode cX12_stepAll 59 = .ok (.iconst 5, 1) := by decide +kernel
theorem dX12_stepAll_60 : decode cX12_stepAll 60 = .ok (.iload_n 1, 1) := by decide +kernel
theorem dX12_stepAll_61 : decode cX12_stepAll 61 = .ok (.iadd, 1) := by decide +kernel
theorem dX12_stepAll_62 : decode cX12_stepAll 62 = .ok (.aload_n 0, 1) := by decide +kernel
theorem dX12_stepAll_63 : decode cX12_stepAll 63 = .ok (.getfield 181, 3) := by decide +kernel
theorem dX12_stepAll_66 : decode cX12_stepAll 66 = .ok (.iastore, 1) := by decide +kernel
theorem dX12_stepAll_67 : decode cX12_stepAll 67 = .ok (.aload_n 0, 1) := by decide +kernel
theorem dX12_stepAll_68 : decode cX12_stepAll 68 = .ok (.getfield 28, 3) := by decide +kernel
theorem dX12_stepAll_71 : decode cX12_stepAll 71 = .ok (.bipush 10, 2) := by decide +kernel
theorem dX12_stepAll_73 : decode cX12_stepAll 73 = .ok (.iload_n 1, 1) := by decide +kernel
theorem dX12_stepAll_74 : decode cX12_stepAll 74 = .ok (.iadd, 1) := by decide +kernel
theorem dX12_stepAll_75 : decode cX12_stepAll 75 = .ok (.aload_n 0, 1) := by decide +kernel
theorem dX12_stepAll_76 : decode cX12_stepAll 76 = .ok (.getfield 184, 3) := by decide +kernel
theorem dX12_stepAll_79 : decode cX12_stepAll 79 = .ok (.iastore, 1) := by decide +kernel
theorem dX12_stepAll_80 : decode cX12_stepAll 80 = .ok (.iinc 1 1, 3) := by decide +kernel
theorem dX12_stepAll_83 : decode cX12_stepAll 83 = .ok (.goto (-81), 3) := by decide +kernel
theorem dX12_stepAll_86 : decode cX12_stepAll 86 = .ok (.aload_n 0, 1) := by decide +kernel
theorem dX12_stepAll_87 : decode cX12_stepAll 87 = .ok (.getfield 28, 3) := by decide +kernel
theorem dX12_stepAll_90 : decode cX12_stepAll 90 = .ok (.bipush 20, 2) := by decide +kernel
theorem dX12_stepAll_92 : decode cX12_stepAll 92 = .ok (.dup2, 1) := by decide +kernel
theorem dX12_stepAll_93 : decode cX12_stepAll 93 = .ok (.iaload, 1) := by decide +kernel
theorem dX12_stepAll_94 : decode cX12_stepAll 94 = .ok (.iconst 1, 1) := by decide +kernel
theorem dX12_stepAll_95 : decode cX12_stepAll 95 = .ok (.iadd, 1) := by decide +kernel
theorem dX12_stepAll_96 : decode cX12_stepAll 96 = .ok (.iastore, 1) := by decide +kernel
theorem dX12_stepAll_97 : decode cX12_stepAll 97 = .ok (.return_, 1) := by decide +kernel
theorem dX12_stepsRefused_0 : decode cX12_stepsRefused 0 = .ok (.iload_n 1, 1) := by decide +kernel
theorem dX12_stepsRefused_1 : decode cX12_stepsRefused 1 = .ok (.i2l, 1) := by decide +kernel
theorem dX12_stepsRefused_2 : decode cX12_stepsRefused 2 = .ok (.lconst 1, 1) := by decide +kernel
theorem dX12_stepsRefused_3 : decode cX12_stepsRefused 3 = .ok (.ldc2_w 207, 3) := by decide +kernel
theorem dX12_stepsRefused_6 : decode cX12_stepsRefused 6 = .ok (.invokestatic 96, 3) := by decide +kernel
theorem dX12_stepsRefused_9 : decode cX12_stepsRefused 9 = .ok (.ifCond .ne 6, 3) := by decide +kernel
theorem dX12_stepsRefused_12 : decode cX12_stepsRefused 12 = .ok (.ldc 105, 2) := by decide +kernel
theorem dX12_stepsRefused_14 : decode cX12_stepsRefused 14 = .ok (.ireturn, 1) := by decide +kernel
theorem dX12_stepsRefused_15 : decode cX12_stepsRefused 15 = .ok (.aload_n 0, 1) := by decide +kernel
theorem dX12_stepsRefused_16 : decode cX12_stepsRefused 16 = .ok (.getfield 93, 3) := by decide +kernel
theorem dX12_stepsRefused_19 : decode cX12_stepsRefused 19 = .ok (.ifCond .ne 8, 3) := by decide +kernel
theorem dX12_stepsRefused_22 : decode cX12_stepsRefused 22 = .ok (.ldc 209, 2) := by decide +kernel
theorem dX12_stepsRefused_24 : decode cX12_stepsRefused 24 = .ok (.goto 22, 3) := by decide +kernel
theorem dX12_stepsRefused_27 : decode cX12_stepsRefused 27 = .ok (.aload_n 0, 1) := by decide +kernel
theorem dX12_stepsRefused_28 : decode cX12_stepsRefused 28 = .ok (.getfield 28, 3) := by decide +kernel
theorem dX12_stepsRefused_31 : decode cX12_stepsRefused 31 = .ok (.bipush 20, 2) := by decide +kernel
theorem dX12_stepsRefused_33 : decode cX12_stepsRefused 33 = .ok (.iaload, 1) := by decide +kernel
theorem dX12_stepsRefused_34 : decode cX12_stepsRefused 34 = .ok (.sipush 9000, 3) := by decide +kernel
theorem dX12_stepsRefused_37 : decode cX12_stepsRefused 37 = .ok (.if_icmp .le 8, 3) := by decide +kernel
theorem dX12_stepsRefused_40 : decode cX12_stepsRefused 40 = .ok (.ldc 109, 2) := by decide +kernel
theorem dX12_stepsRefused_42 : decode cX12_stepsRefused 42 = .ok (.goto 4, 3) := by decide +kernel
theorem dX12_stepsRefused_45 : decode cX12_stepsRefused 45 = .ok (.iconst 0, 1) := by decide +kernel
theorem dX12_stepsRefused_46 : decode cX12_stepsRefused 46 = .ok (.ireturn, 1) := by decide +kernel
theorem dX12_step_0 : decode cX12_step 0 = .ok (.aload_n 0, 1) := by decide +kernel
theorem dX12_step_1 : decode cX12_step 1 = .ok (.iload_n 1, 1) := by decide +kernel
theorem dX12_step_2 : decode cX12_step 2 = .ok (.invokevirtual 210, 3) := by decide +kernel
theorem dX12_step_5 : decode cX12_step 5 = .ok (.istore_n 2, 1) := by decide +kernel
theorem dX12_step_6 : decode cX12_step 6 = .ok (.iload_n 2, 1) := by decide +kernel
theorem dX12_step_7 : decode cX12_step 7 = .ok (.ifCond .eq 5, 3) := by decide +kernel
theorem dX12_step_10 : decode cX12_step 10 = .ok (.iload_n 2, 1) := by decide +kernel
theorem dX12_step_11 : decode cX12_step 11 = .ok (.ireturn, 1) := by decide +kernel
theorem dX12_step_12 : decode cX12_step 12 = .ok (.aload_n 0, 1) := by decide +kernel
theorem dX12_step_13 : decode cX12_step 13 = .ok (.invokevirtual 214, 3) := by decide +kernel
theorem dX12_step_16 : decode cX12_step 16 = .ok (.iconst 0, 1) := by decide +kernel
theorem dX12_step_17 : decode cX12_step 17 = .ok (.istore_n 3, 1) := by decide +kernel
theorem dX12_step_18 : decode cX12_step 18 = .ok (.iload_n 3, 1) := by decide +kernel
theorem dX12_step_19 : decode cX12_step 19 = .ok (.iload_n 1, 1) := by decide +kernel
theorem dX12_step_20 : decode cX12_step 20 = .ok (.if_icmp .ge 13, 3) := by decide +kernel
theorem dX12_step_23 : decode cX12_step 23 = .ok (.aload_n 0, 1) := by decide +kernel
theorem dX12_step_24 : decode cX12_step 24 = .ok (.invokevirtual 217, 3) := by decide +kernel
theorem dX12_step_27 : decode cX12_step 27 = .ok (.iinc 3 1, 3) := by decide +kernel
theorem dX12_step_30 : decode cX12_step 30 = .ok (.goto (-12), 3) := by decide +kernel
theorem dX12_step_33 : decode cX12_step 33 = .ok (.aload_n 0, 1) := by decide +kernel
theorem dX12_step_34 : decode cX12_step 34 = .ok (.invokevirtual 194, 3) := by decide +kernel
theorem dX12_step_37 : decode cX12_step 37 = .ok (.ireturn, 1) := by decide +kernel
theorem dX12_lighter_0 : decode cX12_lighter 0 = .ok (.iload_n 0, 1) := by decide +kernel
theorem dX12_lighter_1 : decode cX12_lighter 1 = .ok (.iload_n 1, 1) := by decide +kernel
theorem dX12_lighter_2 : decode cX12_lighter 2 = .ok (.if_icmp .le 9, 3) := by decide +kernel
theorem dX12_lighter_5 : decode cX12_lighter 5 = .ok (.iload_n 0, 1) := by decide +kernel
theorem dX12_lighter_6 : decode cX12_lighter 6 = .ok (.iload_n 1, 1) := by decide +kernel
theorem dX12_lighter_7 : decode cX12_lighter 7 = .ok (.isub, 1) := by decide +kernel
theorem dX12_lighter_8 : decode cX12_lighter 8 = .ok (.goto 4, 3) := by decide +kernel
theorem dX12_lighter_11 : decode cX12_lighter 11 = .ok (.iconst 0, 1) := by decide +kernel
theorem dX12_lighter_12 : decode cX12_lighter 12 = .ok (.ireturn, 1) := by decide +kernel
theorem dX12_heavier_0 : decode cX12_heavier 0 = .ok (.iload_n 0, 1) := by decide +kernel
theorem dX12_heavier_1 : decode cX12_heavier 1 = .ok (.iload_n 1, 1) := by decide +kernel
theorem dX12_heavier_2 : decode cX12_heavier 2 = .ok (.iadd, 1) := by decide +kernel
theorem dX12_heavier_3 : decode cX12_heavier 3 = .ok (.sipush 999, 3) := by decide +kernel
theorem dX12_heavier_6 : decode cX12_heavier 6 = .ok (.if_icmp .ge 9, 3) := by decide +kernel
theorem dX12_heavier_9 : decode cX12_heavier 9 = .ok (.iload_n 0, 1) := by decide +kernel
theorem dX12_heavier_10 : decode cX12_heavier 10 = .ok (.iload_n 1, 1) := by decide +kernel
theorem dX12_heavier_11 : decode cX12_heavier 11 = .ok (.iadd, 1) := by decide +kernel
theorem dX12_heavier_12 : decode cX12_heavier 12 = .ok (.goto 6, 3) := by decide +kernel
theorem dX12_heavier_15 : decode cX12_heavier 15 = .ok (.sipush 999, 3) := by decide +kernel
theorem dX12_heavier_18 : decode cX12_heavier 18 = .ok (.ireturn, 1) := by decide +kernel
theorem dX12_forgive_0 : decode cX12_forgive 0 = .ok (.aload_n 0, 1) := by decide +kernel
theorem dX12_forgive_1 : decode cX12_forgive 1 = .ok (.iload_n 1, 1) := by decide +kernel
theorem dX12_forgive_2 : decode cX12_forgive 2 = .ok (.invokevirtual 201, 3) := by decide +kernel
theorem dX12_forgive_5 : decode cX12_forgive 5 = .ok (.ifCond .ne 6, 3) := by decide +kernel
theorem dX12_forgive_8 : decode cX12_forgive 8 = .ok (.ldc 200, 2) := by decide +kernel
theorem dX12_forgive_10 : decode cX12_forgive 10 = .ok (.ireturn, 1) := by decide +kernel
theorem dX12_forgive_11 : decode cX12_forgive 11 = .ok (.iload_n 2, 1) := by decide +kernel
theorem dX12_forgive_12 : decode cX12_forgive 12 = .ok (.i2l, 1) := by decide +kernel
theorem dX12_forgive_13 : decode cX12_forgive 13 = .ok (.lconst 1, 1) := by decide +kernel
theorem dX12_forgive_14 : decode cX12_forgive 14 = .ok (.ldc2_w 220, 3) := by decide +kernel
theorem dX12_forgive_17 : decode cX12_forgive 17 = .ok (.invokestatic 96, 3) := by decide +kernel
theorem dX12_forgive_20 : decode cX12_forgive 20 = .ok (.ifCond .ne 6, 3) := by decide +kernel
theorem dX12_forgive_23 : decode cX12_forgive 23 = .ok (.ldc 105, 2) := by decide +kernel
theorem dX12_forgive_25 : decode cX12_forgive 25 = .ok (.ireturn, 1) := by decide +kernel
theorem dX12_forgive_26 : decode cX12_forgive 26 = .ok (.aload_n 0, 1) := by decide +kernel
theorem dX12_forgive_27 : decode cX12_forgive 27 = .ok (.invokevirtual 214, 3) := by decide +kernel
theorem dX12_forgive_30 : decode cX12_forgive 30 = .ok (.aload_n 0, 1) := by decide +kernel
theorem dX12_forgive_31 : decode cX12_forgive 31 = .ok (.getfield 28, 3) := by decide +kernel
theorem dX12_forgive_34 : decode cX12_forgive 34 = .ok (.bipush 10, 2) := by decide +kernel
theorem dX12_forgive_36 : decode cX12_forgive 36 = .ok (.iload_n 1, 1) := by decide +kernel
theorem dX12_forgive_37 : decode cX12_forgive 37 = .ok (.iadd, 1) := by decide +kernel
theorem dX12_forgive_38 : decode cX12_forgive 38 = .ok (.aload_n 0, 1) := by decide +kernel
theorem dX12_forgive_39 : decode cX12_forgive 39 = .ok (.getfield 28, 3) := by decide +kernel
theorem dX12_forgive_42 : decode cX12_forgive 42 = .ok (.bipush 10, 2) := by decide +kernel
theorem dX12_forgive_44 : decode cX12_forgive 44 = .ok (.iload_n 1, 1) := by decide +kernel
theorem dX12_forgive_45 : decode cX12_forgive 45 = .ok (.iadd, 1) := by decide +kernel
theorem dX12_forgive_46 : decode cX12_forgive 46 = .ok (.iaload, 1) := by decide +kernel
theorem dX12_forgive_47 : decode cX12_forgive 47 = .ok (.iload_n 2, 1) := by decide +kernel
theorem dX12_forgive_48 : decode cX12_forgive 48 = .ok (.invokestatic 222, 3) := by decide +kernel
theorem dX12_forgive_51 : decode cX12_forgive 51 = .ok (.iastore, 1) := by decide +kernel
theorem dX12_forgive_52 : decode cX12_forgive 52 = .ok (.aload_n 0, 1) := by decide +kernel
theorem dX12_forgive_53 : decode cX12_forgive 53 = .ok (.getfield 28, 3) := by decide +kernel
theorem dX12_forgive_56 : decode cX12_forgive 56 = .ok (.bipush 10, 2) := by decide +kernel
theorem dX12_forgive_58 : decode cX12_forgive 58 = .ok (.iload_n 1, 1) := by decide +kernel
theorem dX12_forgive_59 : decode cX12_forgive 59 = .ok (.iadd, 1) := by decide +kernel
theorem dX12_forgive_60 : decode cX12_forgive 60 = .ok (.iaload, 1) := by decide +kernel
theorem dX12_forgive_61 : decode cX12_forgive 61 = .ok (.ireturn, 1) := by decide +kernel
theorem dX12_weigh_0 : decode cX12_weigh 0 = .ok (.aload_n 0, 1) := by decide +kernel
theorem dX12_weigh_1 : decode cX12_weigh 1 = .ok (.iload_n 1, 1) := by decide +kernel
theorem dX12_weigh_2 : decode cX12_weigh 2 = .ok (.invokevirtual 201, 3) := by decide +kernel
theorem dX12_weigh_5 : decode cX12_weigh 5 = .ok (.ifCond .ne 6, 3) := by decide +kernel
theorem dX12_weigh_8 : decode cX12_weigh 8 = .ok (.ldc 200, 2) := by decide +kernel
theorem dX12_weigh_10 : decode cX12_weigh 10 = .ok (.ireturn, 1) := by decide +kernel
theorem dX12_weigh_11 : decode cX12_weigh 11 = .ok (.iload_n 2, 1) := by decide +kernel
theorem dX12_weigh_12 : decode cX12_weigh 12 = .ok (.i2l, 1) := by decide +kernel
theorem dX12_weigh_13 : decode cX12_weigh 13 = .ok (.lconst 1, 1) := by decide +kernel
theorem dX12_weigh_14 : decode cX12_weigh 14 = .ok (.ldc2_w 220, 3) := by decide +kernel
theorem dX12_weigh_17 : decode cX12_weigh 17 = .ok (.invokestatic 96, 3) := by decide +kernel
theorem dX12_weigh_20 : decode cX12_weigh 20 = .ok (.ifCond .ne 6, 3) := by decide +kernel
theorem dX12_weigh_23 : decode cX12_weigh 23 = .ok (.ldc 105, 2) := by decide +kernel
theorem dX12_weigh_25 : decode cX12_weigh 25 = .ok (.ireturn, 1) := by decide +kernel
theorem dX12_weigh_26 : decode cX12_weigh 26 = .ok (.aload_n 0, 1) := by decide +kernel
theorem dX12_weigh_27 : decode cX12_weigh 27 = .ok (.invokevirtual 214, 3) := by decide +kernel
theorem dX12_weigh_30 : decode cX12_weigh 30 = .ok (.aload_n 0, 1) := by decide +kernel
theorem dX12_weigh_31 : decode cX12_weigh 31 = .ok (.getfield 28, 3) := by decide +kernel
theorem dX12_weigh_34 : decode cX12_weigh 34 = .ok (.bipush 10, 2) := by decide +kernel
theorem dX12_weigh_36 : decode cX12_weigh 36 = .ok (.iload_n 1, 1) := by decide +kernel
theorem dX12_weigh_37 : decode cX12_weigh 37 = .ok (.iadd, 1) := by decide +kernel
theorem dX12_weigh_38 : decode cX12_weigh 38 = .ok (.aload_n 0, 1) := by decide +kernel
theorem dX12_weigh_39 : decode cX12_weigh 39 = .ok (.getfield 28, 3) := by decide +kernel
theorem dX12_weigh_42 : decode cX12_weigh 42 = .ok (.bipush 10, 2) := by decide +kernel
theorem dX12_weigh_44 : decode cX12_weigh 44 = .ok (.iload_n 1, 1) := by decide +kernel
theorem dX12_weigh_45 : decode cX12_weigh 45 = .ok (.iadd, 1) := by decide +kernel
theorem dX12_weigh_46 : decode cX12_weigh 46 = .ok (.iaload, 1) := by decide +kernel
theorem dX12_weigh_47 : decode cX12_weigh 47 = .ok (.iload_n 2, 1) := by decide +kernel
theorem dX12_weigh_48 : decode cX12_weigh 48 = .ok (.invokestatic 225, 3) := by decide +kernel
theorem dX12_weigh_51 : decode cX12_weigh 51 = .ok (.iastore, 1) := by decide +kernel
theorem dX12_weigh_52 : decode cX12_weigh 52 = .ok (.aload_n 0, 1) := by decide +kernel
theorem dX12_weigh_53 : decode cX12_weigh 53 = .ok (.getfield 28, 3) := by decide +kernel
theorem dX12_weigh_56 : decode cX12_weigh 56 = .ok (.bipush 10, 2) := by decide +kernel
theorem dX12_weigh_58 : decode cX12_weigh 58 = .ok (.iload_n 1, 1) := by decide +kernel
theorem dX12_weigh_59 : decode cX12_weigh 59 = .ok (.iadd, 1) := by decide +kernel
theorem dX12_weigh_60 : decode cX12_weigh 60 = .ok (.iaload, 1) := by decide +kernel
theorem dX12_weigh_61 : decode cX12_weigh 61 = .ok (.ireturn, 1) := by decide +kernel
theorem dX12_change_0 : decode cX12_change 0 = .ok (.aload_n 0, 1) := by decide +kernel
theorem dX12_change_1 : decode cX12_change 1 = .ok (.iload_n 1, 1) := by decide +kernel
theorem dX12_change_2 : decode cX12_change 2 = .ok (.invokevirtual 201, 3) := by decide +kernel
theorem dX12_change_5 : decode cX12_change 5 = .ok (.ifCond .eq 16, 3) := by decide +kernel
theorem dX12_change_8 : decode cX12_change 8 = .ok (.aload_n 0, 1) := by decide +kernel
theorem dX12_change_9 : decode cX12_change 9 = .ok (.iload_n 2, 1) := by decide +kernel
theorem dX12_change_10 : decode cX12_change 10 = .ok (.invokevirtual 201, 3) := by decide +kernel
theorem dX12_change_13 : decode cX12_change 13 = .ok (.ifCond .eq 8, 3) := by decide +kernel
theorem dX12_change_16 : decode cX12_change 16 = .ok (.iload_n 1, 1) := by decide +kernel
theorem dX12_change_17 : decode cX12_change 17 = .ok (.iload_n 2, 1) := by decide +kernel
theorem dX12_change_18 : decode cX12_change 18 = .ok (.if_icmp .ne 6, 3) := by decide +kernel
theorem dX12_change_21 : decode cX12_change 21 = .ok (.ldc 200, 2) := by decide +kernel
theorem dX12_change_23 : decode cX12_change 23 = .ok (.ireturn, 1) := by decide +kernel
theorem dX12_change_24 : decode cX12_change 24 = .ok (.aload_n 0, 1) := by decide +kernel
theorem dX12_change_25 : decode cX12_change 25 = .ok (.invokevirtual 214, 3) := by decide +kernel
theorem dX12_change_28 : decode cX12_change 28 = .ok (.aload_n 0, 1) := by decide +kernel
theorem dX12_change_29 : decode cX12_change 29 = .ok (.getfield 28, 3) := by decide +kernel
theorem dX12_change_32 : decode cX12_change 32 = .ok (.bipush 10, 2) := by decide +kernel
theorem dX12_change_34 : decode cX12_change 34 = .ok (.iload_n 1, 1) := by decide +kernel
theorem dX12_change_35 : decode cX12_change 35 = .ok (.iadd, 1) := by decide +kernel
theorem dX12_change_36 : decode cX12_change 36 = .ok (.iaload, 1) := by decide +kernel
theorem dX12_change_37 : decode cX12_change 37 = .ok (.istore_n 3, 1) := by decide +kernel
theorem dX12_change_38 : decode cX12_change 38 = .ok (.aload_n 0, 1) := by decide +kernel
theorem dX12_change_39 : decode cX12_change 39 = .ok (.getfield 28, 3) := by decide +kernel
theorem dX12_change_42 : decode cX12_change 42 = .ok (.bipush 10, 2) := by decide +kernel
theorem dX12_change_44 : decode cX12_change 44 = .ok (.iload_n 1, 1) := by decide +kernel
theorem dX12_change_45 : decode cX12_change 45 = .ok (.iadd, 1) := by decide +kernel
theorem dX12_change_46 : decode cX12_change 46 = .ok (.aload_n 0, 1) := by decide +kernel
theorem dX12_change_47 : decode cX12_change 47 = .ok (.getfield 28, 3) := by decide +kernel
theorem dX12_change_50 : decode cX12_change 50 = .ok (.bipush 10, 2) := by decide +kernel
theorem dX12_change_52 : decode cX12_change 52 = .ok (.iload_n 2, 1) := by decide +kernel
theorem dX12_change_53 : decode cX12_change 53 = .ok (.iadd, 1) := by decide +kernel
theorem dX12_change_54 : decode cX12_change 54 = .ok (.iaload, 1) := by decide +kernel
theorem dX12_change_55 : decode cX12_change 55 = .ok (.iastore, 1) := by decide +kernel
theorem dX12_change_56 : decode cX12_change 56 = .ok (.aload_n 0, 1) := by decide +kernel
theorem dX12_change_57 : decode cX12_change 57 = .ok (.getfield 28, 3) := by decide +kernel
theorem dX12_change_60 : decode cX12_change 60 = .ok (.bipush 10, 2) := by decide +kernel
theorem dX12_change_62 : decode cX12_change 62 = .ok (.iload_n 2, 1) := by decide +kernel
theorem dX12_change_63 : decode cX12_change 63 = .ok (.iadd, 1) := by decide +kernel
theorem dX12_change_64 : decode cX12_change 64 = .ok (.iload_n 3, 1) := by decide +kernel
theorem dX12_change_65 : decode cX12_change 65 = .ok (.iastore, 1) := by decide +kernel
theorem dX12_change_66 : decode cX12_change 66 = .ok (.aload_n 0, 1) := by decide +kernel
theorem dX12_change_67 : decode cX12_change 67 = .ok (.getfield 28, 3) := by decide +kernel
theorem dX12_change_70 : decode cX12_change 70 = .ok (.bipush 10, 2) := by decide +kernel
theorem dX12_change_72 : decode cX12_change 72 = .ok (.iload_n 1, 1) := by decide +kernel
theorem dX12_change_73 : decode cX12_change 73 = .ok (.iadd, 1) := by decide +kernel
theorem dX12_change_74 : decode cX12_change 74 = .ok (.iaload, 1) := by decide +kernel
theorem dX12_change_75 : decode cX12_change 75 = .ok (.ireturn, 1) := by decide +kernel
theorem dX12_turn_0 : decode cX12_turn 0 = .ok (.aload_n 0, 1) := by decide +kernel
theorem dX12_turn_1 : decode cX12_turn 1 = .ok (.iload_n 1, 1) := by decide +kernel
theorem dX12_turn_2 : decode cX12_turn 2 = .ok (.invokevirtual 201, 3) := by decide +kernel
theorem dX12_turn_5 : decode cX12_turn 5 = .ok (.ifCond .ne 6, 3) := by decide +kernel
theorem dX12_turn_8 : decode cX12_turn 8 = .ok (.ldc 200, 2) := by decide +kernel
theorem dX12_turn_10 : decode cX12_turn 10 = .ok (.ireturn, 1) := by decide +kernel
theorem dX12_turn_11 : decode cX12_turn 11 = .ok (.aload_n 0, 1) := by decide +kernel
theorem dX12_turn_12 : decode cX12_turn 12 = .ok (.invokevirtual 214, 3) := by decide +kernel
theorem dX12_turn_15 : decode cX12_turn 15 = .ok (.aload_n 0, 1) := by decide +kernel
theorem dX12_turn_16 : decode cX12_turn 16 = .ok (.getfield 28, 3) := by decide +kernel
theorem dX12_turn_19 : decode cX12_turn 19 = .ok (.iconst 5, 1) := by decide +kernel
theorem dX12_turn_20 : decode cX12_turn 20 = .ok (.iload_n 1, 1) := by decide +kernel
theorem dX12_turn_21 : decode cX12_turn 21 = .ok (.iadd, 1) := by decide +kernel
theorem dX12_turn_22 : decode cX12_turn 22 = .ok (.iaload, 1) := by decide +kernel
theorem dX12_turn_23 : decode cX12_turn 23 = .ok (.istore_n 2, 1) := by decide +kernel
theorem dX12_turn_24 : decode cX12_turn 24 = .ok (.aload_n 0, 1) := by decide +kernel
theorem dX12_turn_25 : decode cX12_turn 25 = .ok (.getfield 28, 3) := by decide +kernel
theorem dX12_turn_28 : decode cX12_turn 28 = .ok (.iconst 5, 1) := by decide +kernel
theorem dX12_turn_29 : decode cX12_turn 29 = .ok (.iload_n 1, 1) := by decide +kernel
theorem dX12_turn_30 : decode cX12_turn 30 = .ok (.iadd, 1) := by decide +kernel
theorem dX12_turn_31 : decode cX12_turn 31 = .ok (.iconst (-1), 1) := by decide +kernel
theorem dX12_turn_32 : decode cX12_turn 32 = .ok (.iastore, 1) := by decide +kernel
theorem dX12_turn_33 : decode cX12_turn 33 = .ok (.iload_n 2, 1) := by decide +kernel
theorem dX12_turn_34 : decode cX12_turn 34 = .ok (.ireturn, 1) := by decide +kernel
theorem dX12_draw_0 : decode cX12_draw 0 = .ok (.aload_n 0, 1) := by decide +kernel
theorem dX12_draw_1 : decode cX12_draw 1 = .ok (.aload_n 0, 1) := by decide +kernel
theorem dX12_draw_2 : decode cX12_draw 2 = .ok (.getfield 228, 3) := by decide +kernel
theorem dX12_draw_5 : decode cX12_draw 5 = .ok (.i2l, 1) := by decide +kernel
theorem dX12_draw_6 : decode cX12_draw 6 = .ok (.ldc2_w 231, 3) := by decide +kernel
theorem dX12_draw_9 : decode cX12_draw 9 = .ok (.lmul, 1) := by decide +kernel
theorem dX12_draw_10 : decode cX12_draw 10 = .ok (.ldc2_w 233, 3) := by decide +kernel
theorem dX12_draw_13 : decode cX12_draw 13 = .ok (.ladd, 1) := by decide +kernel
theorem dX12_draw_14 : decode cX12_draw 14 = .ok (.ldc2_w 235, 3) := by decide +kernel
theorem dX12_draw_17 : decode cX12_draw 17 = .ok (.lrem, 1) := by decide +kernel
theorem dX12_draw_18 : decode cX12_draw 18 = .ok (.l2i, 1) := by decide +kernel
theorem dX12_draw_19 : decode cX12_draw 19 = .ok (.putfield 228, 3) := by decide +kernel
theorem dX12_draw_22 : decode cX12_draw 22 = .ok (.aload_n 0, 1) := by decide +kernel
theorem dX12_draw_23 : decode cX12_draw 23 = .ok (.getfield 228, 3) := by decide +kernel
theorem dX12_draw_26 : decode cX12_draw 26 = .ok (.ldc 237, 2) := by decide +kernel
theorem dX12_draw_28 : decode cX12_draw 28 = .ok (.idiv, 1) := by decide +kernel
theorem dX12_draw_29 : decode cX12_draw 29 = .ok (.iload_n 1, 1) := by decide +kernel
theorem dX12_draw_30 : decode cX12_draw 30 = .ok (.irem, 1) := by decide +kernel
theorem dX12_draw_31 : decode cX12_draw 31 = .ok (.ireturn, 1) := by decide +kernel
theorem dX12_chance_0 : decode cX12_chance 0 = .ok (.aload_n 0, 1) := by decide +kernel
theorem dX12_chance_1 : decode cX12_chance 1 = .ok (.iconst 4, 1) := by decide +kernel
theorem dX12_chance_2 : decode cX12_chance 2 = .ok (.invokevirtual 238, 3) := by decide +kernel
theorem dX12_chance_5 : decode cX12_chance 5 = .ok (.istore_n 1, 1) := by decide +kernel
theorem dX12_chance_6 : decode cX12_chance 6 = .ok (.iload_n 1, 1) := by decide +kernel
theorem dX12_chance_7 : decode cX12_chance 7 = .ok (.iconst 2, 1) := by decide +kernel
theorem dX12_chance_8 : decode cX12_chance 8 = .ok (.if_icmp .ge 61, 3) := by decide +kernel
theorem dX12_chance_11 : decode cX12_chance 11 = .ok (.aload_n 0, 1) := by decide +kernel
theorem dX12_chance_12 : decode cX12_chance 12 = .ok (.aload_n 0, 1) := by decide +kernel
theorem dX12_chance_13 : decode cX12_chance 13 = .ok (.getfield 100, 3) := by decide +kernel
theorem dX12_chance_16 : decode cX12_chance 16 = .ok (.invokevirtual 238, 3) := by decide +kernel
theorem dX12_chance_19 : decode cX12_chance 19 = .ok (.istore_n 2, 1) := by decide +kernel
theorem dX12_chance_20 : decode cX12_chance 20 = .ok (.aload_n 0, 1) := by decide +kernel
theorem dX12_chance_21 : decode cX12_chance 21 = .ok (.bipush 50, 2) := by decide +kernel
theorem dX12_chance_23 : decode cX12_chance 23 = .ok (.invokevirtual 238, 3) := by decide +kernel
theorem dX12_chance_26 : decode cX12_chance 26 = .ok (.istore_n 3, 1) := by decide +kernel
theorem dX12_chance_27 : decode cX12_chance 27 = .ok (.aload_n 0, 1) := by decide +kernel
theorem dX12_chance_28 : decode cX12_chance 28 = .ok (.getfield 28, 3) := by decide +kernel
theorem dX12_chance_31 : decode cX12_chance 31 = .ok (.bipush 10, 2) := by decide +kernel
theorem dX12_chance_33 : decode cX12_chance 33 = .ok (.iload_n 2, 1) := by decide +kernel
theorem dX12_chance_34 : decode cX12_chance 34 = .ok (.iadd, 1) := by decide +kernel
theorem dX12_chance_35 : decode cX12_chance 35 = .ok (.iload_n 1, 1) := by decide +kernel
theorem dX12_chance_36 : decode cX12_chance 36 = .ok (.ifCond .ne 19, 3) := by decide +kernel
theorem dX12_chance_39 : decode cX12_chance 39 = .ok (.aload_n 0, 1) := by decide +kernel
theorem dX12_chance_40 : decode cX12_chance 40 = .ok (.getfield 28, 3) := by decide +kernel
theorem dX12_chance_43 : decode cX12_chance 43 = .ok (.bipush 10, 2) := by decide +kernel
theorem dX12_chance_45 : decode cX12_chance 45 = .ok (.iload_n 2, 1) := by decide +kernel
theorem dX12_chance_46 : decode cX12_chance 46 = .ok (.iadd, 1) := by decide +kernel
theorem dX12_chance_47 : decode cX12_chance 47 = .ok (.iaload, 1) := by decide +kernel
theorem dX12_chance_48 : decode cX12_chance 48 = .ok (.iload_n 3, 1) := by decide +kernel
theorem dX12_chance_49 : decode cX12_chance 49 = .ok (.invokestatic 222, 3) := by decide +kernel
theorem dX12_chance_52 : decode cX12_chance 52 = .ok (.goto 16, 3) := by decide +kernel
theorem dX12_chance_55 : decode cX12_chance 55 = .ok (.aload_n 0, 1) := by decide +kernel
theorem dX12_chance_56 : decode cX12_chance 56 = .ok (.getfield 28, 3) := by decide +kernel
theorem dX12_chance_59 : decode cX12_chance 59 = .ok (.bipush 10, 2) := by decide +kernel
theorem dX12_chance_61 : decode cX12_chance 61 = .ok (.iload_n 2, 1) := by decide +kernel
theorem dX12_chance_62 : decode cX12_chance 62 = .ok (.iadd, 1) := by decide +kernel
theorem dX12_chance_63 : decode cX12_chance 63 = .ok (.iaload, 1) := by decide +kernel
theorem dX12_chance_64 : decode cX12_chance 64 = .ok (.iload_n 3, 1) := by decide +kernel
theorem dX12_chance_65 : decode cX12_chance 65 = .ok (.invokestatic 225, 3) := by decide +kernel
theorem dX12_chance_68 : decode cX12_chance 68 = .ok (.iastore, 1) := by decide +kernel
theorem dX12_chance_69 : decode cX12_chance 69 = .ok (.return_, 1) := by decide +kernel
theorem dX12_drift_0 : decode cX12_drift 0 = .ok (.aload_n 0, 1) := by decide +kernel
theorem dX12_drift_1 : decode cX12_drift 1 = .ok (.iload_n 1, 1) := by decide +kernel
theorem dX12_drift_2 : decode cX12_drift 2 = .ok (.invokevirtual 210, 3) := by decide +kernel
theorem dX12_drift_5 : decode cX12_drift 5 = .ok (.istore_n 2, 1) := by decide +kernel
theorem dX12_drift_6 : decode cX12_drift 6 = .ok (.iload_n 2, 1) := by decide +kernel
theorem dX12_drift_7 : decode cX12_drift 7 = .ok (.ifCond .eq 5, 3) := by decide +kernel
theorem dX12_drift_10 : decode cX12_drift 10 = .ok (.iload_n 2, 1) := by decide +kernel
theorem dX12_drift_11 : decode cX12_drift 11 = .ok (.ireturn, 1) := by decide +kernel
theorem dX12_drift_12 : decode cX12_drift 12 = .ok (.aload_n 0, 1) := by decide +kernel
theorem dX12_drift_13 : decode cX12_drift 13 = .ok (.invokevirtual 214, 3) := by decide +kernel
theorem dX12_drift_16 : decode cX12_drift 16 = .ok (.iconst 0, 1) := by decide +kernel
theorem dX12_drift_17 : decode cX12_drift 17 = .ok (.istore_n 3, 1) := by decide +kernel
theorem dX12_drift_18 : decode cX12_drift 18 = .ok (.iload_n 3, 1) := by decide +kernel
theorem dX12_drift_19 : decode cX12_drift 19 = .ok (.iload_n 1, 1) := by decide +kernel
theorem dX12_drift_20 : decode cX12_drift 20 = .ok (.if_icmp .ge 24, 3) := by decide +kernel
theorem dX12_drift_23 : decode cX12_drift 23 = .ok (.aload_n 0, 1) := by decide +kernel
theorem dX12_drift_24 : decode cX12_drift 24 = .ok (.getfield 100, 3) := by decide +kernel
theorem dX12_drift_27 : decode cX12_drift 27 = .ok (.ifCond .le 7, 3) := by decide +kernel
theorem dX12_drift_30 : decode cX12_drift 30 = .ok (.aload_n 0, 1) := by decide +kernel
theorem dX12_drift_31 : decode cX12_drift 31 = .ok (.invokevirtual 241, 3) := by decide +kernel
theorem dX12_drift_34 : decode cX12_drift 34 = .ok (.aload_n 0, 1) := by decide +kernel
theorem dX12_drift_35 : decode cX12_drift 35 = .ok (.invokevirtual 217, 3) := by decide +kernel
theorem dX12_drift_38 : decode cX12_drift 38 = .ok (.iinc 3 1, 3) := by decide +kernel
theorem dX12_drift_41 : decode cX12_drift 41 = .ok (.goto (-23), 3) := by decide +kernel
theorem dX12_drift_44 : decode cX12_drift 44 = .ok (.aload_n 0, 1) := by decide +kernel
theorem dX12_drift_45 : decode cX12_drift 45 = .ok (.invokevirtual 194, 3) := by decide +kernel
theorem dX12_drift_48 : decode cX12_drift 48 = .ok (.ireturn, 1) := by decide +kernel
theorem dX12_undo_0 : decode cX12_undo 0 = .ok (.aload_n 0, 1) := by decide +kernel
theorem dX12_undo_1 : decode cX12_undo 1 = .ok (.getfield 175, 3) := by decide +kernel
theorem dX12_undo_4 : decode cX12_undo 4 = .ok (.ifCond .ne 6, 3) := by decide +kernel
theorem dX12_undo_7 : decode cX12_undo 7 = .ok (.ldc 209, 2) := by decide +kernel
theorem dX12_undo_9 : decode cX12_undo 9 = .ok (.ireturn, 1) := by decide +kernel
theorem dX12_undo_10 : decode cX12_undo 10 = .ok (.aload_n 0, 1) := by decide +kernel
theorem dX12_undo_11 : decode cX12_undo 11 = .ok (.dup, 1) := by decide +kernel
theorem dX12_undo_12 : decode cX12_undo 12 = .ok (.getfield 175, 3) := by decide +kernel
theorem dX12_undo_15 : decode cX12_undo 15 = .ok (.iconst 1, 1) := by decide +kernel
theorem dX12_undo_16 : decode cX12_undo 16 = .ok (.isub, 1) := by decide +kernel
theorem dX12_undo_17 : decode cX12_undo 17 = .ok (.putfield 175, 3) := by decide +kernel
theorem dX12_undo_20 : decode cX12_undo 20 = .ok (.iconst 0, 1) := by decide +kernel
theorem dX12_undo_21 : decode cX12_undo 21 = .ok (.istore_n 1, 1) := by decide +kernel
theorem dX12_undo_22 : decode cX12_undo 22 = .ok (.iload_n 1, 1) := by decide +kernel
theorem dX12_undo_23 : decode cX12_undo 23 = .ok (.bipush 21, 2) := by decide +kernel
theorem dX12_undo_25 : decode cX12_undo 25 = .ok (.if_icmp .ge 29, 3) := by decide +kernel
theorem dX12_undo_28 : decode cX12_undo 28 = .ok (.aload_n 0, 1) := by decide +kernel
theorem dX12_undo_29 : decode cX12_undo 29 = .ok (.getfield 28, 3) := by decide +kernel
theorem dX12_undo_32 : decode cX12_undo 32 = .ok (.iload_n 1, 1) := by decide +kernel
theorem dX12_undo_33 : decode cX12_undo 33 = .ok (.aload_n 0, 1) := by decide +kernel
theorem dX12_undo_34 : decode cX12_undo 34 = .ok (.getfield 56, 3) := by decide +kernel
theorem dX12_undo_37 : decode cX12_undo 37 = .ok (.bipush 21, 2) := by decide +kernel
theorem dX12_undo_39 : decode cX12_undo 39 = .ok (.aload_n 0, 1) := by decide +kernel
theorem dX12_undo_40 : decode cX12_undo 40 = .ok (.getfield 175, 3) := by decide +kernel
theorem dX12_undo_43 : decode cX12_undo 43 = .ok (.imul, 1) := by decide +kernel
theorem dX12_undo_44 : decode cX12_undo 44 = .ok (.iload_n 1, 1) := by decide +kernel
theorem dX12_undo_45 : decode cX12_undo 45 = .ok (.iadd, 1) := by decide +kernel
theorem dX12_undo_46 : decode cX12_undo 46 = .ok (.iaload, 1) := by decide +kernel
theorem dX12_undo_47 : decode cX12_undo 47 = .ok (.iastore, 1) := by decide +kernel
theorem dX12_undo_48 : decode cX12_undo 48 = .ok (.iinc 1 1, 3) := by decide +kernel
theorem dX12_undo_51 : decode cX12_undo 51 = .ok (.goto (-29), 3) := by decide +kernel
theorem dX12_undo_54 : decode cX12_undo 54 = .ok (.aload_n 0, 1) := by decide +kernel
theorem dX12_undo_55 : decode cX12_undo 55 = .ok (.getfield 175, 3) := by decide +kernel
theorem dX12_undo_58 : decode cX12_undo 58 = .ok (.ireturn, 1) := by decide +kernel
theorem dX12_quay_0 : decode cX12_quay 0 = .ok (.aload_n 0, 1) := by decide +kernel
theorem dX12_quay_1 : decode cX12_quay 1 = .ok (.iload_n 1, 1) := by decide +kernel
theorem dX12_quay_2 : decode cX12_quay 2 = .ok (.invokevirtual 201, 3) := by decide +kernel
theorem dX12_quay_5 : decode cX12_quay 5 = .ok (.ifCond .eq 16, 3) := by decide +kernel
theorem dX12_quay_8 : decode cX12_quay 8 = .ok (.iload_n 2, 1) := by decide +kernel
theorem dX12_quay_9 : decode cX12_quay 9 = .ok (.iconst (-1), 1) := by decide +kernel
theorem dX12_quay_10 : decode cX12_quay 10 = .ok (.if_icmp .eq 14, 3) := by decide +kernel
theorem dX12_quay_13 : decode cX12_quay 13 = .ok (.aload_n 0, 1) := by decide +kernel
theorem dX12_quay_14 : decode cX12_quay 14 = .ok (.iload_n 2, 1) := by decide +kernel
theorem dX12_quay_15 : decode cX12_quay 15 = .ok (.invokevirtual 244, 3) := by decide +kernel
theorem dX12_quay_18 : decode cX12_quay 18 = .ok (.ifCond .ne 6, 3) := by decide +kernel
theorem dX12_quay_21 : decode cX12_quay 21 = .ok (.ldc 200, 2) := by decide +kernel
theorem dX12_quay_23 : decode cX12_quay 23 = .ok (.ireturn, 1) := by decide +kernel
theorem dX12_quay_24 : decode cX12_quay 24 = .ok (.aload_n 0, 1) := by decide +kernel
theorem dX12_quay_25 : decode cX12_quay 25 = .ok (.getfield 25, 3) := by decide +kernel
theorem dX12_quay_28 : decode cX12_quay 28 = .ok (.iload_n 1, 1) := by decide +kernel
theorem dX12_quay_29 : decode cX12_quay 29 = .ok (.iaload, 1) := by decide +kernel
theorem dX12_quay_30 : decode cX12_quay 30 = .ok (.istore_n 3, 1) := by decide +kernel
theorem dX12_quay_31 : decode cX12_quay 31 = .ok (.aload_n 0, 1) := by decide +kernel
theorem dX12_quay_32 : decode cX12_quay 32 = .ok (.getfield 25, 3) := by decide +kernel
theorem dX12_quay_35 : decode cX12_quay 35 = .ok (.iload_n 1, 1) := by decide +kernel
theorem dX12_quay_36 : decode cX12_quay 36 = .ok (.iload_n 2, 1) := by decide +kernel
theorem dX12_quay_37 : decode cX12_quay 37 = .ok (.iastore, 1) := by decide +kernel
theorem dX12_quay_38 : decode cX12_quay 38 = .ok (.iload_n 3, 1) := by decide +kernel
theorem dX12_quay_39 : decode cX12_quay 39 = .ok (.ireturn, 1) := by decide +kernel
theorem dX12_goOn_0 : decode cX12_goOn 0 = .ok (.iconst 1, 1) := by decide +kernel
theorem dX12_goOn_1 : decode cX12_goOn 1 = .ok (.istore_n 3, 1) := by decide +kernel
theorem dX12_goOn_2 : decode cX12_goOn 2 = .ok (.iconst 0, 1) := by decide +kernel
theorem dX12_goOn_3 : decode cX12_goOn 3 = .ok (.istore 4, 2) := by decide +kernel
theorem dX12_goOn_5 : decode cX12_goOn 5 = .ok (.iload 4, 2) := by decide +kernel
theorem dX12_goOn_7 : decode cX12_goOn 7 = .ok (.iload_n 2, 1) := by decide +kernel
theorem dX12_goOn_8 : decode cX12_goOn 8 = .ok (.if_icmp .ge 19, 3) := by decide +kernel
theorem dX12_goOn_11 : decode cX12_goOn 11 = .ok (.iload_n 3, 1) := by decide +kernel
theorem dX12_goOn_12 : decode cX12_goOn 12 = .ok (.ifCond .eq 15, 3) := by decide +kernel
theorem dX12_goOn_15 : decode cX12_goOn 15 = .ok (.aload_n 0, 1) := by decide +kernel
theorem dX12_goOn_16 : decode cX12_goOn 16 = .ok (.iload_n 1, 1) := by decide +kernel
theorem dX12_goOn_17 : decode cX12_goOn 17 = .ok (.invokevirtual 204, 3) := by decide +kernel
theorem dX12_goOn_20 : decode cX12_goOn 20 = .ok (.istore_n 3, 1) := by decide +kernel
theorem dX12_goOn_21 : decode cX12_goOn 21 = .ok (.iinc 4 1, 3) := by decide +kernel
theorem dX12_goOn_24 : decode cX12_goOn 24 = .ok (.goto (-19), 3) := by decide +kernel
theorem dX12_goOn_27 : decode cX12_goOn 27 = .ok (.return_, 1) := by decide +kernel
theorem dX12_where_0 : decode cX12_where 0 = .ok (.aload_n 0, 1) := by decide +kernel
theorem dX12_where_1 : decode cX12_where 1 = .ok (.iload_n 1, 1) := by decide +kernel
theorem dX12_where_2 : decode cX12_where 2 = .ok (.invokevirtual 201, 3) := by decide +kernel
theorem dX12_where_5 : decode cX12_where 5 = .ok (.ifCond .ne 6, 3) := by decide +kernel
theorem dX12_where_8 : decode cX12_where 8 = .ok (.ldc 200, 2) := by decide +kernel
theorem dX12_where_10 : decode cX12_where 10 = .ok (.ireturn, 1) := by decide +kernel
theorem dX12_where_11 : decode cX12_where 11 = .ok (.iload_n 2, 1) := by decide +kernel
theorem dX12_where_12 : decode cX12_where 12 = .ok (.i2l, 1) := by decide +kernel
theorem dX12_where_13 : decode cX12_where 13 = .ok (.lconst 0, 1) := by decide +kernel
theorem dX12_where_14 : decode cX12_where 14 = .ok (.ldc2_w 207, 3) := by decide +kernel
theorem dX12_where_17 : decode cX12_where 17 = .ok (.invokestatic 96, 3) := by decide +kernel
theorem dX12_where_20 : decode cX12_where 20 = .ok (.ifCond .eq 13, 3) := by decide +kernel
theorem dX12_where_23 : decode cX12_where 23 = .ok (.iload_n 3, 1) := by decide +kernel
theorem dX12_where_24 : decode cX12_where 24 = .ok (.i2l, 1) := by decide +kernel
theorem dX12_where_25 : decode cX12_where 25 = .ok (.lconst 0, 1) := by decide +kernel
theorem dX12_where_26 : decode cX12_where 26 = .ok (.lconst 1, 1) := by decide +kernel
theorem dX12_where_27 : decode cX12_where 27 = .ok (.invokestatic 96, 3) := by decide +kernel
theorem dX12_where_30 : decode cX12_where 30 = .ok (.ifCond .ne 6, 3) := by decide +kernel
theorem dX12_where_33 : decode cX12_where 33 = .ok (.ldc 105, 2) := by decide +kernel
theorem dX12_where_35 : decode cX12_where 35 = .ok (.ireturn, 1) := by decide +kernel
theorem dX12_where_36 : decode cX12_where 36 = .ok (.aload_n 0, 1) := by decide +kernel
theorem dX12_where_37 : decode cX12_where 37 = .ok (.iload_n 1, 1) := by decide +kernel
theorem dX12_where_38 : decode cX12_where 38 = .ok (.invokevirtual 190, 3) := by decide +kernel
theorem dX12_where_41 : decode cX12_where 41 = .ok (.aload_n 0, 1) := by decide +kernel
theorem dX12_where_42 : decode cX12_where 42 = .ok (.aload_n 0, 1) := by decide +kernel
theorem dX12_where_43 : decode cX12_where 43 = .ok (.getfield 22, 3) := by decide +kernel
theorem dX12_where_46 : decode cX12_where 46 = .ok (.iload_n 1, 1) := by decide +kernel
theorem dX12_where_47 : decode cX12_where 47 = .ok (.iaload, 1) := by decide +kernel
theorem dX12_where_48 : decode cX12_where 48 = .ok (.iload_n 2, 1) := by decide +kernel
theorem dX12_where_49 : decode cX12_where 49 = .ok (.invokevirtual 247, 3) := by decide +kernel
theorem dX12_where_52 : decode cX12_where 52 = .ok (.iload_n 3, 1) := by decide +kernel
theorem dX12_where_53 : decode cX12_where 53 = .ok (.ifCond .ne 10, 3) := by decide +kernel
theorem dX12_where_56 : decode cX12_where 56 = .ok (.aload_n 0, 1) := by decide +kernel
theorem dX12_where_57 : decode cX12_where 57 = .ok (.getfield 178, 3) := by decide +kernel
theorem dX12_where_60 : decode cX12_where 60 = .ok (.goto 7, 3) := by decide +kernel
theorem dX12_where_63 : decode cX12_where 63 = .ok (.aload_n 0, 1) := by decide +kernel
theorem dX12_where_64 : decode cX12_where 64 = .ok (.getfield 184, 3) := by decide +kernel
theorem dX12_where_67 : decode cX12_where 67 = .ok (.ireturn, 1) := by decide +kernel
theorem dX12_sitsBehind_0 : decode cX12_sitsBehind 0 = .ok (.iconst 0, 1) := by decide +kernel
theorem dX12_sitsBehind_1 : decode cX12_sitsBehind 1 = .ok (.istore_n 2, 1) := by decide +kernel
theorem dX12_sitsBehind_2 : decode cX12_sitsBehind 2 = .ok (.iload_n 2, 1) := by decide +kernel
theorem dX12_sitsBehind_3 : decode cX12_sitsBehind 3 = .ok (.sipush 200, 3) := by decide +kernel
theorem dX12_sitsBehind_6 : decode cX12_sitsBehind 6 = .ok (.if_icmp .gt 17, 3) := by decide +kernel
theorem dX12_sitsBehind_9 : decode cX12_sitsBehind 9 = .ok (.aload_n 0, 1) := by decide +kernel
theorem dX12_sitsBehind_10 : decode cX12_sitsBehind 10 = .ok (.iload_n 1, 1) := by decide +kernel
theorem dX12_sitsBehind_11 : decode cX12_sitsBehind 11 = .ok (.invokevirtual 204, 3) := by decide +kernel
theorem dX12_sitsBehind_14 : decode cX12_sitsBehind 14 = .ok (.ifCond .eq 9, 3) := by decide +kernel
theorem dX12_sitsBehind_17 : decode cX12_sitsBehind 17 = .ok (.iinc 2 1, 3) := by decide +kernel
theorem dX12_sitsBehind_20 : decode cX12_sitsBehind 20 = .ok (.goto (-18), 3) := by decide +kernel
theorem dX12_sitsBehind_23 : decode cX12_sitsBehind 23 = .ok (.iload_n 2, 1) := by decide +kernel
theorem dX12_sitsBehind_24 : decode cX12_sitsBehind 24 = .ok (.sipush 200, 3) := by decide +kernel
theorem dX12_sitsBehind_27 : decode cX12_sitsBehind 27 = .ok (.if_icmp .gt 7, 3) := by decide +kernel
theorem dX12_sitsBehind_30 : decode cX12_sitsBehind 30 = .ok (.iload_n 2, 1) := by decide +kernel
theorem dX12_sitsBehind_31 : decode cX12_sitsBehind 31 = .ok (.goto 4, 3) := by decide +kernel
theorem dX12_sitsBehind_34 : decode cX12_sitsBehind 34 = .ok (.iconst (-1), 1) := by decide +kernel
theorem dX12_sitsBehind_35 : decode cX12_sitsBehind 35 = .ok (.ireturn, 1) := by decide +kernel
theorem dX12_sits_0 : decode cX12_sits 0 = .ok (.aload_n 0, 1) := by decide +kernel
theorem dX12_sits_1 : decode cX12_sits 1 = .ok (.iload_n 1, 1) := by decide +kernel
theorem dX12_sits_2 : decode cX12_sits 2 = .ok (.invokevirtual 201, 3) := by decide +kernel
theorem dX12_sits_5 : decode cX12_sits 5 = .ok (.ifCond .ne 6, 3) := by decide +kernel
theorem dX12_sits_8 : decode cX12_sits 8 = .ok (.ldc 200, 2) := by decide +kernel
theorem dX12_sits_10 : decode cX12_sits 10 = .ok (.ireturn, 1) := by decide +kernel
theorem dX12_sits_11 : decode cX12_sits 11 = .ok (.aload_n 0, 1) := by decide +kernel
theorem dX12_sits_12 : decode cX12_sits 12 = .ok (.iload_n 1, 1) := by decide +kernel
theorem dX12_sits_13 : decode cX12_sits 13 = .ok (.invokevirtual 190, 3) := by decide +kernel
theorem dX12_sits_16 : decode cX12_sits 16 = .ok (.aload_n 0, 1) := by decide +kernel
theorem dX12_sits_17 : decode cX12_sits 17 = .ok (.aload_n 0, 1) := by decide +kernel
theorem dX12_sits_18 : decode cX12_sits 18 = .ok (.getfield 22, 3) := by decide +kernel
theorem dX12_sits_21 : decode cX12_sits 21 = .ok (.iload_n 1, 1) := by decide +kernel
theorem dX12_sits_22 : decode cX12_sits 22 = .ok (.iaload, 1) := by decide +kernel
theorem dX12_sits_23 : decode cX12_sits 23 = .ok (.invokevirtual 251, 3) := by decide +kernel
theorem dX12_sits_26 : decode cX12_sits 26 = .ok (.ireturn, 1) := by decide +kernel
theorem dX12_round_0 : decode cX12_round 0 = .ok (.aload_n 0, 1) := by decide +kernel
theorem dX12_round_1 : decode cX12_round 1 = .ok (.iload_n 1, 1) := by decide +kernel
theorem dX12_round_2 : decode cX12_round 2 = .ok (.invokevirtual 201, 3) := by decide +kernel
theorem dX12_round_5 : decode cX12_round 5 = .ok (.ifCond .ne 6, 3) := by decide +kernel
theorem dX12_round_8 : decode cX12_round 8 = .ok (.ldc 200, 2) := by decide +kernel
theorem dX12_round_10 : decode cX12_round 10 = .ok (.ireturn, 1) := by decide +kernel
theorem dX12_round_11 : decode cX12_round 11 = .ok (.aload_n 0, 1) := by decide +kernel
theorem dX12_round_12 : decode cX12_round 12 = .ok (.iload_n 1, 1) := by decide +kernel
theorem dX12_round_13 : decode cX12_round 13 = .ok (.invokevirtual 190, 3) := by decide +kernel
theorem dX12_round_16 : decode cX12_round 16 = .ok (.aload_n 0, 1) := by decide +kernel
theorem dX12_round_17 : decode cX12_round 17 = .ok (.iconst 0, 1) := by decide +kernel
theorem dX12_round_18 : decode cX12_round 18 = .ok (.invokevirtual 251, 3) := by decide +kernel
theorem dX12_round_21 : decode cX12_round 21 = .ok (.iconst (-1), 1) := by decide +kernel
theorem dX12_round_22 : decode cX12_round 22 = .ok (.if_icmp .eq 5, 3) := by decide +kernel
theorem dX12_round_25 : decode cX12_round 25 = .ok (.iconst (-1), 1) := by decide +kernel
theorem dX12_round_26 : decode cX12_round 26 = .ok (.ireturn, 1) := by decide +kernel
theorem dX12_round_27 : decode cX12_round 27 = .ok (.aload_n 0, 1) := by decide +kernel
theorem dX12_round_28 : decode cX12_round 28 = .ok (.getfield 178, 3) := by decide +kernel
theorem dX12_round_31 : decode cX12_round 31 = .ok (.istore_n 2, 1) := by decide +kernel
theorem dX12_round_32 : decode cX12_round 32 = .ok (.aload_n 0, 1) := by decide +kernel
theorem dX12_round_33 : decode cX12_round 33 = .ok (.getfield 181, 3) := by decide +kernel
